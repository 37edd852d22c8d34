/-! the reference: dinner -/
theorem wth_ask {w : Int32} : wth w (nI 10) (nI 15) = (blw w 16 && !blw w 10) := by
  by_cases h : w < 0
  · rw [neg_2 (by decide) h, Bool.false_and]
    refine decide_eq_false (fun q => ?_)
    have q1 := Int32.le_iff_toInt_le.mp q.1
    have q2 := Int32.lt_iff_toInt_lt.mp h
    have e0 : (nI 10).toInt = 10 := rfl
    have e1 : (0 : Int32).toInt = 0 := rfl
    omega
  · obtain ⟨k, hk, rfl⟩ := nI_of h
    rw [blw_d hk (by decide), blw_d hk (by decide)]
    by_cases h1 : 10 ≤ k ∧ k ≤ 15
    · rw [show wth (nI k) (nI 10) (nI 15) = true from decide_eq_true ⟨(nI_leI (by decide) hk).mpr h1.1, (nI_leI hk (by decide)).mpr h1.2⟩, decide_eq_true (show k < 16 by omega), decide_eq_false (show ¬ k < 10 by omega)]; rfl
    · rw [show wth (nI k) (nI 10) (nI 15) = false from decide_eq_false (fun q => h1 ⟨(nI_leI (by decide) hk).mp q.1, (nI_leI hk (by decide)).mp q.2⟩)]
      by_cases h2 : k < 16
      · rw [decide_eq_true h2, decide_eq_true (show k < 10 by omega)]; rfl
      · rw [decide_eq_false h2]; rfl
set_option maxRecDepth 20000 in
theorem c_within_ask {S : Nat → Nat → Int32} {L : Nat → Nat → Int64} {R : Nat × Nat × Nat} {d : Nat} {x : Int32} : TT mX7_within (d + 0) 0 [some (.int x), some (.int (nI 10)), some (.int (nI 15))] [] (S, L, R) (rt (some (.int (bI (blw x 16 && !blw x 10)))) (S, L, R)) := by
  have q := c_X7_within (S := S) (L := L) (R := R) (d := d) (x := x) (l := nI 10) (h := nI 15)
  rw [wth_ask] at q; exact q
theorem allN_no {f : Nat → Bool} {n k : Nat} (hk : k < n) (h : f k = false) : allN f n = false := by
  cases e : allN f n with
  | false => rfl
  | true => rw [allN_all e k hk] at h; cases h
theorem T_ild11 {M : MD} {d pc : Nat} {st : List Value} {σ : SG} {Q : Option Value → SG → Prop} {t : List (Option Value)} {a0 a1 a2 a3 a4 a5 a6 a7 a8 a9 a10 : Option Value} {x : Int32} (hd : decode M.2.1 pc = .ok (.iload 11, 2)) (k : TT M d (pc + 2) (a0 :: a1 :: a2 :: a3 :: a4 :: a5 :: a6 :: a7 :: a8 :: a9 :: a10 :: some (.int x) :: t) (.int x :: st) σ Q) : TT M d pc (a0 :: a1 :: a2 :: a3 :: a4 :: a5 :: a6 :: a7 :: a8 :: a9 :: a10 :: some (.int x) :: t) st σ Q := T_iload hd rfl k
theorem T_ist11 {M : MD} {d pc : Nat} {st : List Value} {σ : SG} {Q : Option Value → SG → Prop} {t : List (Option Value)} {a0 a1 a2 a3 a4 a5 a6 a7 a8 a9 a10 a11 : Option Value} {x : Int32} (hd : decode M.2.1 pc = .ok (.istore 11, 2)) (hn : 11 < M.2.2.1) (ho : noL (a0 :: a1 :: a2 :: a3 :: a4 :: a5 :: a6 :: a7 :: a8 :: a9 :: a10 :: a11 :: t) 11 = true) (k : TT M d (pc + 2) (a0 :: a1 :: a2 :: a3 :: a4 :: a5 :: a6 :: a7 :: a8 :: a9 :: a10 :: some (.int x) :: t) st σ Q) : TT M d pc (a0 :: a1 :: a2 :: a3 :: a4 :: a5 :: a6 :: a7 :: a8 :: a9 :: a10 :: a11 :: t) (.int x :: st) σ Q := T_istore hd hn ho k
set_option maxRecDepth 20000 in
theorem c_X7_tellDinner {S : Nat → Nat → Int32} {L : Nat → Nat → Int64} {R : Nat × Nat × Nat} {d : Nat} {a : Nat → Nat → Nat} (hM : MV S a) (hW : WL a) {rq : Nat → Nat} {n b : Nat} (hd : dinB a rq n = some b) {w : Int32} (h2 : ¬ w = nI 1) : TT mX7_tellDinner (d + 2) 0 [some (.ref 37), some (.int (w)), some (.int (nI (dinM a rq n))), some (.int (nI (b / 8))), some (.int (nI (b % 8)))] [] (S, L, R) (rt (some (.int (ansD a rq n w))) (S, L, R)) := by
  obtain ⟨mg, mdn, mso, msa, mpe, mrn, mgu, mdi, mre⟩ := id hM
  obtain ⟨w3, w8, wd1, wd6, wso, wb, wbs, wbp, wne, wrn, wgu, wdi, wre⟩ := id hW
  have hb := dinB_ok hW hd
  refine T_ild1 dX7_tellDinner_0 ?_
  refine T_sw (a := 0) [40, 65, 42, 51, 60, 62] 65 dX7_tellDinner_1 (by decide) (by decide) (by decide) (by decide) (fun j hj e1 => ?_) (fun e1 => ?_)
  · match j, hj, e1 with
    | 0, _, e1 =>
      refine T_ild2 dX7_tellDinner_40 ?_
      refine T_iret dX7_tellDinner_41 rfl ?_
      rw [show ansD a rq n w = nI (dinM a rq n) by unfold ansD; rw [hd]; exact (if_neg h2).trans ((if_pos e1))]; exact rt_i
    | 1, _, e1 =>
      refine T_ald0 dX7_tellDinner_65 ?_
      refine T_ild1 dX7_tellDinner_66 ?_
      refine T_bipush (v := nI 10) dX7_tellDinner_67 (by decide) ?_
      refine T_isub dX7_tellDinner_69 ?_
      refine T_invV1i (M' := mX7_isDish) dX7_tellDinner_70 ml_X7_159 imX7_isDish rfl (Nat.le_of_ble_eq_true rfl) rfl (Nat.le_of_ble_eq_true rfl) rfl (Nat.le_of_ble_eq_true rfl) (c_X7_isDish mdn wd6) ?_
      refine T_ifeqB (tgt := 95) dX7_tellDinner_73 (by decide) (fun h73 => ?_) (fun h73 => ?_)
      · refine T_bipush (v := -9) dX7_tellDinner_95 (by decide) ?_
        refine T_iret dX7_tellDinner_97 rfl ?_
        first
          | exact absurd e1 h2
          | (rw [show ansD a rq n w = -9 by unfold ansD; rw [hd]; exact (if_neg h2).trans ((if_neg (e1 0 (by decide))).trans ((if_neg (e1 2 (by decide))).trans ((if_neg (e1 3 (by decide))).trans ((if_neg (e1 4 (by decide))).trans ((if_neg (e1 5 (by decide))).trans (if_neg (by simp [h73])))))))]; exact rt_i)
          | (rw [show ansD a rq n w = who (a 0 0) (a 8 e) (b / 8) (b % 8) by unfold ansD; rw [hd]; exact (if_neg h2).trans ((if_neg (e1 0 (by decide))).trans ((if_neg (e1 2 (by decide))).trans ((if_neg (e1 3 (by decide))).trans ((if_neg (e1 4 (by decide))).trans ((if_neg (e1 5 (by decide))).trans ((if_pos (by rw [hq]; exact h73)).trans (by rw [hq, ix_n (by omega)])))))))]; exact rt_i)
          | fail "leaf"
      · obtain ⟨e, he, hq⟩ := blw_t h73
        rw [hq] at h73
        refine T_ald0 dX7_tellDinner_76 ?_
        refine T_ald0 dX7_tellDinner_77 ?_
        refine T_getR (q := 44) dX7_tellDinner_78 lf_X7_28 rfl rfl rfl ?_
        refine T_ild1 dX7_tellDinner_81 ?_
        refine T_bipush (v := nI 10) dX7_tellDinner_82 (by decide) ?_
        refine T_isub dX7_tellDinner_84 ?_
        rw [hq]
        refine T_ialdN dX7_tellDinner_85 rfl (by show _ < 6; omega) (mdi _ (by omega)).1 ?_
        refine T_ild3 dX7_tellDinner_86 ?_
        refine T_ild4 dX7_tellDinner_87 ?_
        refine T_invV3i (M' := mX7_whoseBy) dX7_tellDinner_89 ml_X7_149 imX7_whoseBy rfl (Nat.le_of_ble_eq_true rfl) rfl (Nat.le_of_ble_eq_true rfl) rfl (Nat.le_of_ble_eq_true rfl) (c_X7_whoseBy mg w8 (wdi e he).1 hb.2.1 hb.2.2) ?_
        refine T_goto (tgt := 97) dX7_tellDinner_92 (by decide) ?_
        refine T_iret dX7_tellDinner_97 rfl ?_
        first
          | exact absurd e1 h2
          | (rw [show ansD a rq n w = -9 by unfold ansD; rw [hd]; exact (if_neg h2).trans ((if_neg (e1 0 (by decide))).trans ((if_neg (e1 2 (by decide))).trans ((if_neg (e1 3 (by decide))).trans ((if_neg (e1 4 (by decide))).trans ((if_neg (e1 5 (by decide))).trans (if_neg (by simp [h73])))))))]; exact rt_i)
          | (rw [show ansD a rq n w = who (a 0 0) (a 8 e) (b / 8) (b % 8) by unfold ansD; rw [hd]; exact (if_neg h2).trans ((if_neg (e1 0 (by decide))).trans ((if_neg (e1 2 (by decide))).trans ((if_neg (e1 3 (by decide))).trans ((if_neg (e1 4 (by decide))).trans ((if_neg (e1 5 (by decide))).trans ((if_pos (by rw [hq]; exact h73)).trans (by rw [hq, ix_n (by omega)])))))))]; exact rt_i)
          | fail "leaf"
    | 2, _, e1 =>
      refine T_ald0 dX7_tellDinner_42 ?_
      refine T_iconst (v := nI 0) dX7_tellDinner_43 (by decide) ?_
      refine T_ild3 dX7_tellDinner_44 ?_
      refine T_ild4 dX7_tellDinner_45 ?_
      refine T_invV3i (M' := mX7_landBy) dX7_tellDinner_47 ml_X7_165 imX7_landBy rfl (Nat.le_of_ble_eq_true rfl) rfl (Nat.le_of_ble_eq_true rfl) rfl (Nat.le_of_ble_eq_true rfl) (c_X7_landBy hM hW hb.1 hb.2.1 hb.2.2) ?_
      refine T_iret dX7_tellDinner_50 rfl ?_
      rw [show ansD a rq n w = nI (land a 0 b) by unfold ansD; rw [hd]; exact (if_neg h2).trans ((if_neg (by rw [e1]; decide)).trans ((if_pos e1)))]; exact rt_i
    | 3, _, e1 =>
      refine T_ald0 dX7_tellDinner_51 ?_
      refine T_iconst (v := nI 1) dX7_tellDinner_52 (by decide) ?_
      refine T_ild3 dX7_tellDinner_53 ?_
      refine T_ild4 dX7_tellDinner_54 ?_
      refine T_invV3i (M' := mX7_landBy) dX7_tellDinner_56 ml_X7_165 imX7_landBy rfl (Nat.le_of_ble_eq_true rfl) rfl (Nat.le_of_ble_eq_true rfl) rfl (Nat.le_of_ble_eq_true rfl) (c_X7_landBy hM hW hb.1 hb.2.1 hb.2.2) ?_
      refine T_iret dX7_tellDinner_59 rfl ?_
      rw [show ansD a rq n w = nI (land a 1 b) by unfold ansD; rw [hd]; exact (if_neg h2).trans ((if_neg (by rw [e1]; decide)).trans ((if_neg (by rw [e1]; decide)).trans ((if_pos e1))))]; exact rt_i
    | 4, _, e1 =>
      refine T_ild3 dX7_tellDinner_60 ?_
      refine T_iret dX7_tellDinner_61 rfl ?_
      rw [show ansD a rq n w = nI (b / 8) by unfold ansD; rw [hd]; exact (if_neg h2).trans ((if_neg (by rw [e1]; decide)).trans ((if_neg (by rw [e1]; decide)).trans ((if_neg (by rw [e1]; decide)).trans ((if_pos e1)))))]; exact rt_i
    | 5, _, e1 =>
      refine T_ild4 dX7_tellDinner_62 ?_
      refine T_iret dX7_tellDinner_64 rfl ?_
      rw [show ansD a rq n w = nI (b % 8) by unfold ansD; rw [hd]; exact (if_neg h2).trans ((if_neg (by rw [e1]; decide)).trans ((if_neg (by rw [e1]; decide)).trans ((if_neg (by rw [e1]; decide)).trans ((if_neg (by rw [e1]; decide)).trans ((if_pos e1))))))]; exact rt_i
    | j + 6, hj, _ => exact absurd hj (by simp)
  · refine T_ald0 dX7_tellDinner_65 ?_
    refine T_ild1 dX7_tellDinner_66 ?_
    refine T_bipush (v := nI 10) dX7_tellDinner_67 (by decide) ?_
    refine T_isub dX7_tellDinner_69 ?_
    refine T_invV1i (M' := mX7_isDish) dX7_tellDinner_70 ml_X7_159 imX7_isDish rfl (Nat.le_of_ble_eq_true rfl) rfl (Nat.le_of_ble_eq_true rfl) rfl (Nat.le_of_ble_eq_true rfl) (c_X7_isDish mdn wd6) ?_
    refine T_ifeqB (tgt := 95) dX7_tellDinner_73 (by decide) (fun h73 => ?_) (fun h73 => ?_)
    · refine T_bipush (v := -9) dX7_tellDinner_95 (by decide) ?_
      refine T_iret dX7_tellDinner_97 rfl ?_
      first
        | exact absurd e1 h2
        | (rw [show ansD a rq n w = -9 by unfold ansD; rw [hd]; exact (if_neg h2).trans ((if_neg (e1 0 (by decide))).trans ((if_neg (e1 2 (by decide))).trans ((if_neg (e1 3 (by decide))).trans ((if_neg (e1 4 (by decide))).trans ((if_neg (e1 5 (by decide))).trans (if_neg (by simp [h73])))))))]; exact rt_i)
        | (rw [show ansD a rq n w = who (a 0 0) (a 8 e) (b / 8) (b % 8) by unfold ansD; rw [hd]; exact (if_neg h2).trans ((if_neg (e1 0 (by decide))).trans ((if_neg (e1 2 (by decide))).trans ((if_neg (e1 3 (by decide))).trans ((if_neg (e1 4 (by decide))).trans ((if_neg (e1 5 (by decide))).trans ((if_pos (by rw [hq]; exact h73)).trans (by rw [hq, ix_n (by omega)])))))))]; exact rt_i)
        | fail "leaf"
    · obtain ⟨e, he, hq⟩ := blw_t h73
      rw [hq] at h73
      refine T_ald0 dX7_tellDinner_76 ?_
      refine T_ald0 dX7_tellDinner_77 ?_
      refine T_getR (q := 44) dX7_tellDinner_78 lf_X7_28 rfl rfl rfl ?_
      refine T_ild1 dX7_tellDinner_81 ?_
      refine T_bipush (v := nI 10) dX7_tellDinner_82 (by decide) ?_
      refine T_isub dX7_tellDinner_84 ?_
      rw [hq]
      refine T_ialdN dX7_tellDinner_85 rfl (by show _ < 6; omega) (mdi _ (by omega)).1 ?_
      refine T_ild3 dX7_tellDinner_86 ?_
      refine T_ild4 dX7_tellDinner_87 ?_
      refine T_invV3i (M' := mX7_whoseBy) dX7_tellDinner_89 ml_X7_149 imX7_whoseBy rfl (Nat.le_of_ble_eq_true rfl) rfl (Nat.le_of_ble_eq_true rfl) rfl (Nat.le_of_ble_eq_true rfl) (c_X7_whoseBy mg w8 (wdi e he).1 hb.2.1 hb.2.2) ?_
      refine T_goto (tgt := 97) dX7_tellDinner_92 (by decide) ?_
      refine T_iret dX7_tellDinner_97 rfl ?_
      first
        | exact absurd e1 h2
        | (rw [show ansD a rq n w = -9 by unfold ansD; rw [hd]; exact (if_neg h2).trans ((if_neg (e1 0 (by decide))).trans ((if_neg (e1 2 (by decide))).trans ((if_neg (e1 3 (by decide))).trans ((if_neg (e1 4 (by decide))).trans ((if_neg (e1 5 (by decide))).trans (if_neg (by simp [h73])))))))]; exact rt_i)
        | (rw [show ansD a rq n w = who (a 0 0) (a 8 e) (b / 8) (b % 8) by unfold ansD; rw [hd]; exact (if_neg h2).trans ((if_neg (e1 0 (by decide))).trans ((if_neg (e1 2 (by decide))).trans ((if_neg (e1 3 (by decide))).trans ((if_neg (e1 4 (by decide))).trans ((if_neg (e1 5 (by decide))).trans ((if_pos (by rw [hq]; exact h73)).trans (by rw [hq, ix_n (by omega)])))))))]; exact rt_i)
        | fail "leaf"
set_option maxRecDepth 20000 in
theorem c_dinner57 {S : Nat → Nat → Int32} {L : Nat → Nat → Int64} {R : Nat × Nat × Nat} {d : Nat} {a : Nat → Nat → Nat} (hM : MV S a) (hWF : WFA a) {h : HS} (hH : SHM S h) (hBH : BH h) (h0 : S 37 0 = nI 0) {j : Nat} (hj : j < 4) {l y z w : Int32} (h9 : blw (nI j) 4 = true) (h18 : blw l 3 = true) (h29 : blw z 41 = true) (hak : asked w = true) : TT mX7_dinner (d + 3) 57 [some (.ref 37), some (.int (nI j)), some (.int (l)), some (.int (y)), some (.int (z)), some (.int (w)), none, none, none, none, none, none] [] (S, L, R) (fun r σ' => ∃ S', σ' = (S', L, R) ∧ r = some (.int (aDinner a h (nI j) l y z w)) ∧ (∀ q, q ≠ 37 → S' q = S q) ∧ (∀ k, k ≠ 0 → S' 37 k = S 37 k) ∧ S' 37 0 = nI (fDinner h (nI j) l y z w)) := by
  obtain ⟨mg, mdn, mso, msa, mpe, mrn, mgu, mdi, mre⟩ := id hM
  obtain ⟨b8, b6, b3, b64, br8⟩ := hWF.b
  have ij : ix (nI j) = j := ix_n (by omega)
  refine T_ald0 dX7_dinner_57 ?_
  refine T_ild1 dX7_dinner_58 ?_
  refine T_ild2 dX7_dinner_59 ?_
  refine T_ild3 dX7_dinner_60 ?_
  refine T_ild4 dX7_dinner_61 ?_
  have hfl := fau_le (th := h.1 j) (la := h.2.1 j) (n := h.2.2.1 j) (l := l) (x := y) (y := z)
  refine T_invV4i (M' := mX7_against) dX7_dinner_63 ml_X7_94 imX7_against rfl (Nat.le_of_ble_eq_true rfl) rfl (Nat.le_of_ble_eq_true rfl) rfl (Nat.le_of_ble_eq_true rfl) (c_X7_against hH hBH hj) ?_
  refine T_ist6 dX7_dinner_66 (by decide) rfl ?_
  refine T_ild6 dX7_dinner_68 ?_
  refine T_ifeqN (tgt := 80) dX7_dinner_70 (by decide) (by omega) (fun h70 => ?_) (fun h70 => ?_)
  · obtain ⟨t1, t2, t3, t4⟩ := fau_0 h70
    obtain ⟨f, m, rfl, rfl, hfm⟩ := hasB_t t4
    have le6 := (hBH j hj t1).2
    have hm : m < 41 := by have q := h29; rw [blw_d (by omega) (by decide)] at q; exact of_decide_eq_true q
    have if_ : ix (nI f) = f := ix_n (by omega)
    have im : ix (nI m) = m := ix_n (by omega)
    have hf0 : fC h (nI j) l (nI f) (nI m) = 0 := by unfold fC; rw [ij]; exact h70
    have hFm : fDinner h (nI j) l (nI f) (nI m) w = 0 := (if_pos (by rw [h9, h18, h29, hak]; rfl)).trans hf0
    refine T_ald0 dX7_dinner_80 ?_
    refine T_getN dX7_dinner_81 lf_X7_78 rfl rfl mg ?_
    refine T_ifneN (tgt := 90) dX7_dinner_84 (by decide) (by omega) (fun h84 => ?_) (fun h84 => ?_)
    · have hW := hWF.g (by omega)
      obtain ⟨w3, w8, wd1, wd6, wso, wb, wbs, wbp, wne, wrn, wgu, wdi, wre⟩ := id hW
      have hok : okH h (nI j) (nI f) (nI m) = allN (fun k => blw (h.2.2.2 j (f + k)) 4) m := by unfold okH; rw [ij, if_, im]
      refine T_bipush (v := nI 60) dX7_dinner_90 (by decide) ?_
      refine T_ild1 dX7_dinner_92 ?_
      refine T_imulN dX7_dinner_93 ?_
      refine T_ild3 dX7_dinner_94 ?_
      refine T_iaddN dX7_dinner_95 ?_
      refine T_ist7 dX7_dinner_96 (by decide) rfl ?_
      refine T_iconst (v := nI 0) dX7_dinner_98 (by decide) ?_
      refine T_ist8 dX7_dinner_99 (by decide) rfl ?_
      generalize some (Value.int (nI (fau (h.1 j) (h.2.1 j) (h.2.2.1 j) l (nI f) (nI m)))) = x6
      refine up_ind (P := fun i => allN (fun k => blw (h.2.2.2 j (f + k)) 4) i = true → TT mX7_dinner (d + 3) 101 [some (.ref 37), some (.int (nI j)), some (.int (l)), some (.int (nI f)), some (.int (nI m)), some (.int (w)), x6, some (.int (nI (60 * j + f))), some (.int (nI i)), none, none, none] [] (S, L, R) (fun r σ' => ∃ S', σ' = (S', L, R) ∧ r = some (.int (aDinner a h (nI j) l (nI f) (nI m) w)) ∧ (∀ q, q ≠ 37 → S' q = S q) ∧ (∀ k, k ≠ 0 → S' 37 k = S 37 k) ∧ S' 37 0 = nI (fDinner h (nI j) l (nI f) (nI m) w))) m ?_ ?_ rfl
      · intro hall
        refine T_ild8 dX7_dinner_101 ?_
        refine T_ild4 dX7_dinner_103 ?_
        refine T_cgeN (tgt := 135) dX7_dinner_105 (by decide) (by omega) (by omega) (fun h105 => ?_) (fun h105 => by exfalso; omega)
        refine T_ald0 dX7_dinner_135 ?_
        refine T_invV0i (M' := mX7_stateNow) dX7_dinner_136 ml_X7_171 imX7_stateNow rfl (Nat.le_of_ble_eq_true rfl) rfl (Nat.le_of_ble_eq_true rfl) rfl (Nat.le_of_ble_eq_true rfl) (c_X7_stateNow hM) ?_
        refine T_ist8 dX7_dinner_139 (by decide) rfl ?_
        refine T_iconst (v := nI 0) dX7_dinner_141 (by decide) ?_
        refine T_ist9 dX7_dinner_142 (by decide) rfl ?_
        refine T_iconst (v := nI 0) dX7_dinner_144 (by decide) ?_
        refine T_ist10 dX7_dinner_145 (by decide) rfl ?_
        have hA : aDinner a h (nI j) l (nI f) (nI m) w = ansD a (rqH h (nI j) (nI f)) m w := (if_pos h9).trans ((if_pos (by rw [h18, h29, hak]; rfl)).trans ((if_neg (fun q => q hf0)).trans ((if_neg (by omega)).trans ((if_pos (hok.trans hall)).trans (by rw [im])))))
        have hrq : ∀ k, k < m → (rqH h (nI j) (nI f)) k < 4 ∧ S 40 (60 * j + f + k) = nI ((rqH h (nI j) (nI f)) k) := fun k hk => by
          obtain ⟨r, hr, e⟩ := blw_t (allN_all hall k hk)
          have e2 : (rqH h (nI j) (nI f)) k = r := by
            unfold rqH
            rw [ij, if_, e, ix_n (by omega)]
          rw [e2, ← e, show 60 * j + f + k = 60 * j + (f + k) by omega]
          exact ⟨hr, (hH j hj).2.2 _ (by omega)⟩
        refine up_ind (P := fun i => ∀ x11 b, dinB a (rqH h (nI j) (nI f)) i = some b → TT mX7_dinner (d + 3) 147 [some (.ref 37), some (.int (nI j)), some (.int (l)), some (.int (nI f)), some (.int (nI m)), some (.int (w)), x6, some (.int (nI (60 * j + f))), some (.int (nI b)), some (.int (nI (dinM a (rqH h (nI j) (nI f)) i))), some (.int (nI i)), x11] [] (S, L, R) (fun r σ' => ∃ S', σ' = (S', L, R) ∧ r = some (.int (aDinner a h (nI j) l (nI f) (nI m) w)) ∧ (∀ q, q ≠ 37 → S' q = S q) ∧ (∀ k, k ≠ 0 → S' 37 k = S 37 k) ∧ S' 37 0 = nI (fDinner h (nI j) l (nI f) (nI m) w))) m ?_ ?_ none (a 3 0) rfl
        · intro x11 b hdb
          have hbb := dinB_ok hW hdb
          refine T_ild10 dX7_dinner_147 ?_
          refine T_ild4 dX7_dinner_149 ?_
          refine T_cgeN (tgt := 227) dX7_dinner_151 (by decide) (by omega) (by omega) (fun h151 => ?_) (fun h151 => by exfalso; omega)
          refine T_ild5 dX7_dinner_227 ?_
          refine T_iconst (v := nI 1) dX7_dinner_229 (by decide) ?_
          refine T_cne (tgt := 238) dX7_dinner_230 (by decide) (fun h230 => ?_) (fun h230 => ?_)
          · refine T_ald0 dX7_dinner_238 ?_
            refine T_ild5 dX7_dinner_239 ?_
            refine T_ild9 dX7_dinner_241 ?_
            refine T_ild8 dX7_dinner_243 ?_
            refine T_bipush (v := nI 8) dX7_dinner_245 (by decide) ?_
            refine T_idivN dX7_dinner_247 (by omega) (by omega) (by omega) ?_
            refine T_ild8 dX7_dinner_248 ?_
            refine T_bipush (v := nI 8) dX7_dinner_250 (by decide) ?_
            refine T_iremN dX7_dinner_252 (by omega) (by omega) (by omega) ?_
            refine T_invV4i (M' := mX7_tellDinner) dX7_dinner_253 ml_X7_181 imX7_tellDinner rfl (Nat.le_of_ble_eq_true rfl) rfl (Nat.le_of_ble_eq_true rfl) rfl (Nat.le_of_ble_eq_true rfl) (c_X7_tellDinner hM hW hdb h230) ?_
            refine T_iret dX7_dinner_256 rfl ?_
            first
              | (exact ⟨_, rfl, by rw [hA, show ansD a (rqH h (nI j) (nI f)) m w = -9 by unfold ansD; rw [hdb]; exact if_pos h230], fun _ _ => rfl, fun _ _ => rfl, by rw [hFm]; exact h0⟩)
              | (exact ⟨_, rfl, by rw [hA], fun _ _ => rfl, fun _ _ => rfl, by rw [hFm]; exact h0⟩)
              | fail "leaf"
          · refine T_bipush (v := -9) dX7_dinner_233 (by decide) ?_
            refine T_goto (tgt := 256) dX7_dinner_235 (by decide) ?_
            refine T_iret dX7_dinner_256 rfl ?_
            first
              | (exact ⟨_, rfl, by rw [hA, show ansD a (rqH h (nI j) (nI f)) m w = -9 by unfold ansD; rw [hdb]; exact if_pos h230], fun _ _ => rfl, fun _ _ => rfl, by rw [hFm]; exact h0⟩)
              | (exact ⟨_, rfl, by rw [hA], fun _ _ => rfl, fun _ _ => rfl, by rw [hFm]; exact h0⟩)
              | fail "leaf"
        · intro i hi ih x11 b hdb
          have hbb := dinB_ok hW hdb
          have hr4 := (hrq i hi).1
          cases hbe : beh (a 0 0) b ((rqH h (nI j) (nI f)) i) with
          | none =>
            have hd1 : dinB a (rqH h (nI j) (nI f)) (i + 1) = none := by rw [dinB_s hdb, hbe]
            have hdn := din_end hd1 (m - (i + 1))
            rw [show i + 1 + (m - (i + 1)) = m by omega, dinW_s hdb] at hdn
            refine T_ild10 dX7_dinner_147 ?_
            refine T_ild4 dX7_dinner_149 ?_
            refine T_cgeN (tgt := 227) dX7_dinner_151 (by decide) (by omega) (by omega) (fun h151 => by exfalso; omega) (fun h151 => ?_)
            refine T_ald0 dX7_dinner_154 ?_
            refine T_ild8 dX7_dinner_155 ?_
            refine T_ald0 dX7_dinner_157 ?_
            refine T_getR (q := 40) dX7_dinner_158 lf_X7_16 rfl rfl rfl ?_
            refine T_ild7 dX7_dinner_161 ?_
            refine T_ild10 dX7_dinner_163 ?_
            refine T_iaddN dX7_dinner_165 ?_
            refine T_ialdN dX7_dinner_166 rfl (by show _ < 240; omega) (hrq i hi).2 ?_
            refine T_invV2i (M' := mX7_behind) dX7_dinner_167 ml_X7_175 imX7_behind rfl (Nat.le_of_ble_eq_true rfl) rfl (Nat.le_of_ble_eq_true rfl) rfl (Nat.le_of_ble_eq_true rfl) (c_mb_n mg w8 hbb.1 hbb.2.1 hbb.2.2 hr4 hbe) ?_
            refine T_ist11 dX7_dinner_170 (by decide) rfl ?_
            refine T_ild11 dX7_dinner_172 ?_
            refine T_bipush (v := -9) dX7_dinner_174 (by decide) ?_
            refine T_cne (tgt := 196) dX7_dinner_176 (by decide) (fun h176 => by exact absurd rfl h176) (fun h176 => ?_)
            refine T_ild5 dX7_dinner_179 ?_
            refine T_iconst (v := nI 1) dX7_dinner_181 (by decide) ?_
            refine T_cne (tgt := 190) dX7_dinner_182 (by decide) (fun h182 => ?_) (fun h182 => ?_)
            · refine T_bipush (v := -100) dX7_dinner_190 (by decide) ?_
              refine T_ild10 dX7_dinner_192 ?_
              refine T_isub dX7_dinner_194 ?_
              refine T_iret dX7_dinner_195 rfl ?_
              first
                | (exact ⟨_, rfl, by rw [hA, show ansD a (rqH h (nI j) (nI f)) m w = nI i by unfold ansD; rw [hdn.1]; exact (if_pos h182).trans (by rw [hdn.2])], fun _ _ => rfl, fun _ _ => rfl, by rw [hFm]; exact h0⟩)
                | (exact ⟨_, rfl, by rw [hA, show ansD a (rqH h (nI j) (nI f)) m w = -100 - nI i by unfold ansD; rw [hdn.1]; exact (if_neg h182).trans (by rw [hdn.2])], fun _ _ => rfl, fun _ _ => rfl, by rw [hFm]; exact h0⟩)
                | fail "leaf"
            · refine T_ild10 dX7_dinner_185 ?_
              refine T_goto (tgt := 195) dX7_dinner_187 (by decide) ?_
              refine T_iret dX7_dinner_195 rfl ?_
              first
                | (exact ⟨_, rfl, by rw [hA, show ansD a (rqH h (nI j) (nI f)) m w = nI i by unfold ansD; rw [hdn.1]; exact (if_pos h182).trans (by rw [hdn.2])], fun _ _ => rfl, fun _ _ => rfl, by rw [hFm]; exact h0⟩)
                | (exact ⟨_, rfl, by rw [hA, show ansD a (rqH h (nI j) (nI f)) m w = -100 - nI i by unfold ansD; rw [hdn.1]; exact (if_neg h182).trans (by rw [hdn.2])], fun _ _ => rfl, fun _ _ => rfl, by rw [hFm]; exact h0⟩)
                | fail "leaf"
          | some b' =>
            have q2 := beh_some w8 hbb.2.1 hbb.2.2 hbe
            refine T_ild10 dX7_dinner_147 ?_
            refine T_ild4 dX7_dinner_149 ?_
            refine T_cgeN (tgt := 227) dX7_dinner_151 (by decide) (by omega) (by omega) (fun h151 => by exfalso; omega) (fun h151 => ?_)
            refine T_ald0 dX7_dinner_154 ?_
            refine T_ild8 dX7_dinner_155 ?_
            refine T_ald0 dX7_dinner_157 ?_
            refine T_getR (q := 40) dX7_dinner_158 lf_X7_16 rfl rfl rfl ?_
            refine T_ild7 dX7_dinner_161 ?_
            refine T_ild10 dX7_dinner_163 ?_
            refine T_iaddN dX7_dinner_165 ?_
            refine T_ialdN dX7_dinner_166 rfl (by show _ < 240; omega) (hrq i hi).2 ?_
            refine T_invV2i (M' := mX7_behind) dX7_dinner_167 ml_X7_175 imX7_behind rfl (Nat.le_of_ble_eq_true rfl) rfl (Nat.le_of_ble_eq_true rfl) rfl (Nat.le_of_ble_eq_true rfl) (c_mb_s mg w8 hbb.1 hbb.2.1 hbb.2.2 hr4 hbe) ?_
            refine T_ist11 dX7_dinner_170 (by decide) rfl ?_
            refine T_ild11 dX7_dinner_172 ?_
            refine T_bipush (v := -9) dX7_dinner_174 (by decide) ?_
            refine T_cne (tgt := 196) dX7_dinner_176 (by decide) (fun h176 => ?_) (fun h176 => by exact absurd h176 (nI_m9 (by omega)))
            refine T_ild9 dX7_dinner_196 ?_
            refine T_ald0 dX7_dinner_198 ?_
            refine T_ild8 dX7_dinner_199 ?_
            refine T_ald0 dX7_dinner_201 ?_
            refine T_getR (q := 40) dX7_dinner_202 lf_X7_16 rfl rfl rfl ?_
            refine T_ild7 dX7_dinner_205 ?_
            refine T_ild10 dX7_dinner_207 ?_
            refine T_iaddN dX7_dinner_209 ?_
            refine T_ialdN dX7_dinner_210 rfl (by show _ < 240; omega) (hrq i hi).2 ?_
            refine T_invV2i (M' := mX7_takes) dX7_dinner_211 ml_X7_178 imX7_takes rfl (Nat.le_of_ble_eq_true rfl) rfl (Nat.le_of_ble_eq_true rfl) rfl (Nat.le_of_ble_eq_true rfl) (c_X7_takes hM hW hbb.1 hbb.2.1 hbb.2.2 hr4) ?_
            refine T_iaddN dX7_dinner_214 ?_
            refine T_ist9 dX7_dinner_215 (by decide) rfl ?_
            refine T_ild11 dX7_dinner_217 ?_
            refine T_ist8 dX7_dinner_219 (by decide) rfl ?_
            refine T_inc10N dX7_dinner_221 (by decide) rfl ?_
            refine T_goto (tgt := 147) dX7_dinner_224 (by decide) ?_
            have e := ih (some (.int (nI b'))) b' (by rw [dinB_s hdb, hbe])
            rw [dinM_s hdb] at e
            exact e
      · intro i hi ih hall
        refine T_ild8 dX7_dinner_101 ?_
        refine T_ild4 dX7_dinner_103 ?_
        refine T_cgeN (tgt := 135) dX7_dinner_105 (by decide) (by omega) (by omega) (fun h105 => by exfalso; omega) (fun h105 => ?_)
        refine T_ald0 dX7_dinner_108 ?_
        refine T_getR (q := 40) dX7_dinner_109 lf_X7_16 rfl rfl rfl ?_
        refine T_ild7 dX7_dinner_112 ?_
        refine T_ild8 dX7_dinner_114 ?_
        refine T_iaddN dX7_dinner_116 ?_
        refine T_ialdV dX7_dinner_117 rfl (by show _ < 240; omega) ((congrArg (S 40) (show 60 * j + f + i = 60 * j + (f + i) by omega)).trans ((hH j hj).2.2 _ (by omega))) ?_
        refine T_iconst (v := nI 0) dX7_dinner_118 (by decide) ?_
        refine T_iconst (v := nI 3) dX7_dinner_119 (by decide) ?_
        refine T_invS3i (M' := mX7_within) dX7_dinner_120 ml_X7_74 imX7_within (Nat.le_of_ble_eq_true rfl) rfl (Nat.le_of_ble_eq_true rfl) (c_within0 (n := 4) (by decide) rfl) ?_
        refine T_ifneB (tgt := 129) dX7_dinner_123 (by decide) (fun h123 => ?_) (fun h123 => ?_)
        · refine T_inc8N dX7_dinner_129 (by decide) rfl ?_
          refine T_goto (tgt := 101) dX7_dinner_132 (by decide) ?_
          exact ih (by show (allN (fun k => blw (h.2.2.2 j (f + k)) 4) i && blw (h.2.2.2 j (f + i)) 4) = true; rw [hall, h123]; rfl)
        · refine T_bipush (v := -2) dX7_dinner_126 (by decide) ?_
          refine T_iret dX7_dinner_128 rfl ?_
          have hno : okH h (nI j) (nI f) (nI m) = false := hok.trans (allN_no hi h123)
          exact ⟨_, rfl, by rw [show aDinner a h (nI j) l (nI f) (nI m) w = -2 from (if_pos h9).trans ((if_pos (by rw [h18, h29, hak]; rfl)).trans ((if_neg (fun q => q hf0)).trans ((if_neg (by omega)).trans (if_neg (by rw [hno]; decide)))))], fun _ _ => rfl, fun _ _ => rfl, by rw [hFm]; exact h0⟩
    · refine T_bipush (v := -3) dX7_dinner_87 (by decide) ?_
      refine T_iret dX7_dinner_89 rfl ?_
      exact ⟨_, rfl, by rw [show aDinner a h (nI j) l (nI f) (nI m) w = -3 from (if_pos h9).trans ((if_pos (by rw [h18, h29, hak]; rfl)).trans ((if_neg (fun q => q hf0)).trans (if_pos h84)))], fun _ _ => rfl, fun _ _ => rfl, by rw [hFm]; exact h0⟩
  · refine T_ald0 dX7_dinner_73 ?_
    refine T_ild6 dX7_dinner_74 ?_
    refine T_invV1i (M' := mX7_fails) dX7_dinner_76 ml_X7_98 imX7_fails rfl (Nat.le_of_ble_eq_true rfl) rfl (Nat.le_of_ble_eq_true rfl) rfl (Nat.le_of_ble_eq_true rfl) c_X7_fails ?_
    refine T_iret dX7_dinner_79 rfl ?_
    have hf : fC h (nI j) l y z = fau (h.1 j) (h.2.1 j) (h.2.2.1 j) l y z := by unfold fC; rw [ij]
    exact ⟨_, rfl, by rw [show aDinner a h (nI j) l y z w = -10 - nI (fau (h.1 j) (h.2.1 j) (h.2.2.1 j) l y z) from (if_pos h9).trans ((if_pos (by rw [h18, h29, hak]; rfl)).trans ((if_pos (by rw [hf]; exact h70)).trans (by rw [hf])))], fun q hq => uI_p hq, fun k hk => uI_k hk, by rw [show fDinner h (nI j) l y z w = fau (h.1 j) (h.2.1 j) (h.2.2.1 j) l y z from (if_pos (by rw [h9, h18, h29, hak]; rfl)).trans hf, uI_s]⟩
set_option maxRecDepth 20000 in
theorem c_X7_dinner {S : Nat → Nat → Int32} {L : Nat → Nat → Int64} {R : Nat × Nat × Nat} {d : Nat} {a : Nat → Nat → Nat} (hM : MV S a) (hWF : WFA a) {h : HS} (hH : SHM S h) (hBH : BH h) {x l y z w : Int32} : TT mX7_dinner (d + 3) 0 [some (.ref 37), some (.int (x)), some (.int (l)), some (.int (y)), some (.int (z)), some (.int (w)), none, none, none, none, none, none] [] (S, L, R) (fun r σ' => ∃ S', σ' = (S', L, R) ∧ r = some (.int (aDinner a h x l y z w)) ∧ (∀ q, q ≠ 37 → S' q = S q) ∧ (∀ k, k ≠ 0 → S' 37 k = S 37 k) ∧ S' 37 0 = nI (fDinner h x l y z w)) := by
  refine T_ald0 dX7_dinner_0 ?_
  refine T_iconst (v := nI 0) dX7_dinner_1 (by decide) ?_
  refine T_putI dX7_dinner_2 lf_X7_68 rfl rfl rfl rfl ?_
  refine T_ild1 dX7_dinner_5 ?_
  refine T_invS1i (M' := mX7_isSheet) dX7_dinner_6 ml_X7_87 imX7_isSheet (Nat.le_of_ble_eq_true rfl) rfl (Nat.le_of_ble_eq_true rfl) c_X7_isSheet ?_
  refine T_ifneB (tgt := 14) dX7_dinner_9 (by decide) (fun h9 => ?_) (fun h9 => ?_)
  · obtain ⟨j, hj, rfl⟩ := blw_t h9
    refine T_ild2 dX7_dinner_14 ?_
    refine T_invS1i (M' := mX7_isSort) dX7_dinner_15 ml_X7_91 imX7_isSort (Nat.le_of_ble_eq_true rfl) rfl (Nat.le_of_ble_eq_true rfl) c_X7_isSort ?_
    refine T_ifeqB (tgt := 54) dX7_dinner_18 (by decide) (fun h18 => ?_) (fun h18 => ?_)
    · refine T_bipush (v := -2) dX7_dinner_54 (by decide) ?_
      refine T_iret dX7_dinner_56 rfl ?_
      have hc : (blw l 3 && blw z 41 && asked w) = false := by first | (rw [h18]; rfl) | (rw [h18, h29]; rfl) | (unfold asked; rw [h18, h29, h39, h51]; rfl)
      rw [show aDinner a h (nI j) l y z w = -2 from (if_pos h9).trans (if_neg (by simp [hc])), show fDinner h (nI j) l y z w = 0 from if_neg (by simp [hc])]; exact ⟨_, rfl, rfl, fun q hq => uI_p hq, fun k hk => uI_k hk, uI_s⟩
    · refine T_ild4 dX7_dinner_21 ?_
      refine T_iconst (v := nI 0) dX7_dinner_23 (by decide) ?_
      refine T_bipush (v := nI 40) dX7_dinner_24 (by decide) ?_
      refine T_invS3i (M' := mX7_within) dX7_dinner_26 ml_X7_74 imX7_within (Nat.le_of_ble_eq_true rfl) rfl (Nat.le_of_ble_eq_true rfl) (c_within0 (n := 41) (by decide) rfl) ?_
      refine T_ifeqB (tgt := 54) dX7_dinner_29 (by decide) (fun h29 => ?_) (fun h29 => ?_)
      · refine T_bipush (v := -2) dX7_dinner_54 (by decide) ?_
        refine T_iret dX7_dinner_56 rfl ?_
        have hc : (blw l 3 && blw z 41 && asked w) = false := by first | (rw [h18]; rfl) | (rw [h18, h29]; rfl) | (unfold asked; rw [h18, h29, h39, h51]; rfl)
        rw [show aDinner a h (nI j) l y z w = -2 from (if_pos h9).trans (if_neg (by simp [hc])), show fDinner h (nI j) l y z w = 0 from if_neg (by simp [hc])]; exact ⟨_, rfl, rfl, fun q hq => uI_p hq, fun k hk => uI_k hk, uI_s⟩
      · refine T_ild5 dX7_dinner_32 ?_
        refine T_iconst (v := nI 0) dX7_dinner_34 (by decide) ?_
        refine T_iconst (v := nI 5) dX7_dinner_35 (by decide) ?_
        refine T_invS3i (M' := mX7_within) dX7_dinner_36 ml_X7_74 imX7_within (Nat.le_of_ble_eq_true rfl) rfl (Nat.le_of_ble_eq_true rfl) (c_within0 (n := 6) (by decide) rfl) ?_
        refine T_ifneB (tgt := 57) dX7_dinner_39 (by decide) (fun h39 => ?_) (fun h39 => ?_)
        · refine T_mono (c_dinner57 (h := h) (hM.cong (fun q hq => uI_p (by omega)) (fun k hk => uI_k (by omega))) hWF (hH.cong (fun q h1 h2 => uI_p (by omega))) hBH uI_s hj h9 h18 h29 (show asked w = true by first | (unfold asked; rw [h39]; rfl) | (unfold asked; rw [h39, h51]; rfl))) (fun r σ' q => ?_)
          obtain ⟨S', e1, e2, e3, e4, e5⟩ := q
          exact ⟨S', e1, e2, fun q hq => (e3 q hq).trans (uI_p hq), fun k hk => (e4 k hk).trans (uI_k hk), e5⟩
        · refine T_ild5 dX7_dinner_42 ?_
          refine T_bipush (v := nI 10) dX7_dinner_44 (by decide) ?_
          refine T_bipush (v := nI 15) dX7_dinner_46 (by decide) ?_
          refine T_invS3i (M' := mX7_within) dX7_dinner_48 ml_X7_74 imX7_within (Nat.le_of_ble_eq_true rfl) rfl (Nat.le_of_ble_eq_true rfl) c_within_ask ?_
          refine T_ifneB (tgt := 57) dX7_dinner_51 (by decide) (fun h51 => ?_) (fun h51 => ?_)
          · refine T_mono (c_dinner57 (h := h) (hM.cong (fun q hq => uI_p (by omega)) (fun k hk => uI_k (by omega))) hWF (hH.cong (fun q h1 h2 => uI_p (by omega))) hBH uI_s hj h9 h18 h29 (show asked w = true by first | (unfold asked; rw [h39]; rfl) | (unfold asked; rw [h39, h51]; rfl))) (fun r σ' q => ?_)
            obtain ⟨S', e1, e2, e3, e4, e5⟩ := q
            exact ⟨S', e1, e2, fun q hq => (e3 q hq).trans (uI_p hq), fun k hk => (e4 k hk).trans (uI_k hk), e5⟩
          · refine T_bipush (v := -2) dX7_dinner_54 (by decide) ?_
            refine T_iret dX7_dinner_56 rfl ?_
            have hc : (blw l 3 && blw z 41 && asked w) = false := by first | (rw [h18]; rfl) | (rw [h18, h29]; rfl) | (unfold asked; rw [h18, h29, h39, h51]; rfl)
            rw [show aDinner a h (nI j) l y z w = -2 from (if_pos h9).trans (if_neg (by simp [hc])), show fDinner h (nI j) l y z w = 0 from if_neg (by simp [hc])]; exact ⟨_, rfl, rfl, fun q hq => uI_p hq, fun k hk => uI_k hk, uI_s⟩
  · refine T_iconst (v := -1) dX7_dinner_12 (by decide) ?_
    refine T_iret dX7_dinner_13 rfl ?_
    rw [show aDinner a h x l y z w = -1 from if_neg (by simp [h9]), show fDinner h x l y z w = 0 from if_neg (by simp [h9])]; exact ⟨_, rfl, rfl, fun q hq => uI_p hq, fun k hk => uI_k hk, uI_s⟩
