/-! the reference: readings, parts, spilt -/
def ars (a : Nat → Nat → Nat) (q : Nat) : Bool := decide (miN a (a 10 q) = a 11 q)
theorem uI_id {S : Nat → Nat → Int32} {q k : Nat} {x : Int32} (h : S q k = x) : uI S q k x = S := by
  funext r i
  by_cases h1 : r = q
  · subst h1
    by_cases h2 : i = k
    · subst h2; rw [uI_s, h]
    · rw [uI_k h2]
  · rw [uI_p h1]
theorem miN_lt {a : Nat → Nat → Nat} {k : Nat} (hW : WL a) (hk : k < a 0 0) : miN a k ≤ 12 := by
  obtain ⟨w3, w8, wd1, wd6, wso, wb, wbs, wbp, wne, wrn, wgu, wdi, wre⟩ := hW
  have q := wgu k hk
  have := minN_le (k := a 5 k) (m := a 6 k) (so := a 2 0)
  unfold miN; omega
theorem or_0 {x : Int32} : x ||| nI 0 = x := by rw [nI_0]; simp
theorem ars_m {a : Nat → Nat → Nat} {k v : Nat} : allN (ars (setA a 6 k v)) (setA a 6 k v 4 0) = allN (rso a k (a 5 k) v (a 2 0)) (a 4 0) := by
  refine allN_congr _ (fun q _ => ?_)
  unfold ars rso miN
  rw [setA_c (c' := 10) (by decide), setA_c (c' := 11) (by decide), setA_c (c' := 5) (by decide), setA_c (c' := 2) (by decide)]
  by_cases e : a 10 q = k
  · rw [if_pos e, if_pos e, e, setA_s]
  · rw [if_neg e, if_neg e, setA_i e]
theorem ars_k {a : Nat → Nat → Nat} {k v : Nat} : allN (ars (setA a 5 k v)) (setA a 5 k v 4 0) = allN (rso a k v (a 6 k) (a 2 0)) (a 4 0) := by
  refine allN_congr _ (fun q _ => ?_)
  unfold ars rso miN
  rw [setA_c (c' := 10) (by decide), setA_c (c' := 11) (by decide), setA_c (c' := 6) (by decide), setA_c (c' := 2) (by decide)]
  by_cases e : a 10 q = k
  · rw [if_pos e, if_pos e, e, setA_s]
  · rw [if_neg e, if_neg e, setA_i e]
theorem ars_s {a : Nat → Nat → Nat} {v : Nat} : allN (ars (setA a 2 0 v)) (setA a 2 0 v 4 0) = allN (rso a 0 (a 5 0) (a 6 0) v) (a 4 0) := by
  refine allN_congr _ (fun q _ => ?_)
  unfold ars rso miN
  rw [setA_c (c' := 10) (by decide), setA_c (c' := 11) (by decide), setA_c (c' := 5) (by decide), setA_c (c' := 6) (by decide), setA_s]
  by_cases e : a 10 q = 0
  · rw [if_pos e, if_pos e, e]
  · rw [if_neg e, if_neg e]
set_option maxRecDepth 20000 in
theorem c_X7_areSo {S : Nat → Nat → Int32} {L : Nat → Nat → Int64} {R : Nat × Nat × Nat} {d : Nat} {a : Nat → Nat → Nat} (hM : MV S a) (hW : WL a) : TT mX7_areSo (d + 1) 0 [some (.ref 37), none] [] (S, L, R) (rt (some (.int (bI (allN (ars a) (a 4 0))))) (S, L, R)) := by
  obtain ⟨mg, mdn, mso, msa, mpe, mrn, mgu, mdi, mre⟩ := id hM
  obtain ⟨w3, w8, wd1, wd6, wso, wb, wbs, wbp, wne, wrn, wgu, wdi, wre⟩ := id hW
  refine T_iconst (v := nI 0) dX7_areSo_0 (by decide) ?_
  refine T_ist1 dX7_areSo_1 (by decide) rfl ?_
  skip
  refine up_ind (P := fun i => allN (ars a) i = true → TT mX7_areSo (d + 1) 2 [some (.ref 37), some (.int (nI i))] [] (S, L, R) (rt (some (.int (bI (allN (ars a) (a 4 0))))) (S, L, R))) (a 4 0) ?_ ?_ rfl
  · intro hal
    refine T_ild1 dX7_areSo_2 ?_
    refine T_ald0 dX7_areSo_3 ?_
    refine T_getN dX7_areSo_4 lf_X7_132 rfl rfl mrn ?_
    refine T_cgeN (tgt := 37) dX7_areSo_7 (by decide) (by omega) (by omega) (fun h7 => ?_) (fun h7 => by exfalso; omega)
    refine T_iconst (v := bI true) dX7_areSo_37 (by decide) ?_
    refine T_bretB dX7_areSo_38 rfl ?_
    rw [hal]; exact rt_i
  · intro i hi ih hal
    have qr := wre i hi
    have qm := miN_lt hW qr.1
    refine T_ild1 dX7_areSo_2 ?_
    refine T_ald0 dX7_areSo_3 ?_
    refine T_getN dX7_areSo_4 lf_X7_132 rfl rfl mrn ?_
    refine T_cgeN (tgt := 37) dX7_areSo_7 (by decide) (by omega) (by omega) (fun h7 => by exfalso; omega) (fun h7 => ?_)
    refine T_ald0 dX7_areSo_10 ?_
    refine T_ald0 dX7_areSo_11 ?_
    refine T_getR (q := 55) dX7_areSo_12 lf_X7_62 rfl rfl rfl ?_
    refine T_ild1 dX7_areSo_15 ?_
    refine T_ialdN dX7_areSo_16 rfl (by show _ < 8; omega) (mre _ (by omega)).1 ?_
    refine T_invV1i (M' := mX7_minutesOf) dX7_areSo_17 ml_X7_156 imX7_minutesOf rfl (Nat.le_of_ble_eq_true rfl) rfl (Nat.le_of_ble_eq_true rfl) rfl (Nat.le_of_ble_eq_true rfl) (c_X7_minutesOf hM hW qr.1) ?_
    refine T_ald0 dX7_areSo_20 ?_
    refine T_getR (q := 56) dX7_areSo_21 lf_X7_65 rfl rfl rfl ?_
    refine T_ild1 dX7_areSo_24 ?_
    refine T_ialdN dX7_areSo_25 rfl (by show _ < 8; omega) (mre _ (by omega)).2 ?_
    refine T_ceqN (tgt := 31) dX7_areSo_26 (by decide) (by omega) (by omega) (fun h26 => ?_) (fun h26 => ?_)
    · refine T_inc1N dX7_areSo_31 (by decide) rfl ?_
      refine T_goto (tgt := 2) dX7_areSo_34 (by decide) ?_
      exact ih (allN_t hal (decide_eq_true h26))
    · refine T_iconst (v := bI false) dX7_areSo_29 (by decide) ?_
      refine T_bretB dX7_areSo_30 rfl ?_
      rw [allN_f (i := i) (decide_eq_false h26) _ hi]; exact rt_i
set_option maxRecDepth 20000 in
theorem c_areSo_m {S : Nat → Nat → Int32} {L : Nat → Nat → Int64} {R : Nat × Nat × Nat} {d : Nat} {a : Nat → Nat → Nat} (hM : MV S a) (hW : WL a) {k v : Nat} (hv : v ≤ 9) : TT mX7_areSo (d + 1) 0 [some (.ref 37), none] [] (uI S 42 k (nI v), L, R) (rt (some (.int (bI (allN (rso a k (a 5 k) v (a 2 0)) (a 4 0))))) (uI S 42 k (nI v), L, R)) := by
  have q := c_X7_areSo (L := L) (R := R) (d := d) (MV_mouth (m := v) (k := k) hM) (WL_mouth (k := k) hv hW)
  rw [ars_m] at q; exact q
set_option maxRecDepth 20000 in
theorem c_areSo_k {S : Nat → Nat → Int32} {L : Nat → Nat → Int64} {R : Nat × Nat × Nat} {d : Nat} {a : Nat → Nat → Nat} (hM : MV S a) (hW : WL a) {k v : Nat} (hv : v ≤ 2) : TT mX7_areSo (d + 1) 0 [some (.ref 37), none] [] (uI S 41 k (nI v), L, R) (rt (some (.int (bI (allN (rso a k v (a 6 k) (a 2 0)) (a 4 0))))) (uI S 41 k (nI v), L, R)) := by
  have q := c_X7_areSo (L := L) (R := R) (d := d) (MV_kind (m := v) (k := k) hM) (WL_kind (k := k) hv hW)
  rw [ars_k] at q; exact q
set_option maxRecDepth 20000 in
theorem c_areSo_s {S : Nat → Nat → Int32} {L : Nat → Nat → Int64} {R : Nat × Nat × Nat} {d : Nat} {a : Nat → Nat → Nat} (hM : MV S a) (hW : WL a) {v : Nat} (hv : v ≤ 3) : TT mX7_areSo (d + 1) 0 [some (.ref 37), none] [] (uI S 37 7 (nI v), L, R) (rt (some (.int (bI (allN (rso a 0 (a 5 0) (a 6 0) v) (a 4 0))))) (uI S 37 7 (nI v), L, R)) := by
  have q := c_X7_areSo (L := L) (R := R) (d := d) (MV_soup (m := v) hM) (WL_soup hv hW)
  rw [ars_s] at q; exact q
set_option maxRecDepth 20000 in
theorem c_X7_mouths {S : Nat → Nat → Int32} {L : Nat → Nat → Int64} {R : Nat × Nat × Nat} {d : Nat} {a : Nat → Nat → Nat} (hM : MV S a) (hWF : WFA a) {x : Int32} : TT mX7_mouths (d + 2) 0 [some (.ref 37), some (.int (x)), none, none, none] [] (S, L, R) (rt (some (.int (aMouths a x))) (S, L, R)) := by
  obtain ⟨mg, mdn, mso, msa, mpe, mrn, mgu, mdi, mre⟩ := id hM
  obtain ⟨b8, b6, b3, b64, br8⟩ := hWF.b
  refine T_ald0 dX7_mouths_0 ?_
  refine T_ild1 dX7_mouths_1 ?_
  refine T_invV1i (M' := mX7_isGuest) dX7_mouths_2 ml_X7_153 imX7_isGuest rfl (Nat.le_of_ble_eq_true rfl) rfl (Nat.le_of_ble_eq_true rfl) rfl (Nat.le_of_ble_eq_true rfl) (c_X7_isGuest mg b8) ?_
  refine T_ifneB (tgt := 10) dX7_mouths_5 (by decide) (fun h5 => ?_) (fun h5 => ?_)
  · obtain ⟨k, hk, rfl⟩ := blw_t h5
    have ik : ix (nI k) = k := ix_n (by omega)
    have hW := hWF.g (by omega)
    obtain ⟨w3, w8, wd1, wd6, wso, wb, wbs, wbp, wne, wrn, wgu, wdi, wre⟩ := id hW
    refine T_ald0 dX7_mouths_10 ?_
    refine T_getR (q := 42) dX7_mouths_11 lf_X7_22 rfl rfl rfl ?_
    refine T_ild1 dX7_mouths_14 ?_
    refine T_ialdN dX7_mouths_15 rfl (by show _ < 8; omega) (mgu _ (by omega)).2.1 ?_
    refine T_ist2 dX7_mouths_16 (by decide) rfl ?_
    refine T_iconst (v := nI 0) dX7_mouths_17 (by decide) ?_
    refine T_ist3 dX7_mouths_18 (by decide) rfl ?_
    refine T_iconst (v := nI 0) dX7_mouths_19 (by decide) ?_
    refine T_ist4 dX7_mouths_20 (by decide) rfl ?_
    have key : ∀ y, TT mX7_mouths (d + 2) 22 [some (.ref 37), some (.int (nI k)), some (.int (nI (a 6 k))), some (.int (nI 0)), some (.int (nI 0))] [] (uI S 42 k y, L, R) (rt (some (.int (aMouths a (nI k)))) (S, L, R)) := by
      refine up_ind (P := fun i => ∀ y, TT mX7_mouths (d + 2) 22 [some (.ref 37), some (.int (nI k)), some (.int (nI (a 6 k))), some (.int (wsI (fun v => allN (rso a k (a 5 k) v (a 2 0)) (a 4 0)) i)), some (.int (nI i))] [] (uI S 42 k y, L, R) (rt (some (.int (aMouths a (nI k)))) (S, L, R))) 10 ?_ ?_
      · intro y
        refine T_ild4 dX7_mouths_22 ?_
        refine T_bipush (v := nI 9) dX7_mouths_24 (by decide) ?_
        refine T_cgtN (tgt := 61) dX7_mouths_26 (by decide) (by omega) (by omega) (fun h26 => ?_) (fun h26 => by exfalso; omega)
        refine T_ald0 dX7_mouths_61 ?_
        refine T_getR (q := 42) dX7_mouths_62 lf_X7_22 rfl rfl rfl ?_
        refine T_ild1 dX7_mouths_65 ?_
        refine T_ild2 dX7_mouths_66 ?_
        refine T_iast dX7_mouths_67 rfl (by show _ < 8; omega) rfl ?_
        refine T_ild3 dX7_mouths_68 ?_
        refine T_iret dX7_mouths_69 rfl ?_
        rw [uI_uI, uI_id (mgu k hk).2.1, show aMouths a (nI k) = wsI (fun v => allN (rso a k (a 5 k) v (a 2 0)) (a 4 0)) 10 from (if_pos h5).trans (by rw [ik])]; exact rt_i
      · intro i hi ih y
        refine T_ild4 dX7_mouths_22 ?_
        refine T_bipush (v := nI 9) dX7_mouths_24 (by decide) ?_
        refine T_cgtN (tgt := 61) dX7_mouths_26 (by decide) (by omega) (by omega) (fun h26 => by exfalso; omega) (fun h26 => ?_)
        refine T_ald0 dX7_mouths_29 ?_
        refine T_getR (q := 42) dX7_mouths_30 lf_X7_22 rfl rfl rfl ?_
        refine T_ild1 dX7_mouths_33 ?_
        refine T_ild4 dX7_mouths_34 ?_
        refine T_iast dX7_mouths_36 rfl (by show _ < 8; omega) rfl ?_
        rw [uI_uI]
        refine T_ild3 dX7_mouths_37 ?_
        refine T_ald0 dX7_mouths_38 ?_
        refine T_invV0i (M' := mX7_areSo) dX7_mouths_39 ml_X7_231 imX7_areSo rfl (Nat.le_of_ble_eq_true rfl) rfl (Nat.le_of_ble_eq_true rfl) rfl (Nat.le_of_ble_eq_true rfl) (c_areSo_m hM hW (by omega)) ?_
        refine T_ifeqB (tgt := 52) dX7_mouths_42 (by decide) (fun h42 => ?_) (fun h42 => ?_)
        · refine T_iconst (v := nI 0) dX7_mouths_52 (by decide) ?_
          refine T_ior dX7_mouths_53 ?_
          refine T_ist3 dX7_mouths_54 (by decide) rfl ?_
          refine T_inc4N dX7_mouths_55 (by decide) rfl ?_
          refine T_goto (tgt := 22) dX7_mouths_58 (by decide) ?_
          first | (rw [wsI_f (f := fun v => allN (rso a k (a 5 k) v (a 2 0)) (a 4 0)) h42] at ih; rw [or_0]; exact ih _) | (rw [wsI_t (f := fun v => allN (rso a k (a 5 k) v (a 2 0)) (a 4 0)) h42] at ih; exact ih _)
        · refine T_iconst (v := nI 1) dX7_mouths_45 (by decide) ?_
          refine T_ild4 dX7_mouths_46 ?_
          refine T_ishl dX7_mouths_48 ?_
          refine T_goto (tgt := 53) dX7_mouths_49 (by decide) ?_
          refine T_ior dX7_mouths_53 ?_
          refine T_ist3 dX7_mouths_54 (by decide) rfl ?_
          refine T_inc4N dX7_mouths_55 (by decide) rfl ?_
          refine T_goto (tgt := 22) dX7_mouths_58 (by decide) ?_
          first | (rw [wsI_f (f := fun v => allN (rso a k (a 5 k) v (a 2 0)) (a 4 0)) h42] at ih; rw [or_0]; exact ih _) | (rw [wsI_t (f := fun v => allN (rso a k (a 5 k) v (a 2 0)) (a 4 0)) h42] at ih; exact ih _)
    have key2 := key (nI (a 6 k))
    rw [uI_id (mgu k hk).2.1] at key2
    exact key2
  · refine T_iconst (v := -1) dX7_mouths_8 (by decide) ?_
    refine T_iret dX7_mouths_9 rfl ?_
    rw [show aMouths a x = -1 from if_neg (by simp [h5])]; exact rt_i
set_option maxRecDepth 20000 in
theorem c_X7_kinds {S : Nat → Nat → Int32} {L : Nat → Nat → Int64} {R : Nat × Nat × Nat} {d : Nat} {a : Nat → Nat → Nat} (hM : MV S a) (hWF : WFA a) {x : Int32} : TT mX7_kinds (d + 2) 0 [some (.ref 37), some (.int (x)), none, none, none] [] (S, L, R) (rt (some (.int (aKinds a x))) (S, L, R)) := by
  obtain ⟨mg, mdn, mso, msa, mpe, mrn, mgu, mdi, mre⟩ := id hM
  obtain ⟨b8, b6, b3, b64, br8⟩ := hWF.b
  refine T_ald0 dX7_kinds_0 ?_
  refine T_ild1 dX7_kinds_1 ?_
  refine T_invV1i (M' := mX7_isGuest) dX7_kinds_2 ml_X7_153 imX7_isGuest rfl (Nat.le_of_ble_eq_true rfl) rfl (Nat.le_of_ble_eq_true rfl) rfl (Nat.le_of_ble_eq_true rfl) (c_X7_isGuest mg b8) ?_
  refine T_ifneB (tgt := 10) dX7_kinds_5 (by decide) (fun h5 => ?_) (fun h5 => ?_)
  · obtain ⟨k, hk, rfl⟩ := blw_t h5
    have ik : ix (nI k) = k := ix_n (by omega)
    have hW := hWF.g (by omega)
    obtain ⟨w3, w8, wd1, wd6, wso, wb, wbs, wbp, wne, wrn, wgu, wdi, wre⟩ := id hW
    refine T_ald0 dX7_kinds_10 ?_
    refine T_getR (q := 41) dX7_kinds_11 lf_X7_19 rfl rfl rfl ?_
    refine T_ild1 dX7_kinds_14 ?_
    refine T_ialdN dX7_kinds_15 rfl (by show _ < 8; omega) (mgu _ (by omega)).1 ?_
    refine T_ist2 dX7_kinds_16 (by decide) rfl ?_
    refine T_iconst (v := nI 0) dX7_kinds_17 (by decide) ?_
    refine T_ist3 dX7_kinds_18 (by decide) rfl ?_
    refine T_iconst (v := nI 0) dX7_kinds_19 (by decide) ?_
    refine T_ist4 dX7_kinds_20 (by decide) rfl ?_
    have key : ∀ y, TT mX7_kinds (d + 2) 22 [some (.ref 37), some (.int (nI k)), some (.int (nI (a 5 k))), some (.int (nI 0)), some (.int (nI 0))] [] (uI S 41 k y, L, R) (rt (some (.int (aKinds a (nI k)))) (S, L, R)) := by
      refine up_ind (P := fun i => ∀ y, TT mX7_kinds (d + 2) 22 [some (.ref 37), some (.int (nI k)), some (.int (nI (a 5 k))), some (.int (wsI (fun v => allN (rso a k v (a 6 k) (a 2 0)) (a 4 0)) i)), some (.int (nI i))] [] (uI S 41 k y, L, R) (rt (some (.int (aKinds a (nI k)))) (S, L, R))) 3 ?_ ?_
      · intro y
        refine T_ild4 dX7_kinds_22 ?_
        refine T_iconst (v := nI 3) dX7_kinds_24 (by decide) ?_
        refine T_cgeN (tgt := 60) dX7_kinds_25 (by decide) (by omega) (by omega) (fun h25 => ?_) (fun h25 => by exfalso; omega)
        refine T_ald0 dX7_kinds_60 ?_
        refine T_getR (q := 41) dX7_kinds_61 lf_X7_19 rfl rfl rfl ?_
        refine T_ild1 dX7_kinds_64 ?_
        refine T_ild2 dX7_kinds_65 ?_
        refine T_iast dX7_kinds_66 rfl (by show _ < 8; omega) rfl ?_
        refine T_ild3 dX7_kinds_67 ?_
        refine T_iret dX7_kinds_68 rfl ?_
        rw [uI_uI, uI_id (mgu k hk).1, show aKinds a (nI k) = wsI (fun v => allN (rso a k v (a 6 k) (a 2 0)) (a 4 0)) 3 from (if_pos h5).trans (by rw [ik])]; exact rt_i
      · intro i hi ih y
        refine T_ild4 dX7_kinds_22 ?_
        refine T_iconst (v := nI 3) dX7_kinds_24 (by decide) ?_
        refine T_cgeN (tgt := 60) dX7_kinds_25 (by decide) (by omega) (by omega) (fun h25 => by exfalso; omega) (fun h25 => ?_)
        refine T_ald0 dX7_kinds_28 ?_
        refine T_getR (q := 41) dX7_kinds_29 lf_X7_19 rfl rfl rfl ?_
        refine T_ild1 dX7_kinds_32 ?_
        refine T_ild4 dX7_kinds_33 ?_
        refine T_iast dX7_kinds_35 rfl (by show _ < 8; omega) rfl ?_
        rw [uI_uI]
        refine T_ild3 dX7_kinds_36 ?_
        refine T_ald0 dX7_kinds_37 ?_
        refine T_invV0i (M' := mX7_areSo) dX7_kinds_38 ml_X7_231 imX7_areSo rfl (Nat.le_of_ble_eq_true rfl) rfl (Nat.le_of_ble_eq_true rfl) rfl (Nat.le_of_ble_eq_true rfl) (c_areSo_k hM hW (by omega)) ?_
        refine T_ifeqB (tgt := 51) dX7_kinds_41 (by decide) (fun h41 => ?_) (fun h41 => ?_)
        · refine T_iconst (v := nI 0) dX7_kinds_51 (by decide) ?_
          refine T_ior dX7_kinds_52 ?_
          refine T_ist3 dX7_kinds_53 (by decide) rfl ?_
          refine T_inc4N dX7_kinds_54 (by decide) rfl ?_
          refine T_goto (tgt := 22) dX7_kinds_57 (by decide) ?_
          first | (rw [wsI_f (f := fun v => allN (rso a k v (a 6 k) (a 2 0)) (a 4 0)) h41] at ih; rw [or_0]; exact ih _) | (rw [wsI_t (f := fun v => allN (rso a k v (a 6 k) (a 2 0)) (a 4 0)) h41] at ih; exact ih _)
        · refine T_iconst (v := nI 1) dX7_kinds_44 (by decide) ?_
          refine T_ild4 dX7_kinds_45 ?_
          refine T_ishl dX7_kinds_47 ?_
          refine T_goto (tgt := 52) dX7_kinds_48 (by decide) ?_
          refine T_ior dX7_kinds_52 ?_
          refine T_ist3 dX7_kinds_53 (by decide) rfl ?_
          refine T_inc4N dX7_kinds_54 (by decide) rfl ?_
          refine T_goto (tgt := 22) dX7_kinds_57 (by decide) ?_
          first | (rw [wsI_f (f := fun v => allN (rso a k v (a 6 k) (a 2 0)) (a 4 0)) h41] at ih; rw [or_0]; exact ih _) | (rw [wsI_t (f := fun v => allN (rso a k v (a 6 k) (a 2 0)) (a 4 0)) h41] at ih; exact ih _)
    have key2 := key (nI (a 5 k))
    rw [uI_id (mgu k hk).1] at key2
    exact key2
  · refine T_iconst (v := -1) dX7_kinds_8 (by decide) ?_
    refine T_iret dX7_kinds_9 rfl ?_
    rw [show aKinds a x = -1 from if_neg (by simp [h5])]; exact rt_i
set_option maxRecDepth 20000 in
theorem c_X7_soups {S : Nat → Nat → Int32} {L : Nat → Nat → Int64} {R : Nat × Nat × Nat} {d : Nat} {a : Nat → Nat → Nat} (hM : MV S a) (hWF : WFA a)  : TT mX7_soups (d + 2) 0 [some (.ref 37), none, none, none] [] (S, L, R) (rt (some (.int (aSoups a))) (S, L, R)) := by
  obtain ⟨mg, mdn, mso, msa, mpe, mrn, mgu, mdi, mre⟩ := id hM
  obtain ⟨b8, b6, b3, b64, br8⟩ := hWF.b
  refine T_ald0 dX7_soups_0 ?_
  refine T_getN dX7_soups_1 lf_X7_78 rfl rfl mg ?_
  refine T_ifneN (tgt := 10) dX7_soups_4 (by decide) (by omega) (fun h4 => ?_) (fun h4 => ?_)
  · have h0 : 0 < a 0 0 := by omega
    have hW := hWF.g h0
    obtain ⟨w3, w8, wd1, wd6, wso, wb, wbs, wbp, wne, wrn, wgu, wdi, wre⟩ := id hW
    refine T_ald0 dX7_soups_10 ?_
    refine T_getN dX7_soups_11 lf_X7_111 rfl rfl mso ?_
    refine T_ist1 dX7_soups_14 (by decide) rfl ?_
    refine T_iconst (v := nI 0) dX7_soups_15 (by decide) ?_
    refine T_ist2 dX7_soups_16 (by decide) rfl ?_
    refine T_iconst (v := nI 0) dX7_soups_17 (by decide) ?_
    refine T_ist3 dX7_soups_18 (by decide) rfl ?_
    have key : ∀ y, TT mX7_soups (d + 2) 19 [some (.ref 37), some (.int (nI (a 2 0))), some (.int (nI 0)), some (.int (nI 0))] [] (uI S 37 7 y, L, R) (rt (some (.int (aSoups a))) (S, L, R)) := by
      refine up_ind (P := fun i => ∀ y, TT mX7_soups (d + 2) 19 [some (.ref 37), some (.int (nI (a 2 0))), some (.int (wsI (fun v => allN (rso a 0 (a 5 0) (a 6 0) v) (a 4 0)) i)), some (.int (nI i))] [] (uI S 37 7 y, L, R) (rt (some (.int (aSoups a))) (S, L, R))) 4 ?_ ?_
      · intro y
        refine T_ild3 dX7_soups_19 ?_
        refine T_iconst (v := nI 3) dX7_soups_20 (by decide) ?_
        refine T_cgtN (tgt := 52) dX7_soups_21 (by decide) (by omega) (by omega) (fun h21 => ?_) (fun h21 => by exfalso; omega)
        refine T_ald0 dX7_soups_52 ?_
        refine T_ild1 dX7_soups_53 ?_
        refine T_putI dX7_soups_54 lf_X7_111 rfl rfl rfl rfl ?_
        refine T_ild2 dX7_soups_57 ?_
        refine T_iret dX7_soups_58 rfl ?_
        rw [uI_uI, uI_id mso, show aSoups a = wsI (fun v => allN (rso a 0 (a 5 0) (a 6 0) v) (a 4 0)) 4 from if_neg h4]; exact rt_i
      · intro i hi ih y
        refine T_ild3 dX7_soups_19 ?_
        refine T_iconst (v := nI 3) dX7_soups_20 (by decide) ?_
        refine T_cgtN (tgt := 52) dX7_soups_21 (by decide) (by omega) (by omega) (fun h21 => by exfalso; omega) (fun h21 => ?_)
        refine T_ald0 dX7_soups_24 ?_
        refine T_ild3 dX7_soups_25 ?_
        refine T_putI dX7_soups_26 lf_X7_111 rfl rfl rfl rfl ?_
        rw [uI_uI]
        refine T_ild2 dX7_soups_29 ?_
        refine T_ald0 dX7_soups_30 ?_
        refine T_invV0i (M' := mX7_areSo) dX7_soups_31 ml_X7_231 imX7_areSo rfl (Nat.le_of_ble_eq_true rfl) rfl (Nat.le_of_ble_eq_true rfl) rfl (Nat.le_of_ble_eq_true rfl) (c_areSo_s hM hW (by omega)) ?_
        refine T_ifeqB (tgt := 43) dX7_soups_34 (by decide) (fun h34 => ?_) (fun h34 => ?_)
        · refine T_iconst (v := nI 0) dX7_soups_43 (by decide) ?_
          refine T_ior dX7_soups_44 ?_
          refine T_ist2 dX7_soups_45 (by decide) rfl ?_
          refine T_inc3N dX7_soups_46 (by decide) rfl ?_
          refine T_goto (tgt := 19) dX7_soups_49 (by decide) ?_
          first | (rw [wsI_f (f := fun v => allN (rso a 0 (a 5 0) (a 6 0) v) (a 4 0)) h34] at ih; rw [or_0]; exact ih _) | (rw [wsI_t (f := fun v => allN (rso a 0 (a 5 0) (a 6 0) v) (a 4 0)) h34] at ih; exact ih _)
        · refine T_iconst (v := nI 1) dX7_soups_37 (by decide) ?_
          refine T_ild3 dX7_soups_38 ?_
          refine T_ishl dX7_soups_39 ?_
          refine T_goto (tgt := 44) dX7_soups_40 (by decide) ?_
          refine T_ior dX7_soups_44 ?_
          refine T_ist2 dX7_soups_45 (by decide) rfl ?_
          refine T_inc3N dX7_soups_46 (by decide) rfl ?_
          refine T_goto (tgt := 19) dX7_soups_49 (by decide) ?_
          first | (rw [wsI_f (f := fun v => allN (rso a 0 (a 5 0) (a 6 0) v) (a 4 0)) h34] at ih; rw [or_0]; exact ih _) | (rw [wsI_t (f := fun v => allN (rso a 0 (a 5 0) (a 6 0) v) (a 4 0)) h34] at ih; exact ih _)
    have key2 := key (nI (a 2 0))
    rw [uI_id mso] at key2
    exact key2
  · refine T_bipush (v := -3) dX7_soups_7 (by decide) ?_
    refine T_iret dX7_soups_9 rfl ?_
    rw [show aSoups a = -3 from if_pos h4]; exact rt_i
set_option maxRecDepth 20000 in
theorem c_X7_tell {S : Nat → Nat → Int32} {L : Nat → Nat → Int64} {R : Nat × Nat × Nat} {d : Nat} {a : Nat → Nat → Nat} (hM : MV S a) (hWF : WFA a) {x : Int32} : TT mX7_tell (d + 1) 0 [some (.ref 37), some (.int (x)), none] [] (S, L, R) (fun r σ' => ∃ S', σ' = (S', L, R) ∧ r = some (.int (aTell a x)) ∧ (∀ q, q ≠ 37 → S' q = S q) ∧ (∀ k, k ≠ 1 → S' 37 k = S 37 k) ∧ S' 37 1 = tTell a x (S 37 1)) := by
  obtain ⟨mg, mdn, mso, msa, mpe, mrn, mgu, mdi, mre⟩ := id hM
  obtain ⟨b8, b6, b3, b64, br8⟩ := hWF.b
  refine T_ald0 dX7_tell_0 ?_
  refine T_ild1 dX7_tell_1 ?_
  refine T_invV1i (M' := mX7_isGuest) dX7_tell_2 ml_X7_153 imX7_isGuest rfl (Nat.le_of_ble_eq_true rfl) rfl (Nat.le_of_ble_eq_true rfl) rfl (Nat.le_of_ble_eq_true rfl) (c_X7_isGuest mg b8) ?_
  refine T_ifneB (tgt := 10) dX7_tell_5 (by decide) (fun h5 => ?_) (fun h5 => ?_)
  · obtain ⟨k, hk, rfl⟩ := blw_t h5
    have ik : ix (nI k) = k := ix_n (by omega)
    have hW := hWF.g (by omega)
    obtain ⟨w3, w8, wd1, wd6, wso, wb, wbs, wbp, wne, wrn, wgu, wdi, wre⟩ := id hW
    refine T_ald0 dX7_tell_10 ?_
    refine T_getR (q := 42) dX7_tell_11 lf_X7_22 rfl rfl rfl ?_
    refine T_ild1 dX7_tell_14 ?_
    refine T_ialdN dX7_tell_15 rfl (by show _ < 8; omega) (mgu _ (by omega)).2.1 ?_
    refine T_ist2 dX7_tell_16 (by decide) rfl ?_
    refine T_ald0 dX7_tell_17 ?_
    refine T_getR (q := 41) dX7_tell_18 lf_X7_19 rfl rfl rfl ?_
    refine T_ild1 dX7_tell_21 ?_
    refine T_ialdN dX7_tell_22 rfl (by show _ < 8; omega) (mgu _ (by omega)).1 ?_
    refine T_lk [(1, 48), (2, 63)] 90 dX7_tell_23 (by decide) (by decide) (by decide) (by decide) (fun j hj e23 => ?_) (fun e23 => ?_)
    · match j, hj, e23 with
      | 0, _, e23 =>
        refine T_ald0 dX7_tell_48 ?_
        refine T_iconst (v := nI 2) dX7_tell_49 (by decide) ?_
        refine T_invV1v (M' := mX7_begins) dX7_tell_50 ml_X7_246 imX7_begins rfl (Nat.le_of_ble_eq_true rfl) rfl (Nat.le_of_ble_eq_true rfl) rfl (Nat.le_of_ble_eq_true rfl) c_X7_begins ?_
        refine T_ald0 dX7_tell_53 ?_
        refine T_iconst (v := nI 1) dX7_tell_54 (by decide) ?_
        refine T_invV1v (M' := mX7_begins) dX7_tell_55 ml_X7_246 imX7_begins rfl (Nat.le_of_ble_eq_true rfl) rfl (Nat.le_of_ble_eq_true rfl) rfl (Nat.le_of_ble_eq_true rfl) c_X7_begins ?_
        refine T_ild2 dX7_tell_58 ?_
        refine T_bipush (v := nI 100) dX7_tell_59 (by decide) ?_
        refine T_iaddN dX7_tell_61 ?_
        refine T_iret dX7_tell_62 rfl ?_
        have q : a 5 k = 1 := nI_inj (by have := wgu k hk; omega) (by decide) e23
        rw [show aTell a (nI k) = nI (a 6 k + 100) from (if_pos h5).trans (by rw [ik, if_neg (by rw [q]; decide), if_pos q]), show tTell a (nI k) (S 37 1) = _ from (if_pos h5).trans (by rw [ik, if_neg (by rw [q]; decide), if_pos q])]; exact ⟨_, rfl, rfl, fun q hq => by rw [uI_p hq, uI_p hq], fun k hk => by rw [uI_k hk, uI_k hk], by simp only [uI_s]⟩
      | 1, _, e23 =>
        refine T_ald0 dX7_tell_63 ?_
        refine T_iconst (v := nI 3) dX7_tell_64 (by decide) ?_
        refine T_invV1v (M' := mX7_begins) dX7_tell_65 ml_X7_246 imX7_begins rfl (Nat.le_of_ble_eq_true rfl) rfl (Nat.le_of_ble_eq_true rfl) rfl (Nat.le_of_ble_eq_true rfl) c_X7_begins ?_
        refine T_ald0 dX7_tell_68 ?_
        refine T_iconst (v := nI 2) dX7_tell_69 (by decide) ?_
        refine T_invV1v (M' := mX7_begins) dX7_tell_70 ml_X7_246 imX7_begins rfl (Nat.le_of_ble_eq_true rfl) rfl (Nat.le_of_ble_eq_true rfl) rfl (Nat.le_of_ble_eq_true rfl) c_X7_begins ?_
        refine T_ald0 dX7_tell_73 ?_
        refine T_iconst (v := nI 1) dX7_tell_74 (by decide) ?_
        refine T_invV1v (M' := mX7_begins) dX7_tell_75 ml_X7_246 imX7_begins rfl (Nat.le_of_ble_eq_true rfl) rfl (Nat.le_of_ble_eq_true rfl) rfl (Nat.le_of_ble_eq_true rfl) c_X7_begins ?_
        refine T_ald0 dX7_tell_78 ?_
        refine T_iconst (v := nI 1) dX7_tell_79 (by decide) ?_
        refine T_invV1v (M' := mX7_begins) dX7_tell_80 ml_X7_246 imX7_begins rfl (Nat.le_of_ble_eq_true rfl) rfl (Nat.le_of_ble_eq_true rfl) rfl (Nat.le_of_ble_eq_true rfl) c_X7_begins ?_
        refine T_iconst (v := nI 2) dX7_tell_83 (by decide) ?_
        refine T_ild2 dX7_tell_84 ?_
        refine T_imulN dX7_tell_85 ?_
        refine T_bipush (v := nI 100) dX7_tell_86 (by decide) ?_
        refine T_iaddN dX7_tell_88 ?_
        refine T_iret dX7_tell_89 rfl ?_
        have q : a 5 k = 2 := nI_inj (by have := wgu k hk; omega) (by decide) e23
        rw [show aTell a (nI k) = nI (2 * a 6 k + 100) from (if_pos h5).trans (by rw [ik, if_pos q]), show tTell a (nI k) (S 37 1) = _ from (if_pos h5).trans (by rw [ik, if_pos q])]; exact ⟨_, rfl, rfl, fun q hq => by rw [uI_p hq, uI_p hq, uI_p hq, uI_p hq], fun k hk => by rw [uI_k hk, uI_k hk, uI_k hk, uI_k hk], by simp only [uI_s]⟩
      | j + 2, hj, _ => exact absurd hj (by simp)
    · refine T_ald0 dX7_tell_90 ?_
      refine T_iconst (v := nI 1) dX7_tell_91 (by decide) ?_
      refine T_invV1v (M' := mX7_begins) dX7_tell_92 ml_X7_246 imX7_begins rfl (Nat.le_of_ble_eq_true rfl) rfl (Nat.le_of_ble_eq_true rfl) rfl (Nat.le_of_ble_eq_true rfl) c_X7_begins ?_
      refine T_ild2 dX7_tell_95 ?_
      refine T_iret dX7_tell_96 rfl ?_
      have q1 : a 5 k ≠ 1 := fun e => e23 0 (by decide) (by rw [e]; rfl)
      have q2 : a 5 k ≠ 2 := fun e => e23 1 (by decide) (by rw [e]; rfl)
      rw [show aTell a (nI k) = nI (a 6 k) from (if_pos h5).trans (by rw [ik, if_neg q2, if_neg q1]), show tTell a (nI k) (S 37 1) = _ from (if_pos h5).trans (by rw [ik, if_neg q2, if_neg q1])]; exact ⟨_, rfl, rfl, fun q hq => by rw [uI_p hq], fun k hk => by rw [uI_k hk], by simp only [uI_s]⟩
  · refine T_iconst (v := -1) dX7_tell_8 (by decide) ?_
    refine T_iret dX7_tell_9 rfl ?_
    rw [show aTell a x = -1 from if_neg (by simp [h5]), show tTell a x (S 37 1) = S 37 1 from if_neg (by simp [h5])]; exact ⟨_, rfl, rfl, fun _ _ => rfl, fun _ _ => rfl, rfl⟩
set_option maxRecDepth 20000 in
theorem c_X7_toast {S : Nat → Nat → Int32} {L : Nat → Nat → Int64} {R : Nat × Nat × Nat} {d : Nat} {a : Nat → Nat → Nat} (hM : MV S a) (hWF : WFA a) {x : Int32} : TT mX7_toast (d + 1) 0 [some (.ref 37), some (.int (x))] [] (S, L, R) (fun r σ' => ∃ S', σ' = (S', L, R) ∧ r = some (.int (aToast a x)) ∧ (∀ q, q ≠ 37 → S' q = S q) ∧ (∀ k, k ≠ 1 → S' 37 k = S 37 k) ∧ S' 37 1 = tToast a x (S 37 1)) := by
  obtain ⟨mg, mdn, mso, msa, mpe, mrn, mgu, mdi, mre⟩ := id hM
  obtain ⟨b8, b6, b3, b64, br8⟩ := hWF.b
  refine T_ald0 dX7_toast_0 ?_
  refine T_ild1 dX7_toast_1 ?_
  refine T_invV1i (M' := mX7_isGuest) dX7_toast_2 ml_X7_153 imX7_isGuest rfl (Nat.le_of_ble_eq_true rfl) rfl (Nat.le_of_ble_eq_true rfl) rfl (Nat.le_of_ble_eq_true rfl) (c_X7_isGuest mg b8) ?_
  refine T_ifneB (tgt := 10) dX7_toast_5 (by decide) (fun h5 => ?_) (fun h5 => ?_)
  · obtain ⟨k, hk, rfl⟩ := blw_t h5
    have ik : ix (nI k) = k := ix_n (by omega)
    have hW := hWF.g (by omega)
    obtain ⟨w3, w8, wd1, wd6, wso, wb, wbs, wbp, wne, wrn, wgu, wdi, wre⟩ := id hW
    have qk := wgu k hk
    refine T_ald0 dX7_toast_10 ?_
    refine T_ald0 dX7_toast_11 ?_
    refine T_getR (q := 41) dX7_toast_12 lf_X7_19 rfl rfl rfl ?_
    refine T_ild1 dX7_toast_15 ?_
    refine T_ialdN dX7_toast_16 rfl (by show _ < 8; omega) (mgu _ hk).1 ?_
    refine T_iconst (v := nI 2) dX7_toast_17 (by decide) ?_
    refine T_cneN (tgt := 25) dX7_toast_18 (by decide) (by omega) (by omega) (fun h18 => ?_) (fun h18 => ?_)
    · refine T_iconst (v := nI 4) dX7_toast_25 (by decide) ?_
      refine T_invV1v (M' := mX7_begins) dX7_toast_26 ml_X7_246 imX7_begins rfl (Nat.le_of_ble_eq_true rfl) rfl (Nat.le_of_ble_eq_true rfl) rfl (Nat.le_of_ble_eq_true rfl) c_X7_begins ?_
      refine T_ald0 dX7_toast_29 ?_
      refine T_getR (q := 41) dX7_toast_30 lf_X7_19 rfl rfl rfl ?_
      refine T_ild1 dX7_toast_33 ?_
      refine T_ialdN dX7_toast_34 rfl (by show _ < 8; omega) ((congrFun (uI_p (by decide)) _).trans (mgu _ hk).1) ?_
      refine T_iconst (v := nI 2) dX7_toast_35 (by decide) ?_
      refine T_cneN (tgt := 44) dX7_toast_36 (by decide) (by omega) (by omega) (fun h36 => ?_) (fun h36 => ?_)
      · refine T_ild1 dX7_toast_44 ?_
        refine T_iret dX7_toast_45 rfl ?_
        first
          | (exfalso; omega)
          | (rw [show aToast a (nI k) = nI 20 from (if_pos h5).trans (by rw [ik, if_pos h18]), show tToast a (nI k) (S 37 1) = _ from (if_pos h5).trans (by rw [ik, if_pos h18])]; exact ⟨_, rfl, rfl, fun q hq => uI_p hq, fun k hk => uI_k hk, uI_s⟩)
          | (rw [show aToast a (nI k) = nI k from (if_pos h5).trans (by rw [ik, if_neg h18]), show tToast a (nI k) (S 37 1) = _ from (if_pos h5).trans (by rw [ik, if_neg h18])]; exact ⟨_, rfl, rfl, fun q hq => uI_p hq, fun k hk => uI_k hk, uI_s⟩)
          | fail "leaf"
      · refine T_bipush (v := nI 20) dX7_toast_39 (by decide) ?_
        refine T_goto (tgt := 45) dX7_toast_41 (by decide) ?_
        refine T_iret dX7_toast_45 rfl ?_
        first
          | (exfalso; omega)
          | (rw [show aToast a (nI k) = nI 20 from (if_pos h5).trans (by rw [ik, if_pos h18]), show tToast a (nI k) (S 37 1) = _ from (if_pos h5).trans (by rw [ik, if_pos h18])]; exact ⟨_, rfl, rfl, fun q hq => uI_p hq, fun k hk => uI_k hk, uI_s⟩)
          | (rw [show aToast a (nI k) = nI k from (if_pos h5).trans (by rw [ik, if_neg h18]), show tToast a (nI k) (S 37 1) = _ from (if_pos h5).trans (by rw [ik, if_neg h18])]; exact ⟨_, rfl, rfl, fun q hq => uI_p hq, fun k hk => uI_k hk, uI_s⟩)
          | fail "leaf"
    · refine T_iconst (v := nI 5) dX7_toast_21 (by decide) ?_
      refine T_goto (tgt := 26) dX7_toast_22 (by decide) ?_
      refine T_invV1v (M' := mX7_begins) dX7_toast_26 ml_X7_246 imX7_begins rfl (Nat.le_of_ble_eq_true rfl) rfl (Nat.le_of_ble_eq_true rfl) rfl (Nat.le_of_ble_eq_true rfl) c_X7_begins ?_
      refine T_ald0 dX7_toast_29 ?_
      refine T_getR (q := 41) dX7_toast_30 lf_X7_19 rfl rfl rfl ?_
      refine T_ild1 dX7_toast_33 ?_
      refine T_ialdN dX7_toast_34 rfl (by show _ < 8; omega) ((congrFun (uI_p (by decide)) _).trans (mgu _ hk).1) ?_
      refine T_iconst (v := nI 2) dX7_toast_35 (by decide) ?_
      refine T_cneN (tgt := 44) dX7_toast_36 (by decide) (by omega) (by omega) (fun h36 => ?_) (fun h36 => ?_)
      · refine T_ild1 dX7_toast_44 ?_
        refine T_iret dX7_toast_45 rfl ?_
        first
          | (exfalso; omega)
          | (rw [show aToast a (nI k) = nI 20 from (if_pos h5).trans (by rw [ik, if_pos h18]), show tToast a (nI k) (S 37 1) = _ from (if_pos h5).trans (by rw [ik, if_pos h18])]; exact ⟨_, rfl, rfl, fun q hq => uI_p hq, fun k hk => uI_k hk, uI_s⟩)
          | (rw [show aToast a (nI k) = nI k from (if_pos h5).trans (by rw [ik, if_neg h18]), show tToast a (nI k) (S 37 1) = _ from (if_pos h5).trans (by rw [ik, if_neg h18])]; exact ⟨_, rfl, rfl, fun q hq => uI_p hq, fun k hk => uI_k hk, uI_s⟩)
          | fail "leaf"
      · refine T_bipush (v := nI 20) dX7_toast_39 (by decide) ?_
        refine T_goto (tgt := 45) dX7_toast_41 (by decide) ?_
        refine T_iret dX7_toast_45 rfl ?_
        first
          | (exfalso; omega)
          | (rw [show aToast a (nI k) = nI 20 from (if_pos h5).trans (by rw [ik, if_pos h18]), show tToast a (nI k) (S 37 1) = _ from (if_pos h5).trans (by rw [ik, if_pos h18])]; exact ⟨_, rfl, rfl, fun q hq => uI_p hq, fun k hk => uI_k hk, uI_s⟩)
          | (rw [show aToast a (nI k) = nI k from (if_pos h5).trans (by rw [ik, if_neg h18]), show tToast a (nI k) (S 37 1) = _ from (if_pos h5).trans (by rw [ik, if_neg h18])]; exact ⟨_, rfl, rfl, fun q hq => uI_p hq, fun k hk => uI_k hk, uI_s⟩)
          | fail "leaf"
  · refine T_iconst (v := -1) dX7_toast_8 (by decide) ?_
    refine T_iret dX7_toast_9 rfl ?_
    rw [show aToast a x = -1 from if_neg (by simp [h5]), show tToast a x (S 37 1) = S 37 1 from if_neg (by simp [h5])]; exact ⟨_, rfl, rfl, fun _ _ => rfl, fun _ _ => rfl, rfl⟩
set_option maxRecDepth 20000 in
theorem c_X7_as {S : Nat → Nat → Int32} {L : Nat → Nat → Int64} {R : Nat × Nat × Nat} {d : Nat} {a : Nat → Nat → Nat} (hM : MV S a) (hWF : WFA a) {x y : Int32} : TT mX7_as (d + 1) 0 [some (.ref 37), some (.int (x)), some (.int (y))] [] (S, L, R) (fun r σ' => ∃ S', σ' = (S', L, R) ∧ r = some (.int (aAs a x y)) ∧ (∀ q, q ≠ 37 → S' q = S q) ∧ (∀ k, k ≠ 0 → S' 37 k = S 37 k) ∧ S' 37 0 = nI (fAs a x y)) := by
  obtain ⟨mg, mdn, mso, msa, mpe, mrn, mgu, mdi, mre⟩ := id hM
  obtain ⟨b8, b6, b3, b64, br8⟩ := hWF.b
  refine T_ald0 dX7_as_0 ?_
  refine T_iconst (v := nI 0) dX7_as_1 (by decide) ?_
  refine T_putI dX7_as_2 lf_X7_68 rfl rfl rfl rfl ?_
  refine T_ald0 dX7_as_5 ?_
  refine T_ild1 dX7_as_6 ?_
  refine T_invV1i (M' := mX7_isGuest) dX7_as_7 ml_X7_153 imX7_isGuest rfl (Nat.le_of_ble_eq_true rfl) rfl (Nat.le_of_ble_eq_true rfl) rfl (Nat.le_of_ble_eq_true rfl) (c_X7_isGuest ((uI_k (by decide)).trans mg) b8) ?_
  refine T_ifneB (tgt := 15) dX7_as_10 (by decide) (fun h10 => ?_) (fun h10 => ?_)
  · obtain ⟨k, hk, rfl⟩ := blw_t h10
    have ik : ix (nI k) = k := ix_n (by omega)
    have hW := hWF.g (by omega)
    obtain ⟨w3, w8, wd1, wd6, wso, wb, wbs, wbp, wne, wrn, wgu, wdi, wre⟩ := id hW
    refine T_ild2 dX7_as_15 ?_
    refine T_iconst (v := nI 0) dX7_as_16 (by decide) ?_
    refine T_iconst (v := nI 2) dX7_as_17 (by decide) ?_
    refine T_invS3i (M' := mX7_within) dX7_as_18 ml_X7_74 imX7_within (Nat.le_of_ble_eq_true rfl) rfl (Nat.le_of_ble_eq_true rfl) (c_within0 (n := 3) (by decide) rfl) ?_
    refine T_ifneB (tgt := 27) dX7_as_21 (by decide) (fun h21 => ?_) (fun h21 => ?_)
    · obtain ⟨m, hm, rfl⟩ := blw_t h21
      have im : ix (nI m) = m := ix_n (by omega)
      have qk := wgu k hk
      refine T_ald0 dX7_as_27 ?_
      refine T_getR (q := 41) dX7_as_28 lf_X7_19 rfl rfl rfl ?_
      refine T_ild1 dX7_as_31 ?_
      refine T_ialdN dX7_as_32 rfl (by show _ < 8; omega) ((congrFun (uI_p (by decide)) _).trans (mgu _ hk).1) ?_
      refine T_ild2 dX7_as_33 ?_
      refine T_cltN (tgt := 41) dX7_as_34 (by decide) (by omega) (by omega) (fun h34 => ?_) (fun h34 => ?_)
      · refine T_ald0 dX7_as_41 ?_
        refine T_iconst (v := nI 2) dX7_as_42 (by decide) ?_
        refine T_invV1i (M' := mX7_fails) dX7_as_43 ml_X7_98 imX7_fails rfl (Nat.le_of_ble_eq_true rfl) rfl (Nat.le_of_ble_eq_true rfl) rfl (Nat.le_of_ble_eq_true rfl) c_X7_fails ?_
        refine T_iret dX7_as_46 rfl ?_
        first
          | (rw [show aAs a (nI k) (nI m) = nI 1 from (if_pos h10).trans ((if_pos h21).trans (if_pos (by rw [ik, im]; omega))), show fAs a (nI k) (nI m) = 0 from if_neg (by rw [ik, im, h10, h21, decide_eq_true (show m ≤ a 5 k by omega)]; decide)]; exact ⟨_, rfl, rfl, fun q hq => uI_p hq, fun k hk => uI_k hk, uI_s⟩)
          | (rw [show aAs a (nI k) (nI m) = -10 - nI 2 from (if_pos h10).trans ((if_pos h21).trans (if_neg (by rw [ik, im]; omega))), show fAs a (nI k) (nI m) = 2 from if_pos (by rw [ik, im, h10, h21, decide_eq_false (show ¬ m ≤ a 5 k by omega)]; rfl)]; exact ⟨_, rfl, rfl, fun q hq => by rw [uI_p hq, uI_p hq], fun k hk => by rw [uI_k hk, uI_k hk], uI_s⟩)
          | fail "leaf"
      · refine T_iconst (v := nI 1) dX7_as_37 (by decide) ?_
        refine T_goto (tgt := 46) dX7_as_38 (by decide) ?_
        refine T_iret dX7_as_46 rfl ?_
        first
          | (rw [show aAs a (nI k) (nI m) = nI 1 from (if_pos h10).trans ((if_pos h21).trans (if_pos (by rw [ik, im]; omega))), show fAs a (nI k) (nI m) = 0 from if_neg (by rw [ik, im, h10, h21, decide_eq_true (show m ≤ a 5 k by omega)]; decide)]; exact ⟨_, rfl, rfl, fun q hq => uI_p hq, fun k hk => uI_k hk, uI_s⟩)
          | (rw [show aAs a (nI k) (nI m) = -10 - nI 2 from (if_pos h10).trans ((if_pos h21).trans (if_neg (by rw [ik, im]; omega))), show fAs a (nI k) (nI m) = 2 from if_pos (by rw [ik, im, h10, h21, decide_eq_false (show ¬ m ≤ a 5 k by omega)]; rfl)]; exact ⟨_, rfl, rfl, fun q hq => by rw [uI_p hq, uI_p hq], fun k hk => by rw [uI_k hk, uI_k hk], uI_s⟩)
          | fail "leaf"
    · refine T_bipush (v := -2) dX7_as_24 (by decide) ?_
      refine T_iret dX7_as_26 rfl ?_
      rw [show aAs a (nI k) y = -2 from (if_pos h10).trans (if_neg (by simp [h21])), show fAs a (nI k) y = 0 from if_neg (by simp [h10, h21])]; exact ⟨_, rfl, rfl, fun q hq => uI_p hq, fun k hk => uI_k hk, uI_s⟩
  · refine T_iconst (v := -1) dX7_as_13 (by decide) ?_
    refine T_iret dX7_as_14 rfl ?_
    rw [show aAs a x y = -1 from if_neg (by simp [h10]), show fAs a x y = 0 from if_neg (by simp [h10])]; exact ⟨_, rfl, rfl, fun q hq => uI_p hq, fun k hk => uI_k hk, uI_s⟩
theorem and1_n : ∀ n, n < 256 → nI n &&& nI 1 = nI (n % 2) := by decide +kernel
theorem shr1_n : ∀ n, n < 256 → nI n >>> (nI 1 &&& 31) = nI (n / 2) := by decide +kernel
theorem pcn_h (n : Nat) (h : n < 256) : pcn n = n % 2 + pcn (n / 2) := by unfold pcn; omega
theorem wet_iff {g k i m : Nat} (hk : k < g) (hi : i < g) : ((if stp g i k < stp g k i then stp g i k else stp g k i) ≤ m) ↔ (stp g k i ≤ m ∨ g - stp g k i ≤ m) := by
  by_cases h : k ≤ i
  · have e1 : stp g k i = i - k := if_pos h
    by_cases e : i ≤ k
    · have e2 : stp g i k = k - i := if_pos e
      rw [e1, e2]; split <;> omega
    · have e2 : stp g i k = k + g - i := if_neg e
      rw [e1, e2]; split <;> omega
  · have e1 : stp g k i = i + g - k := if_neg h
    have e2 : stp g i k = k - i := if_pos (by omega)
    rw [e1, e2]; split <;> omega
set_option maxRecDepth 20000 in
theorem c_X7_size {S : Nat → Nat → Int32} {L : Nat → Nat → Int64} {R : Nat × Nat × Nat} {d : Nat} {n : Nat} (hn : n < 256) : TT mX7_size (d + 0) 0 [some (.int (nI n)), none, none] [] (S, L, R) (rt (some (.int (nI (pcn n)))) (S, L, R)) := by
  refine T_iconst (v := nI 0) dX7_size_0 (by decide) ?_
  refine T_ist1 dX7_size_1 (by decide) rfl ?_
  refine T_ild0 dX7_size_2 ?_
  refine T_ist2 dX7_size_3 (by decide) rfl ?_
  skip
  have key : ∀ q, ∀ m, m ≤ q → m < 256 → ∀ c, TT mX7_size (d + 0) 4 [some (.int (nI n)), some (.int (nI c)), some (.int (nI m))] [] (S, L, R) (rt (some (.int (nI (c + pcn m)))) (S, L, R)) := by
    intro q
    induction q with
    | zero =>
      intro m hm hm2 c
      refine T_ild2 dX7_size_4 ?_
      refine T_ifleN (tgt := 21) dX7_size_5 (by decide) (by omega) (fun h5 => ?_) (fun h5 => by exfalso; omega)
      refine T_ild1 dX7_size_21 ?_
      refine T_iret dX7_size_22 rfl ?_
      rw [show m = 0 by omega]; exact rt_i
    | succ q ih =>
      intro m hm hm2 c
      refine T_ild2 dX7_size_4 ?_
      refine T_ifleN (tgt := 21) dX7_size_5 (by decide) (by omega) (fun h5 => ?_) (fun h5 => ?_)
      · refine T_ild1 dX7_size_21 ?_
        refine T_iret dX7_size_22 rfl ?_
        rw [h5]; exact rt_i
      · refine T_ild1 dX7_size_8 ?_
        refine T_ild2 dX7_size_9 ?_
        refine T_iconst (v := nI 1) dX7_size_10 (by decide) ?_
        refine T_iand dX7_size_11 ?_
        rw [and1_n _ hm2]
        refine T_iaddN dX7_size_12 ?_
        refine T_ist1 dX7_size_13 (by decide) rfl ?_
        refine T_ild2 dX7_size_14 ?_
        refine T_iconst (v := nI 1) dX7_size_15 (by decide) ?_
        refine T_ishr dX7_size_16 ?_
        rw [shr1_n _ hm2]
        refine T_ist2 dX7_size_17 (by decide) rfl ?_
        refine T_goto (tgt := 4) dX7_size_18 (by decide) ?_
        rw [show c + pcn m = c + m % 2 + pcn (m / 2) by rw [pcn_h m hm2]; omega]; exact ih _ (by omega) (by omega) _
  have k2 := key n n (Nat.le_refl _) hn 0
  rw [Nat.zero_add] at k2
  exact k2
set_option maxRecDepth 20000 in
theorem c_X7_wetBy {S : Nat → Nat → Int32} {L : Nat → Nat → Int64} {R : Nat × Nat × Nat} {d : Nat} {a : Nat → Nat → Nat} (hM : MV S a) (hW : WL a) {k : Nat} (hk : k < a 0 0) : TT mX7_wetBy (d + 0) 0 [some (.ref 37), some (.int (nI k)), none, none, none] [] (S, L, R) (rt (some (.int (wetV a k))) (S, L, R)) := by
  obtain ⟨mg, mdn, mso, msa, mpe, mrn, mgu, mdi, mre⟩ := id hM
  obtain ⟨w3, w8, wd1, wd6, wso, wb, wbs, wbp, wne, wrn, wgu, wdi, wre⟩ := id hW
  refine T_iconst (v := nI 0) dX7_wetBy_0 (by decide) ?_
  refine T_ist2 dX7_wetBy_1 (by decide) rfl ?_
  refine T_iconst (v := nI 0) dX7_wetBy_2 (by decide) ?_
  refine T_ist3 dX7_wetBy_3 (by decide) rfl ?_
  skip
  refine up_ind (P := fun i => ∀ x4, TT mX7_wetBy (d + 0) 4 [some (.ref 37), some (.int (nI k)), some (.int (wsI (wetF a k) i)), some (.int (nI i)), x4] [] (S, L, R) (rt (some (.int (wetV a k))) (S, L, R))) (a 0 0) ?_ ?_ none
  · intro x4
    refine T_ild3 dX7_wetBy_4 ?_
    refine T_ald0 dX7_wetBy_5 ?_
    refine T_getN dX7_wetBy_6 lf_X7_78 rfl rfl mg ?_
    refine T_cgeN (tgt := 70) dX7_wetBy_9 (by decide) (by omega) (by omega) (fun h9 => ?_) (fun h9 => by exfalso; omega)
    refine T_ild2 dX7_wetBy_70 ?_
    refine T_iret dX7_wetBy_71 rfl ?_
    exact rt_i
  · intro i hi ih x4
    have qs := stp_lt hk hi
    have qk := wgu k hk
    refine T_ild3 dX7_wetBy_4 ?_
    refine T_ald0 dX7_wetBy_5 ?_
    refine T_getN dX7_wetBy_6 lf_X7_78 rfl rfl mg ?_
    refine T_cgeN (tgt := 70) dX7_wetBy_9 (by decide) (by omega) (by omega) (fun h9 => by exfalso; omega) (fun h9 => ?_)
    refine T_ild3 dX7_wetBy_12 ?_
    refine T_ild1 dX7_wetBy_13 ?_
    refine T_isub dX7_wetBy_14 ?_
    refine T_ald0 dX7_wetBy_15 ?_
    refine T_getN dX7_wetBy_16 lf_X7_78 rfl rfl mg ?_
    refine T_iadd dX7_wetBy_19 ?_
    rw [sub_add_n (by omega)]
    refine T_ald0 dX7_wetBy_20 ?_
    refine T_getN dX7_wetBy_21 lf_X7_78 rfl rfl mg ?_
    refine T_iremN dX7_wetBy_24 (by omega) (by omega) (by omega) ?_
    rw [stp_mod hk hi]
    refine T_ist4 dX7_wetBy_25 (by decide) rfl ?_
    refine T_ild2 dX7_wetBy_27 ?_
    refine T_ild4 dX7_wetBy_28 ?_
    refine T_ald0 dX7_wetBy_30 ?_
    refine T_getR (q := 43) dX7_wetBy_31 lf_X7_25 rfl rfl rfl ?_
    refine T_ild1 dX7_wetBy_34 ?_
    refine T_ialdN dX7_wetBy_35 rfl (by show _ < 8; omega) (mgu _ (by omega)).2.2 ?_
    refine T_cleN (tgt := 55) dX7_wetBy_36 (by decide) (by omega) (by omega) (fun h36 => ?_) (fun h36 => ?_)
    · refine T_iconst (v := nI 1) dX7_wetBy_55 (by decide) ?_
      refine T_ild3 dX7_wetBy_56 ?_
      refine T_ishl dX7_wetBy_57 ?_
      refine T_goto (tgt := 62) dX7_wetBy_58 (by decide) ?_
      refine T_ior dX7_wetBy_62 ?_
      refine T_ist2 dX7_wetBy_63 (by decide) rfl ?_
      refine T_inc3N dX7_wetBy_64 (by decide) rfl ?_
      refine T_goto (tgt := 4) dX7_wetBy_67 (by decide) ?_
      first | (rw [wsI_t (f := wetF a k) (decide_eq_true ((wet_iff hk hi).mpr (by omega)))] at ih; exact ih _) | (rw [wsI_f (f := wetF a k) (decide_eq_false (fun q => by have := (wet_iff hk hi).mp q; omega))] at ih; rw [or_0]; exact ih _)
    · refine T_ald0 dX7_wetBy_39 ?_
      refine T_getN dX7_wetBy_40 lf_X7_78 rfl rfl mg ?_
      refine T_ild4 dX7_wetBy_43 ?_
      refine T_isubN dX7_wetBy_45 (by omega) ?_
      refine T_ald0 dX7_wetBy_46 ?_
      refine T_getR (q := 43) dX7_wetBy_47 lf_X7_25 rfl rfl rfl ?_
      refine T_ild1 dX7_wetBy_50 ?_
      refine T_ialdN dX7_wetBy_51 rfl (by show _ < 8; omega) (mgu _ (by omega)).2.2 ?_
      refine T_cgtN (tgt := 61) dX7_wetBy_52 (by decide) (by omega) (by omega) (fun h52 => ?_) (fun h52 => ?_)
      · refine T_iconst (v := nI 0) dX7_wetBy_61 (by decide) ?_
        refine T_ior dX7_wetBy_62 ?_
        refine T_ist2 dX7_wetBy_63 (by decide) rfl ?_
        refine T_inc3N dX7_wetBy_64 (by decide) rfl ?_
        refine T_goto (tgt := 4) dX7_wetBy_67 (by decide) ?_
        first | (rw [wsI_t (f := wetF a k) (decide_eq_true ((wet_iff hk hi).mpr (by omega)))] at ih; exact ih _) | (rw [wsI_f (f := wetF a k) (decide_eq_false (fun q => by have := (wet_iff hk hi).mp q; omega))] at ih; rw [or_0]; exact ih _)
      · refine T_iconst (v := nI 1) dX7_wetBy_55 (by decide) ?_
        refine T_ild3 dX7_wetBy_56 ?_
        refine T_ishl dX7_wetBy_57 ?_
        refine T_goto (tgt := 62) dX7_wetBy_58 (by decide) ?_
        refine T_ior dX7_wetBy_62 ?_
        refine T_ist2 dX7_wetBy_63 (by decide) rfl ?_
        refine T_inc3N dX7_wetBy_64 (by decide) rfl ?_
        refine T_goto (tgt := 4) dX7_wetBy_67 (by decide) ?_
        first | (rw [wsI_t (f := wetF a k) (decide_eq_true ((wet_iff hk hi).mpr (by omega)))] at ih; exact ih _) | (rw [wsI_f (f := wetF a k) (decide_eq_false (fun q => by have := (wet_iff hk hi).mp q; omega))] at ih; rw [or_0]; exact ih _)
theorem bsN_lt {w : Nat → Int32} {x : Int32} : ∀ {n j : Nat}, bsN w x n = some j → j < n
  | 0, _, h => by cases h
  | n + 1, j, h => by
    by_cases q : w n = x ∧ pcn n < few (bsN w x n)
    · rw [bsN_t q.1 q.2] at h; cases h; omega
    · rw [bsN_f q] at h; have := bsN_lt h; omega
set_option maxRecDepth 20000 in
theorem c_X7_spilt {S : Nat → Nat → Int32} {L : Nat → Nat → Int64} {R : Nat × Nat × Nat} {d : Nat} {a : Nat → Nat → Nat} (hM : MV S a) (hWF : WFA a) {x : Int32} : TT mX7_spilt (d + 2) 0 [some (.ref 37), some (.int (x)), none, none, none, none] [] (S, L, R) (rt (some (.int (aSpilt a x))) (S, L, R)) := by
  obtain ⟨mg, mdn, mso, msa, mpe, mrn, mgu, mdi, mre⟩ := id hM
  obtain ⟨b8, b6, b3, b64, br8⟩ := hWF.b
  refine T_ald0 dX7_spilt_0 ?_
  refine T_getN dX7_spilt_1 lf_X7_78 rfl rfl mg ?_
  refine T_ifneN (tgt := 10) dX7_spilt_4 (by decide) (by omega) (fun h4 => ?_) (fun h4 => ?_)
  · have h0 : 0 < a 0 0 := by omega
    have hW := hWF.g h0
    obtain ⟨w3, w8, wd1, wd6, wso, wb, wbs, wbp, wne, wrn, wgu, wdi, wre⟩ := id hW
    have hp1 := Nat.one_le_two_pow (n := a 0 0)
    refine T_ild1 dX7_spilt_10 ?_
    refine T_iconst (v := nI 0) dX7_spilt_11 (by decide) ?_
    refine T_iconst (v := nI 1) dX7_spilt_12 (by decide) ?_
    refine T_ald0 dX7_spilt_13 ?_
    refine T_getN dX7_spilt_14 lf_X7_78 rfl rfl mg ?_
    refine T_ishl dX7_spilt_17 ?_
    rw [shl_n _ (by omega)]
    refine T_iconst (v := nI 1) dX7_spilt_18 (by decide) ?_
    refine T_isubN dX7_spilt_19 (by omega) ?_
    refine T_invS3i (M' := mX7_within) dX7_spilt_20 ml_X7_74 imX7_within (Nat.le_of_ble_eq_true rfl) rfl (Nat.le_of_ble_eq_true rfl) (c_within0 (n := 2 ^ a 0 0) (by have := pow_le b8; omega) (by have := Nat.one_le_two_pow (n := a 0 0); omega)) ?_
    refine T_ifneB (tgt := 29) dX7_spilt_23 (by decide) (fun h23 => ?_) (fun h23 => ?_)
    · refine T_bipush (v := -9) dX7_spilt_29 (by decide) ?_
      refine T_ist2 dX7_spilt_31 (by decide) rfl ?_
      refine T_iconst (v := nI 0) dX7_spilt_32 (by decide) ?_
      refine T_ist3 dX7_spilt_33 (by decide) rfl ?_
      have hp := pow_le b8
      refine up_ind (P := fun i => ∀ x4 x5, TT mX7_spilt (d + 2) 34 [some (.ref 37), some (.int (x)), some (.int (oI (bsN (fun sp => wal (wetV a) sp (a 0 0)) x i))), some (.int (nI i)), x4, x5] [] (S, L, R) (rt (some (.int (aSpilt a x))) (S, L, R))) (2 ^ a 0 0) ?_ ?_ none none
      · intro x4 x5
        refine T_ild3 dX7_spilt_34 ?_
        refine T_iconst (v := nI 1) dX7_spilt_35 (by decide) ?_
        refine T_ald0 dX7_spilt_36 ?_
        refine T_getN dX7_spilt_37 lf_X7_78 rfl rfl mg ?_
        refine T_ishl dX7_spilt_40 ?_
        rw [shl_n _ (by omega)]
        refine T_cgeN (tgt := 125) dX7_spilt_41 (by decide) (by omega) (by omega) (fun h41 => ?_) (fun h41 => by exfalso; omega)
        refine T_ild2 dX7_spilt_125 ?_
        refine T_iret dX7_spilt_126 rfl ?_
        rw [show aSpilt a x = oI (bsN (fun sp => wal (wetV a) sp (a 0 0)) x (2 ^ a 0 0)) from (if_neg h4).trans (if_pos h23)]; exact rt_i
      · intro i hi ih x4 x5
        refine T_ild3 dX7_spilt_34 ?_
        refine T_iconst (v := nI 1) dX7_spilt_35 (by decide) ?_
        refine T_ald0 dX7_spilt_36 ?_
        refine T_getN dX7_spilt_37 lf_X7_78 rfl rfl mg ?_
        refine T_ishl dX7_spilt_40 ?_
        rw [shl_n _ (by omega)]
        refine T_cgeN (tgt := 125) dX7_spilt_41 (by decide) (by omega) (by omega) (fun h41 => by exfalso; omega) (fun h41 => ?_)
        refine T_iconst (v := nI 0) dX7_spilt_44 (by decide) ?_
        refine T_ist4 dX7_spilt_45 (by decide) rfl ?_
        refine T_iconst (v := nI 0) dX7_spilt_47 (by decide) ?_
        refine T_ist5 dX7_spilt_48 (by decide) rfl ?_
        skip
        refine up_ind (P := fun n => TT mX7_spilt (d + 2) 50 [some (.ref 37), some (.int (x)), some (.int (oI (bsN (fun sp => wal (wetV a) sp (a 0 0)) x i))), some (.int (nI i)), some (.int (wal (wetV a) i n)), some (.int (nI n))] [] (S, L, R) (rt (some (.int (aSpilt a x))) (S, L, R))) (a 0 0) ?_ ?_
        · refine T_ild5 dX7_spilt_50 ?_
          refine T_ald0 dX7_spilt_52 ?_
          refine T_getN dX7_spilt_53 lf_X7_78 rfl rfl mg ?_
          refine T_cgeN (tgt := 90) dX7_spilt_56 (by decide) (by omega) (by omega) (fun h56 => ?_) (fun h56 => by exfalso; omega)
          skip
          cases hB : bsN (fun sp => wal (wetV a) sp (a 0 0)) x i with
          | none =>
            show TT mX7_spilt (d + 2) 90 [some (.ref 37), some (.int (x)), some (.int (-9)), some (.int (nI i)), some (.int (wal (wetV a) i (a 0 0))), some (.int (nI (a 0 0)))] [] (S, L, R) (rt (some (.int (aSpilt a x))) (S, L, R))
            refine T_ild4 dX7_spilt_90 ?_
            refine T_ild1 dX7_spilt_92 ?_
            refine T_cne (tgt := 117) dX7_spilt_93 (by decide) (fun h93 => ?_) (fun h93 => ?_)
            · refine T_ild2 dX7_spilt_117 ?_
              refine T_ist2 dX7_spilt_118 (by decide) rfl ?_
              refine T_inc3N dX7_spilt_119 (by decide) rfl ?_
              refine T_goto (tgt := 34) dX7_spilt_122 (by decide) ?_
              first | (rw [show bsN (fun sp => wal (wetV a) sp (a 0 0)) x (i + 1) = some i from bsN_t (w := fun sp => wal (wetV a) sp (a 0 0)) h93 (by rw [hB]; first | exact h110 | exact Nat.lt_of_le_of_lt (pcn_le i) (by decide))] at ih; exact ih _ _) | (rw [show bsN (fun sp => wal (wetV a) sp (a 0 0)) x (i + 1) = _ from (bsN_f (w := fun sp => wal (wetV a) sp (a 0 0)) (fun q => by rw [hB] at q; first | exact h93 q.1 | exact absurd q.2 (Nat.not_lt.mpr h110))).trans hB] at ih; exact ih _ _)
            · refine T_ild2 dX7_spilt_96 ?_
              refine T_bipush (v := -9) dX7_spilt_97 (by decide) ?_
              refine T_ceq (tgt := 113) dX7_spilt_99 (by decide) (fun h99 => ?_) (fun h99 => by exact absurd rfl h99)
              refine T_ild3 dX7_spilt_113 ?_
              refine T_goto (tgt := 118) dX7_spilt_114 (by decide) ?_
              refine T_ist2 dX7_spilt_118 (by decide) rfl ?_
              refine T_inc3N dX7_spilt_119 (by decide) rfl ?_
              refine T_goto (tgt := 34) dX7_spilt_122 (by decide) ?_
              first | (rw [show bsN (fun sp => wal (wetV a) sp (a 0 0)) x (i + 1) = some i from bsN_t (w := fun sp => wal (wetV a) sp (a 0 0)) h93 (by rw [hB]; first | exact h110 | exact Nat.lt_of_le_of_lt (pcn_le i) (by decide))] at ih; exact ih _ _) | (rw [show bsN (fun sp => wal (wetV a) sp (a 0 0)) x (i + 1) = _ from (bsN_f (w := fun sp => wal (wetV a) sp (a 0 0)) (fun q => by rw [hB] at q; first | exact h93 q.1 | exact absurd q.2 (Nat.not_lt.mpr h110))).trans hB] at ih; exact ih _ _)
          | some j =>
            have hj := bsN_lt hB
            have pj := pcn_le j
            have pi := pcn_le i
            show TT mX7_spilt (d + 2) 90 [some (.ref 37), some (.int (x)), some (.int (nI j)), some (.int (nI i)), some (.int (wal (wetV a) i (a 0 0))), some (.int (nI (a 0 0)))] [] (S, L, R) (rt (some (.int (aSpilt a x))) (S, L, R))
            refine T_ild4 dX7_spilt_90 ?_
            refine T_ild1 dX7_spilt_92 ?_
            refine T_cne (tgt := 117) dX7_spilt_93 (by decide) (fun h93 => ?_) (fun h93 => ?_)
            · refine T_ild2 dX7_spilt_117 ?_
              refine T_ist2 dX7_spilt_118 (by decide) rfl ?_
              refine T_inc3N dX7_spilt_119 (by decide) rfl ?_
              refine T_goto (tgt := 34) dX7_spilt_122 (by decide) ?_
              first | (rw [show bsN (fun sp => wal (wetV a) sp (a 0 0)) x (i + 1) = some i from bsN_t (w := fun sp => wal (wetV a) sp (a 0 0)) h93 (by rw [hB]; first | exact h110 | exact Nat.lt_of_le_of_lt (pcn_le i) (by decide))] at ih; exact ih _ _) | (rw [show bsN (fun sp => wal (wetV a) sp (a 0 0)) x (i + 1) = _ from (bsN_f (w := fun sp => wal (wetV a) sp (a 0 0)) (fun q => by rw [hB] at q; first | exact h93 q.1 | exact absurd q.2 (Nat.not_lt.mpr h110))).trans hB] at ih; exact ih _ _)
            · refine T_ild2 dX7_spilt_96 ?_
              refine T_bipush (v := -9) dX7_spilt_97 (by decide) ?_
              refine T_ceq (tgt := 113) dX7_spilt_99 (by decide) (fun h99 => by exact absurd h99 (nI_m9 (by omega))) (fun h99 => ?_)
              refine T_ild3 dX7_spilt_102 ?_
              refine T_invS1i (M' := mX7_size) dX7_spilt_103 ml_X7_221 imX7_size (Nat.le_of_ble_eq_true rfl) rfl (Nat.le_of_ble_eq_true rfl) (c_X7_size (by omega)) ?_
              refine T_ild2 dX7_spilt_106 ?_
              refine T_invS1i (M' := mX7_size) dX7_spilt_107 ml_X7_221 imX7_size (Nat.le_of_ble_eq_true rfl) rfl (Nat.le_of_ble_eq_true rfl) (c_X7_size (by omega)) ?_
              refine T_cgeN (tgt := 117) dX7_spilt_110 (by decide) (by omega) (by omega) (fun h110 => ?_) (fun h110 => ?_)
              · refine T_ild2 dX7_spilt_117 ?_
                refine T_ist2 dX7_spilt_118 (by decide) rfl ?_
                refine T_inc3N dX7_spilt_119 (by decide) rfl ?_
                refine T_goto (tgt := 34) dX7_spilt_122 (by decide) ?_
                first | (rw [show bsN (fun sp => wal (wetV a) sp (a 0 0)) x (i + 1) = some i from bsN_t (w := fun sp => wal (wetV a) sp (a 0 0)) h93 (by rw [hB]; first | exact h110 | exact Nat.lt_of_le_of_lt (pcn_le i) (by decide))] at ih; exact ih _ _) | (rw [show bsN (fun sp => wal (wetV a) sp (a 0 0)) x (i + 1) = _ from (bsN_f (w := fun sp => wal (wetV a) sp (a 0 0)) (fun q => by rw [hB] at q; first | exact h93 q.1 | exact absurd q.2 (Nat.not_lt.mpr h110))).trans hB] at ih; exact ih _ _)
              · refine T_ild3 dX7_spilt_113 ?_
                refine T_goto (tgt := 118) dX7_spilt_114 (by decide) ?_
                refine T_ist2 dX7_spilt_118 (by decide) rfl ?_
                refine T_inc3N dX7_spilt_119 (by decide) rfl ?_
                refine T_goto (tgt := 34) dX7_spilt_122 (by decide) ?_
                first | (rw [show bsN (fun sp => wal (wetV a) sp (a 0 0)) x (i + 1) = some i from bsN_t (w := fun sp => wal (wetV a) sp (a 0 0)) h93 (by rw [hB]; first | exact h110 | exact Nat.lt_of_le_of_lt (pcn_le i) (by decide))] at ih; exact ih _ _) | (rw [show bsN (fun sp => wal (wetV a) sp (a 0 0)) x (i + 1) = _ from (bsN_f (w := fun sp => wal (wetV a) sp (a 0 0)) (fun q => by rw [hB] at q; first | exact h93 q.1 | exact absurd q.2 (Nat.not_lt.mpr h110))).trans hB] at ih; exact ih _ _)
        · intro n hn ihn
          refine T_ild5 dX7_spilt_50 ?_
          refine T_ald0 dX7_spilt_52 ?_
          refine T_getN dX7_spilt_53 lf_X7_78 rfl rfl mg ?_
          refine T_cgeN (tgt := 90) dX7_spilt_56 (by decide) (by omega) (by omega) (fun h56 => by exfalso; omega) (fun h56 => ?_)
          refine T_ild4 dX7_spilt_59 ?_
          refine T_ild3 dX7_spilt_61 ?_
          refine T_ild5 dX7_spilt_62 ?_
          refine T_ishr dX7_spilt_64 ?_
          refine T_iconst (v := nI 1) dX7_spilt_65 (by decide) ?_
          refine T_iand dX7_spilt_66 ?_
          refine T_iconst (v := nI 1) dX7_spilt_67 (by decide) ?_
          refine T_cne (tgt := 80) dX7_spilt_68 (by decide) (fun h68 => ?_) (fun h68 => ?_)
          · refine T_iconst (v := nI 0) dX7_spilt_80 (by decide) ?_
            refine T_ior dX7_spilt_81 ?_
            refine T_ist4 dX7_spilt_82 (by decide) rfl ?_
            refine T_inc5N dX7_spilt_84 (by decide) rfl ?_
            refine T_goto (tgt := 50) dX7_spilt_87 (by decide) ?_
            first | (rw [wal_t h68] at ihn; exact ihn) | (rw [wal_f h68] at ihn; rw [or_0]; exact ihn)
          · refine T_ald0 dX7_spilt_71 ?_
            refine T_ild5 dX7_spilt_72 ?_
            refine T_invV1i (M' := mX7_wetBy) dX7_spilt_74 ml_X7_218 imX7_wetBy rfl (Nat.le_of_ble_eq_true rfl) rfl (Nat.le_of_ble_eq_true rfl) rfl (Nat.le_of_ble_eq_true rfl) (c_X7_wetBy hM hW hn) ?_
            refine T_goto (tgt := 81) dX7_spilt_77 (by decide) ?_
            refine T_ior dX7_spilt_81 ?_
            refine T_ist4 dX7_spilt_82 (by decide) rfl ?_
            refine T_inc5N dX7_spilt_84 (by decide) rfl ?_
            refine T_goto (tgt := 50) dX7_spilt_87 (by decide) ?_
            first | (rw [wal_t h68] at ihn; exact ihn) | (rw [wal_f h68] at ihn; rw [or_0]; exact ihn)
    · refine T_bipush (v := -2) dX7_spilt_26 (by decide) ?_
      refine T_iret dX7_spilt_28 rfl ?_
      rw [show aSpilt a x = -2 from (if_neg h4).trans (if_neg (by simp [h23]))]; exact rt_i
  · refine T_bipush (v := -3) dX7_spilt_7 (by decide) ?_
    refine T_iret dX7_spilt_9 rfl ?_
    rw [show aSpilt a x = -3 from if_pos h4]; exact rt_i
