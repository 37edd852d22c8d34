/-! the reference reads a text -/
def RM (S : Nat → Nat → Int32) (F n t : Nat) (co : Nat → Int32) : Prop := S 37 15 = nI (F + t) ∧ ∀ k, k < n → S 40 (F + k) = co k
theorem RM.adv {S : Nat → Nat → Int32} {F n t : Nat} {co : Nat → Int32} (h : RM S F n t co) (t' : Nat) : RM (uI S 37 15 (nI (F + t'))) F n t' co :=
  ⟨uI_s, fun k hk => (congrFun (uI_p (by decide)) _).trans (h.2 k hk)⟩
theorem RM.off {S : Nat → Nat → Int32} {F n t q i : Nat} {x : Int32} {co : Nat → Int32} (h : RM S F n t co) (h1 : q ≠ 40) (h2 : q ≠ 37) : RM (uI S q i x) F n t co :=
  ⟨(congrFun (uI_p (fun e => h2 e.symm)) _).trans h.1, fun k hk => (congrFun (uI_p (fun e => h1 e.symm)) _).trans (h.2 k hk)⟩
theorem RM.fld {S : Nat → Nat → Int32} {F n t i : Nat} {x : Int32} {co : Nat → Int32} (h : RM S F n t co) (h1 : i ≠ 15) : RM (uI S 37 i x) F n t co :=
  ⟨(uI_k (fun e => h1 e.symm)).trans h.1, fun k hk => (congrFun (uI_p (by decide)) _).trans (h.2 k hk)⟩
theorem RM.of {S S' : Nat → Nat → Int32} {F n t t' : Nat} {co : Nat → Int32} {l : List (Nat × Nat)} (h : RM S F n t co) (o : OF l S S') (h4 : ∀ k, (40, k) ∉ l) (h3 : S' 37 15 = nI (F + t')) : RM S' F n t' co :=
  ⟨h3, fun k hk => (o 40 (F + k) (h4 _)).trans (h.2 k hk)⟩
theorem wth_dg {x : Int32} {m1 m : Nat} (hm : m ≤ 10) (e : m = m1 + 1) : wth x (nI 48) (nI (48 + m1)) = blw (x - nI 48) m := by
  cases hb : blw (x - nI 48) m with
  | true =>
    obtain ⟨v, hv, e2⟩ := blw_t hb
    have ex : x = nI (48 + v) := by
      have h1 : x - nI 48 + nI 48 = nI v + nI 48 := by rw [e2]
      rw [Int32.sub_add_cancel, nI_add, Nat.add_comm v 48] at h1
      exact h1
    rw [ex]
    exact decide_eq_true ⟨(nI_leI (by decide) (by omega)).mpr (by omega), (nI_leI (by omega) (by omega)).mpr (by omega)⟩
  | false =>
    refine decide_eq_false (fun q => ?_)
    have hn : ¬ x < 0 := fun hx => by
      have q1 := Int32.le_iff_toInt_le.mp q.1
      have q2 := Int32.lt_iff_toInt_lt.mp hx
      have e0 : (nI 48).toInt = 48 := rfl
      have e1 : (0 : Int32).toInt = 0 := rfl
      omega
    obtain ⟨k, hk, rfl⟩ := nI_of hn
    have q1 := (nI_leI (by decide) hk).mp q.1
    have q2 := (nI_leI hk (by omega)).mp q.2
    rw [pk_sub q1, blw_n (by omega)] at hb
    cases hb
set_option maxRecDepth 20000 in
theorem c_within_dg {S : Nat → Nat → Int32} {L : Nat → Nat → Int64} {R : Nat × Nat × Nat} {d : Nat} {x : Int32} {m1 m : Nat} (hm : m ≤ 10) (e : m = m1 + 1) : TT mX7_within (d + 0) 0 [some (.int x), some (.int (nI 48)), some (.int (nI (48 + m1)))] [] (S, L, R) (rt (some (.int (bI (blw (x - nI 48) m)))) (S, L, R)) := by
  have q := c_X7_within (S := S) (L := L) (R := R) (d := d) (x := x) (l := nI 48) (h := nI (48 + m1))
  rw [wth_dg hm e] at q; exact q
set_option maxRecDepth 20000 in
theorem c_X7_digit_s {S : Nat → Nat → Int32} {L : Nat → Nat → Int64} {R : Nat × Nat × Nat} {d : Nat} {F n t : Nat} {co : Nat → Int32} (hF : F + n ≤ 240) (htn : t ≤ n) (hR : RM S F n t co) {m m1 : Nat} (hm : m ≤ 10) (em : m = m1 + 1) {v : Nat} (hd : dgt n co t m = some v) : TT mX7_digit (d + 1) 0 [some (.ref 37), some (.int (nI (F + n))), some (.int (nI m1))] [] (S, L, R) (rt (some (.int (nI v))) (uI S 37 15 (nI (F + t + 1)), L, R)) := by
  have hv := dgt_some hm hd
  refine T_ald0 dX7_digit_0 ?_
  refine T_getN dX7_digit_1 lf_X7_84 rfl rfl hR.1 ?_
  refine T_ild1 dX7_digit_4 ?_
  refine T_cgeN (tgt := 29) dX7_digit_5 (by decide) (by omega) (by omega) (fun h5 => by exfalso; omega) (fun h5 => ?_)
  refine T_ald0 dX7_digit_8 ?_
  refine T_getR (q := 40) dX7_digit_9 lf_X7_16 rfl rfl rfl ?_
  refine T_ald0 dX7_digit_12 ?_
  refine T_getN dX7_digit_13 lf_X7_84 rfl rfl hR.1 ?_
  refine T_ialdV dX7_digit_16 rfl (by show _ < 240; omega) (hR.2 _ (by omega)) ?_
  refine T_bipush (v := nI 48) dX7_digit_17 (by decide) ?_
  refine T_bipush (v := nI 48) dX7_digit_19 (by decide) ?_
  refine T_ild2 dX7_digit_21 ?_
  refine T_iaddN dX7_digit_22 ?_
  refine T_invS3i (M' := mX7_within) dX7_digit_23 ml_X7_74 imX7_within (Nat.le_of_ble_eq_true rfl) rfl (Nat.le_of_ble_eq_true rfl) (c_within_dg hm em) ?_
  refine T_ifneB (tgt := 32) dX7_digit_26 (by decide) (fun h26 => ?_) (fun h26 => by exact absurd h26 (by rw [hv.2.2, blw_n hv.2.1]; decide))
  refine T_ald0 dX7_digit_32 ?_
  refine T_dup dX7_digit_33 rfl ?_
  refine T_getN dX7_digit_34 lf_X7_84 rfl rfl hR.1 ?_
  refine T_iconst (v := nI 1) dX7_digit_37 (by decide) ?_
  refine T_iaddN dX7_digit_38 ?_
  refine T_putI dX7_digit_39 lf_X7_84 rfl rfl rfl rfl ?_
  refine T_ald0 dX7_digit_42 ?_
  refine T_getR (q := 40) dX7_digit_43 lf_X7_16 rfl rfl rfl ?_
  refine T_ald0 dX7_digit_46 ?_
  refine T_getN dX7_digit_47 lf_X7_84 rfl rfl uI_s ?_
  refine T_iconst (v := nI 1) dX7_digit_50 (by decide) ?_
  refine T_isubN dX7_digit_51 (by omega) ?_
  refine T_ialdV dX7_digit_52 rfl (by show _ < 240; omega) ((congrArg (uI S 37 15 (nI (F + t + 1)) 40) (show F + t + 1 - 1 = F + t by omega)).trans ((congrFun (uI_p (by decide)) _).trans (hR.2 _ (by omega)))) ?_
  refine T_bipush (v := nI 48) dX7_digit_53 (by decide) ?_
  refine T_isub dX7_digit_55 ?_
  rw [hv.2.2]
  refine T_iret dX7_digit_56 rfl ?_
  exact rt_i
set_option maxRecDepth 20000 in
theorem c_X7_digit_n {S : Nat → Nat → Int32} {L : Nat → Nat → Int64} {R : Nat × Nat × Nat} {d : Nat} {F n t : Nat} {co : Nat → Int32} (hF : F + n ≤ 240) (htn : t ≤ n) (hR : RM S F n t co) {m m1 : Nat} (hm : m ≤ 10) (em : m = m1 + 1) (hd : dgt n co t m = none) : TT mX7_digit (d + 1) 0 [some (.ref 37), some (.int (nI (F + n))), some (.int (nI m1))] [] (S, L, R) (rt (some (.int (-9))) (S, L, R)) := by
  refine T_ald0 dX7_digit_0 ?_
  refine T_getN dX7_digit_1 lf_X7_84 rfl rfl hR.1 ?_
  refine T_ild1 dX7_digit_4 ?_
  refine T_cgeN (tgt := 29) dX7_digit_5 (by decide) (by omega) (by omega) (fun h5 => ?_) (fun h5 => ?_)
  · refine T_bipush (v := -9) dX7_digit_29 (by decide) ?_
    refine T_iret dX7_digit_31 rfl ?_
    exact rt_i
  · refine T_ald0 dX7_digit_8 ?_
    refine T_getR (q := 40) dX7_digit_9 lf_X7_16 rfl rfl rfl ?_
    refine T_ald0 dX7_digit_12 ?_
    refine T_getN dX7_digit_13 lf_X7_84 rfl rfl hR.1 ?_
    refine T_ialdV dX7_digit_16 rfl (by show _ < 240; omega) (hR.2 _ (by omega)) ?_
    refine T_bipush (v := nI 48) dX7_digit_17 (by decide) ?_
    refine T_bipush (v := nI 48) dX7_digit_19 (by decide) ?_
    refine T_ild2 dX7_digit_21 ?_
    refine T_iaddN dX7_digit_22 ?_
    refine T_invS3i (M' := mX7_within) dX7_digit_23 ml_X7_74 imX7_within (Nat.le_of_ble_eq_true rfl) rfl (Nat.le_of_ble_eq_true rfl) (c_within_dg hm em) ?_
    refine T_ifneB (tgt := 32) dX7_digit_26 (by decide) (fun h26 => by rw [dgt_none hd (by omega)] at h26; cases h26) (fun h26 => ?_)
    refine T_bipush (v := -9) dX7_digit_29 (by decide) ?_
    refine T_iret dX7_digit_31 rfl ?_
    exact rt_i
set_option maxRecDepth 20000 in
theorem c_X7_isSign_t {S : Nat → Nat → Int32} {L : Nat → Nat → Int64} {R : Nat × Nat × Nat} {d : Nat} {F n t : Nat} {co : Nat → Int32} (hF : F + n ≤ 240) (htn : t ≤ n) (hR : RM S F n t co) {x : Int32} (hsg : sg n co t x = true) : TT mX7_isSign (d + 0) 0 [some (.ref 37), some (.int (nI (F + n))), some (.int (x))] [] (S, L, R) (rt (some (.int (bI true))) (uI S 37 15 (nI (F + t + 1)), L, R)) := by
  have hs := of_decide_eq_true hsg
  refine T_ald0 dX7_isSign_0 ?_
  refine T_getN dX7_isSign_1 lf_X7_84 rfl rfl hR.1 ?_
  refine T_ild1 dX7_isSign_4 ?_
  refine T_cgeN (tgt := 21) dX7_isSign_5 (by decide) (by omega) (by omega) (fun h5 => by exfalso; omega) (fun h5 => ?_)
  refine T_ald0 dX7_isSign_8 ?_
  refine T_getR (q := 40) dX7_isSign_9 lf_X7_16 rfl rfl rfl ?_
  refine T_ald0 dX7_isSign_12 ?_
  refine T_getN dX7_isSign_13 lf_X7_84 rfl rfl hR.1 ?_
  refine T_ialdV dX7_isSign_16 rfl (by show _ < 240; omega) (hR.2 _ (by omega)) ?_
  refine T_ild2 dX7_isSign_17 ?_
  refine T_ceq (tgt := 23) dX7_isSign_18 (by decide) (fun h18 => ?_) (fun h18 => by exact absurd hs.2 h18)
  refine T_ald0 dX7_isSign_23 ?_
  refine T_dup dX7_isSign_24 rfl ?_
  refine T_getN dX7_isSign_25 lf_X7_84 rfl rfl hR.1 ?_
  refine T_iconst (v := nI 1) dX7_isSign_28 (by decide) ?_
  refine T_iaddN dX7_isSign_29 ?_
  refine T_putI dX7_isSign_30 lf_X7_84 rfl rfl rfl rfl ?_
  refine T_iconst (v := bI true) dX7_isSign_33 (by decide) ?_
  refine T_bretB dX7_isSign_34 rfl ?_
  exact rt_i
set_option maxRecDepth 20000 in
theorem c_X7_isSign_f {S : Nat → Nat → Int32} {L : Nat → Nat → Int64} {R : Nat × Nat × Nat} {d : Nat} {F n t : Nat} {co : Nat → Int32} (hF : F + n ≤ 240) (htn : t ≤ n) (hR : RM S F n t co) {x : Int32} (hsg : sg n co t x = false) : TT mX7_isSign (d + 0) 0 [some (.ref 37), some (.int (nI (F + n))), some (.int (x))] [] (S, L, R) (rt (some (.int (bI false))) (S, L, R)) := by
  have hs := of_decide_eq_false hsg
  refine T_ald0 dX7_isSign_0 ?_
  refine T_getN dX7_isSign_1 lf_X7_84 rfl rfl hR.1 ?_
  refine T_ild1 dX7_isSign_4 ?_
  refine T_cgeN (tgt := 21) dX7_isSign_5 (by decide) (by omega) (by omega) (fun h5 => ?_) (fun h5 => ?_)
  · refine T_iconst (v := bI false) dX7_isSign_21 (by decide) ?_
    refine T_bretB dX7_isSign_22 rfl ?_
    exact rt_i
  · refine T_ald0 dX7_isSign_8 ?_
    refine T_getR (q := 40) dX7_isSign_9 lf_X7_16 rfl rfl rfl ?_
    refine T_ald0 dX7_isSign_12 ?_
    refine T_getN dX7_isSign_13 lf_X7_84 rfl rfl hR.1 ?_
    refine T_ialdV dX7_isSign_16 rfl (by show _ < 240; omega) (hR.2 _ (by omega)) ?_
    refine T_ild2 dX7_isSign_17 ?_
    refine T_ceq (tgt := 23) dX7_isSign_18 (by decide) (fun h18 => by exact absurd ⟨by omega, h18⟩ hs) (fun h18 => ?_)
    refine T_iconst (v := bI false) dX7_isSign_21 (by decide) ?_
    refine T_bretB dX7_isSign_22 rfl ?_
    exact rt_i
theorem sg_f {n t : Nat} {co : Nat → Int32} {x : Int32} (h : sg n co t x = false) (ht : t < n) : ¬ co t = x := fun e => by
  have := of_decide_eq_false h
  exact this ⟨ht, e⟩
theorem skd_c {n t : Nat} {co : Nat → Int32} (ht : t < n) : skd n co t = if co t = nI 103 then some 0 else if co t = nI 97 then some 1 else if co t = nI 99 then some 2 else none := by
  have e : ∀ x, sg n co t x = decide (co t = x) := fun x => by
    unfold sg
    by_cases h : co t = x
    · rw [decide_eq_true h]; exact decide_eq_true ⟨ht, h⟩
    · rw [decide_eq_false h]; exact decide_eq_false (fun q => h q.2)
  unfold skd
  rw [e, e, e]
  by_cases h1 : co t = nI 103
  · simp [h1]
  · by_cases h2 : co t = nI 97
    · simp [h1, h2]
    · by_cases h3 : co t = nI 99
      · simp [h1, h2, h3]
      · simp [h1, h2, h3]
theorem skd_ge {n t : Nat} {co : Nat → Int32} (ht : n ≤ t) : skd n co t = none := by
  have e : ∀ x, sg n co t x = false := fun x => decide_eq_false (fun q => by have := q.1; omega)
  unfold skd
  rw [e, e, e]; rfl
theorem RM.adv1 {S : Nat → Nat → Int32} {F n t : Nat} {co : Nat → Int32} (h : RM S F n t co) : RM (uI S 37 15 (nI (F + t + 1))) F n (t + 1) co :=
  ⟨uI_s.trans (congrArg nI (Nat.add_assoc F t 1)), fun k hk => (congrFun (uI_p (by decide)) _).trans (h.2 k hk)⟩
set_option maxRecDepth 20000 in
theorem c_X7_readGuest {S : Nat → Nat → Int32} {L : Nat → Nat → Int64} {R : Nat × Nat × Nat} {d : Nat} {F n t : Nat} {co : Nat → Int32} (hF : F + n ≤ 240) (hR : RM S F n (t + 1) co) {i : Nat} (hi : i < 8) (hi1 : S 37 17 = nI i) (hs : sg n co t (nI 44) = true) : TT mX7_readGuest (d + 2) 0 [some (.ref 37), some (.int (nI (F + n))), none] [] (S, L, R) (fun r σ' => ∃ S', σ' = (S', L, R) ∧ OF [(37, 15), (37, 17), (46, i), (47, i), (48, i)] S S' ∧ r = some (.int (bI (decide (pGf n co t = 4)))) ∧ S' 37 15 = nI (F + (t + pGf n co t)) ∧ (pGf n co t = 4 → S' 37 17 = nI (i + 1) ∧ S' 46 i = nI (kv n co (t + 1)) ∧ S' 47 i = nI (dv n co (t + 2) 10) ∧ S' 48 i = nI (dv n co (t + 3) 4))) := by
  have ht0 := sg_lt hs
  have bad : ∀ x2, skd n co (t + 1) = none → TT mX7_readGuest (d + 2) 63 [some (.ref 37), some (.int (nI (F + n))), x2] [] (uI S 46 i (-9), L, R) (fun r σ' => ∃ S', σ' = (S', L, R) ∧ OF [(37, 15), (37, 17), (46, i), (47, i), (48, i)] S S' ∧ r = some (.int (bI (decide (pGf n co t = 4)))) ∧ S' 37 15 = nI (F + (t + pGf n co t)) ∧ (pGf n co t = 4 → S' 37 17 = nI (i + 1) ∧ S' 46 i = nI (kv n co (t + 1)) ∧ S' 47 i = nI (dv n co (t + 2) 10) ∧ S' 48 i = nI (dv n co (t + 3) 4))) := by
    intro x2 hk
    have hp : pGf n co t = 1 := (if_neg (by rw [hs]; decide)).trans (if_pos hk)
    refine T_ald0 dX7_readGuest_63 ?_
    refine T_getR (q := 46) dX7_readGuest_64 lf_X7_34 rfl rfl rfl ?_
    refine T_ald0 dX7_readGuest_67 ?_
    refine T_getN dX7_readGuest_68 lf_X7_114 rfl rfl ((congrFun (uI_p (by decide)) _).trans hi1) ?_
    refine T_ialdV dX7_readGuest_71 rfl (by show _ < 8; omega) uI_s ?_
    refine T_bipush (v := -9) dX7_readGuest_72 (by decide) ?_
    refine T_cne (tgt := 79) dX7_readGuest_74 (by decide) (fun h74 => by exact absurd rfl h74) (fun h74 => ?_)
    refine T_iconst (v := bI false) dX7_readGuest_77 (by decide) ?_
    refine T_bretB dX7_readGuest_78 rfl ?_
    exact ⟨_, rfl, (by repeat (first | exact OF_r | refine OF_u ?_ (by simp))), (by rw [hp]; rfl), (by rw [hp]; exact ((congrFun (uI_p (by decide)) _).trans hR.1)), fun q => (by rw [hp] at q; cases q)⟩
  have key : ∀ v1 x2, skd n co (t + 1) = some v1 → TT mX7_readGuest (d + 2) 63 [some (.ref 37), some (.int (nI (F + n))), x2] [] (uI S 46 i (nI v1), L, R) (fun r σ' => ∃ S', σ' = (S', L, R) ∧ OF [(37, 15), (37, 17), (46, i), (47, i), (48, i)] S S' ∧ r = some (.int (bI (decide (pGf n co t = 4)))) ∧ S' 37 15 = nI (F + (t + pGf n co t)) ∧ (pGf n co t = 4 → S' 37 17 = nI (i + 1) ∧ S' 46 i = nI (kv n co (t + 1)) ∧ S' 47 i = nI (dv n co (t + 2) 10) ∧ S' 48 i = nI (dv n co (t + 3) 4))) := by
    intro v1 x2 hk
    have ht2 := skd_lt hk
    have hkn : ¬ skd n co (t + 1) = none := by rw [hk]; exact fun h => nomatch h
    cases hd2 : dgt n co (t + 2) 10 with
    | none =>
      have hp : pGf n co t = 2 := (if_neg (by rw [hs]; decide)).trans ((if_neg hkn).trans (if_pos hd2))
      refine T_ald0 dX7_readGuest_63 ?_
      refine T_getR (q := 46) dX7_readGuest_64 lf_X7_34 rfl rfl rfl ?_
      refine T_ald0 dX7_readGuest_67 ?_
      refine T_getN dX7_readGuest_68 lf_X7_114 rfl rfl ((congrFun (uI_p (by decide)) _).trans hi1) ?_
      refine T_ialdN dX7_readGuest_71 rfl (by show _ < 8; omega) uI_s ?_
      refine T_bipush (v := -9) dX7_readGuest_72 (by decide) ?_
      refine T_cne (tgt := 79) dX7_readGuest_74 (by decide) (fun h74 => ?_) (fun h74 => by exact absurd h74 (nI_m9 (by omega)))
      refine T_ald0 dX7_readGuest_79 ?_
      refine T_dup dX7_readGuest_80 rfl ?_
      refine T_getN dX7_readGuest_81 lf_X7_84 rfl rfl ((congrFun (uI_p (by decide)) _).trans hR.1) ?_
      refine T_iconst (v := nI 1) dX7_readGuest_84 (by decide) ?_
      refine T_iaddN dX7_readGuest_85 ?_
      refine T_putI dX7_readGuest_86 lf_X7_84 rfl rfl rfl rfl ?_
      refine T_ald0 dX7_readGuest_89 ?_
      refine T_getR (q := 47) dX7_readGuest_90 lf_X7_37 rfl rfl rfl ?_
      refine T_ald0 dX7_readGuest_93 ?_
      refine T_getN dX7_readGuest_94 lf_X7_114 rfl rfl ((uI_k (by decide)).trans ((congrFun (uI_p (by decide)) _).trans hi1)) ?_
      refine T_ald0 dX7_readGuest_97 ?_
      refine T_ild1 dX7_readGuest_98 ?_
      refine T_bipush (v := nI 9) dX7_readGuest_99 (by decide) ?_
      refine T_invV2i (M' := mX7_digit) dX7_readGuest_101 ml_X7_139 imX7_digit rfl (Nat.le_of_ble_eq_true rfl) rfl (Nat.le_of_ble_eq_true rfl) rfl (Nat.le_of_ble_eq_true rfl) (c_X7_digit_n hF (by omega) ((hR.off (by decide) (by decide)).adv1) (by decide) (show 10 = 9 + 1 from rfl) hd2) ?_
      refine T_iast dX7_readGuest_104 rfl (by show _ < 8; omega) rfl ?_
      refine T_ald0 dX7_readGuest_105 ?_
      refine T_getR (q := 47) dX7_readGuest_106 lf_X7_37 rfl rfl rfl ?_
      refine T_ald0 dX7_readGuest_109 ?_
      refine T_getN dX7_readGuest_110 lf_X7_114 rfl rfl ((congrFun (uI_p (by decide)) _).trans ((uI_k (by decide)).trans ((congrFun (uI_p (by decide)) _).trans hi1))) ?_
      refine T_ialdV dX7_readGuest_113 rfl (by show _ < 8; omega) uI_s ?_
      refine T_bipush (v := -9) dX7_readGuest_114 (by decide) ?_
      refine T_cne (tgt := 121) dX7_readGuest_116 (by decide) (fun h116 => by exact absurd rfl h116) (fun h116 => ?_)
      refine T_iconst (v := bI false) dX7_readGuest_119 (by decide) ?_
      refine T_bretB dX7_readGuest_120 rfl ?_
      exact ⟨_, rfl, (by repeat (first | exact OF_r | refine OF_u ?_ (by simp))), (by rw [hp]; rfl), (by rw [hp]; exact Eq.trans (b := nI (F + (t + 1) + 1)) (by simp [uI]) (congrArg nI (by omega))), fun q => (by rw [hp] at q; cases q)⟩
    | some v2 =>
      have ht3 := dgt_some (by decide) hd2
      have hdn2 : ¬ dgt n co (t + 2) 10 = none := by rw [hd2]; exact fun h => nomatch h
      cases hd3 : dgt n co (t + 3) 4 with
      | none =>
        have hp : pGf n co t = 3 := (if_neg (by rw [hs]; decide)).trans ((if_neg hkn).trans ((if_neg hdn2).trans (if_pos hd3)))
        refine T_ald0 dX7_readGuest_63 ?_
        refine T_getR (q := 46) dX7_readGuest_64 lf_X7_34 rfl rfl rfl ?_
        refine T_ald0 dX7_readGuest_67 ?_
        refine T_getN dX7_readGuest_68 lf_X7_114 rfl rfl ((congrFun (uI_p (by decide)) _).trans hi1) ?_
        refine T_ialdN dX7_readGuest_71 rfl (by show _ < 8; omega) uI_s ?_
        refine T_bipush (v := -9) dX7_readGuest_72 (by decide) ?_
        refine T_cne (tgt := 79) dX7_readGuest_74 (by decide) (fun h74 => ?_) (fun h74 => by exact absurd h74 (nI_m9 (by omega)))
        refine T_ald0 dX7_readGuest_79 ?_
        refine T_dup dX7_readGuest_80 rfl ?_
        refine T_getN dX7_readGuest_81 lf_X7_84 rfl rfl ((congrFun (uI_p (by decide)) _).trans hR.1) ?_
        refine T_iconst (v := nI 1) dX7_readGuest_84 (by decide) ?_
        refine T_iaddN dX7_readGuest_85 ?_
        refine T_putI dX7_readGuest_86 lf_X7_84 rfl rfl rfl rfl ?_
        refine T_ald0 dX7_readGuest_89 ?_
        refine T_getR (q := 47) dX7_readGuest_90 lf_X7_37 rfl rfl rfl ?_
        refine T_ald0 dX7_readGuest_93 ?_
        refine T_getN dX7_readGuest_94 lf_X7_114 rfl rfl ((uI_k (by decide)).trans ((congrFun (uI_p (by decide)) _).trans hi1)) ?_
        refine T_ald0 dX7_readGuest_97 ?_
        refine T_ild1 dX7_readGuest_98 ?_
        refine T_bipush (v := nI 9) dX7_readGuest_99 (by decide) ?_
        refine T_invV2i (M' := mX7_digit) dX7_readGuest_101 ml_X7_139 imX7_digit rfl (Nat.le_of_ble_eq_true rfl) rfl (Nat.le_of_ble_eq_true rfl) rfl (Nat.le_of_ble_eq_true rfl) (c_X7_digit_s hF (by omega) ((hR.off (by decide) (by decide)).adv1) (by decide) (show 10 = 9 + 1 from rfl) hd2) ?_
        refine T_iast dX7_readGuest_104 rfl (by show _ < 8; omega) rfl ?_
        refine T_ald0 dX7_readGuest_105 ?_
        refine T_getR (q := 47) dX7_readGuest_106 lf_X7_37 rfl rfl rfl ?_
        refine T_ald0 dX7_readGuest_109 ?_
        refine T_getN dX7_readGuest_110 lf_X7_114 rfl rfl ((congrFun (uI_p (by decide)) _).trans ((uI_k (by decide)).trans ((uI_k (by decide)).trans ((congrFun (uI_p (by decide)) _).trans hi1)))) ?_
        refine T_ialdN dX7_readGuest_113 rfl (by show _ < 8; omega) uI_s ?_
        refine T_bipush (v := -9) dX7_readGuest_114 (by decide) ?_
        refine T_cne (tgt := 121) dX7_readGuest_116 (by decide) (fun h116 => ?_) (fun h116 => by exact absurd h116 (nI_m9 (by omega)))
        refine T_ald0 dX7_readGuest_121 ?_
        refine T_getR (q := 48) dX7_readGuest_122 lf_X7_40 rfl rfl rfl ?_
        refine T_ald0 dX7_readGuest_125 ?_
        refine T_getN dX7_readGuest_126 lf_X7_114 rfl rfl ((congrFun (uI_p (by decide)) _).trans ((uI_k (by decide)).trans ((uI_k (by decide)).trans ((congrFun (uI_p (by decide)) _).trans hi1)))) ?_
        refine T_ald0 dX7_readGuest_129 ?_
        refine T_ild1 dX7_readGuest_130 ?_
        refine T_iconst (v := nI 3) dX7_readGuest_131 (by decide) ?_
        refine T_invV2i (M' := mX7_digit) dX7_readGuest_132 ml_X7_139 imX7_digit rfl (Nat.le_of_ble_eq_true rfl) rfl (Nat.le_of_ble_eq_true rfl) rfl (Nat.le_of_ble_eq_true rfl) (c_X7_digit_n hF (by omega) ((((hR.off (by decide) (by decide)).adv1).adv1).off (by decide) (by decide)) (by decide) (show 4 = 3 + 1 from rfl) hd3) ?_
        refine T_iast dX7_readGuest_135 rfl (by show _ < 8; omega) rfl ?_
        refine T_ald0 dX7_readGuest_136 ?_
        refine T_dup dX7_readGuest_137 rfl ?_
        refine T_getN dX7_readGuest_138 lf_X7_114 rfl rfl ((congrFun (uI_p (by decide)) _).trans ((congrFun (uI_p (by decide)) _).trans ((uI_k (by decide)).trans ((uI_k (by decide)).trans ((congrFun (uI_p (by decide)) _).trans hi1))))) ?_
        refine T_iconst (v := nI 1) dX7_readGuest_141 (by decide) ?_
        refine T_iaddN dX7_readGuest_142 ?_
        refine T_putI dX7_readGuest_143 lf_X7_114 rfl rfl rfl rfl ?_
        refine T_ald0 dX7_readGuest_146 ?_
        refine T_getR (q := 48) dX7_readGuest_147 lf_X7_40 rfl rfl rfl ?_
        refine T_ald0 dX7_readGuest_150 ?_
        refine T_getN dX7_readGuest_151 lf_X7_114 rfl rfl uI_s ?_
        refine T_iconst (v := nI 1) dX7_readGuest_154 (by decide) ?_
        refine T_isubN dX7_readGuest_155 (by omega) ?_
        refine T_ialdV dX7_readGuest_156 rfl (by show _ < 8; omega) ((congrFun (uI_p (by decide)) _).trans uI_s) ?_
        refine T_bipush (v := -9) dX7_readGuest_157 (by decide) ?_
        refine T_ceq (tgt := 166) dX7_readGuest_159 (by decide) (fun h159 => ?_) (fun h159 => by exact absurd rfl h159)
        refine T_iconst (v := bI false) dX7_readGuest_166 (by decide) ?_
        refine T_bretB dX7_readGuest_167 rfl ?_
        exact ⟨_, rfl, (by repeat (first | exact OF_r | refine OF_u ?_ (by simp))), (by rw [hp]; rfl), (by rw [hp]; exact Eq.trans (b := nI (F + (t + 1 + 1) + 1)) (by simp [uI]) (congrArg nI (by omega))), fun q => (by rw [hp] at q; cases q)⟩
      | some v3 =>
        have ht4 := dgt_some (by decide) hd3
        have hp : pGf n co t = 4 := (if_neg (by rw [hs]; decide)).trans ((if_neg hkn).trans ((if_neg hdn2).trans (if_neg (by rw [hd3]; exact fun h => nomatch h))))
        refine T_ald0 dX7_readGuest_63 ?_
        refine T_getR (q := 46) dX7_readGuest_64 lf_X7_34 rfl rfl rfl ?_
        refine T_ald0 dX7_readGuest_67 ?_
        refine T_getN dX7_readGuest_68 lf_X7_114 rfl rfl ((congrFun (uI_p (by decide)) _).trans hi1) ?_
        refine T_ialdN dX7_readGuest_71 rfl (by show _ < 8; omega) uI_s ?_
        refine T_bipush (v := -9) dX7_readGuest_72 (by decide) ?_
        refine T_cne (tgt := 79) dX7_readGuest_74 (by decide) (fun h74 => ?_) (fun h74 => by exact absurd h74 (nI_m9 (by omega)))
        refine T_ald0 dX7_readGuest_79 ?_
        refine T_dup dX7_readGuest_80 rfl ?_
        refine T_getN dX7_readGuest_81 lf_X7_84 rfl rfl ((congrFun (uI_p (by decide)) _).trans hR.1) ?_
        refine T_iconst (v := nI 1) dX7_readGuest_84 (by decide) ?_
        refine T_iaddN dX7_readGuest_85 ?_
        refine T_putI dX7_readGuest_86 lf_X7_84 rfl rfl rfl rfl ?_
        refine T_ald0 dX7_readGuest_89 ?_
        refine T_getR (q := 47) dX7_readGuest_90 lf_X7_37 rfl rfl rfl ?_
        refine T_ald0 dX7_readGuest_93 ?_
        refine T_getN dX7_readGuest_94 lf_X7_114 rfl rfl ((uI_k (by decide)).trans ((congrFun (uI_p (by decide)) _).trans hi1)) ?_
        refine T_ald0 dX7_readGuest_97 ?_
        refine T_ild1 dX7_readGuest_98 ?_
        refine T_bipush (v := nI 9) dX7_readGuest_99 (by decide) ?_
        refine T_invV2i (M' := mX7_digit) dX7_readGuest_101 ml_X7_139 imX7_digit rfl (Nat.le_of_ble_eq_true rfl) rfl (Nat.le_of_ble_eq_true rfl) rfl (Nat.le_of_ble_eq_true rfl) (c_X7_digit_s hF (by omega) ((hR.off (by decide) (by decide)).adv1) (by decide) (show 10 = 9 + 1 from rfl) hd2) ?_
        refine T_iast dX7_readGuest_104 rfl (by show _ < 8; omega) rfl ?_
        refine T_ald0 dX7_readGuest_105 ?_
        refine T_getR (q := 47) dX7_readGuest_106 lf_X7_37 rfl rfl rfl ?_
        refine T_ald0 dX7_readGuest_109 ?_
        refine T_getN dX7_readGuest_110 lf_X7_114 rfl rfl ((congrFun (uI_p (by decide)) _).trans ((uI_k (by decide)).trans ((uI_k (by decide)).trans ((congrFun (uI_p (by decide)) _).trans hi1)))) ?_
        refine T_ialdN dX7_readGuest_113 rfl (by show _ < 8; omega) uI_s ?_
        refine T_bipush (v := -9) dX7_readGuest_114 (by decide) ?_
        refine T_cne (tgt := 121) dX7_readGuest_116 (by decide) (fun h116 => ?_) (fun h116 => by exact absurd h116 (nI_m9 (by omega)))
        refine T_ald0 dX7_readGuest_121 ?_
        refine T_getR (q := 48) dX7_readGuest_122 lf_X7_40 rfl rfl rfl ?_
        refine T_ald0 dX7_readGuest_125 ?_
        refine T_getN dX7_readGuest_126 lf_X7_114 rfl rfl ((congrFun (uI_p (by decide)) _).trans ((uI_k (by decide)).trans ((uI_k (by decide)).trans ((congrFun (uI_p (by decide)) _).trans hi1)))) ?_
        refine T_ald0 dX7_readGuest_129 ?_
        refine T_ild1 dX7_readGuest_130 ?_
        refine T_iconst (v := nI 3) dX7_readGuest_131 (by decide) ?_
        refine T_invV2i (M' := mX7_digit) dX7_readGuest_132 ml_X7_139 imX7_digit rfl (Nat.le_of_ble_eq_true rfl) rfl (Nat.le_of_ble_eq_true rfl) rfl (Nat.le_of_ble_eq_true rfl) (c_X7_digit_s hF (by omega) ((((hR.off (by decide) (by decide)).adv1).adv1).off (by decide) (by decide)) (by decide) (show 4 = 3 + 1 from rfl) hd3) ?_
        refine T_iast dX7_readGuest_135 rfl (by show _ < 8; omega) rfl ?_
        refine T_ald0 dX7_readGuest_136 ?_
        refine T_dup dX7_readGuest_137 rfl ?_
        refine T_getN dX7_readGuest_138 lf_X7_114 rfl rfl ((congrFun (uI_p (by decide)) _).trans ((uI_k (by decide)).trans ((congrFun (uI_p (by decide)) _).trans ((uI_k (by decide)).trans ((uI_k (by decide)).trans ((congrFun (uI_p (by decide)) _).trans hi1)))))) ?_
        refine T_iconst (v := nI 1) dX7_readGuest_141 (by decide) ?_
        refine T_iaddN dX7_readGuest_142 ?_
        refine T_putI dX7_readGuest_143 lf_X7_114 rfl rfl rfl rfl ?_
        refine T_ald0 dX7_readGuest_146 ?_
        refine T_getR (q := 48) dX7_readGuest_147 lf_X7_40 rfl rfl rfl ?_
        refine T_ald0 dX7_readGuest_150 ?_
        refine T_getN dX7_readGuest_151 lf_X7_114 rfl rfl uI_s ?_
        refine T_iconst (v := nI 1) dX7_readGuest_154 (by decide) ?_
        refine T_isubN dX7_readGuest_155 (by omega) ?_
        refine T_ialdN dX7_readGuest_156 rfl (by show _ < 8; omega) ((congrFun (uI_p (by decide)) _).trans uI_s) ?_
        refine T_bipush (v := -9) dX7_readGuest_157 (by decide) ?_
        refine T_ceq (tgt := 166) dX7_readGuest_159 (by decide) (fun h159 => by exact absurd h159 (nI_m9 (by omega))) (fun h159 => ?_)
        refine T_iconst (v := bI true) dX7_readGuest_162 (by decide) ?_
        refine T_goto (tgt := 167) dX7_readGuest_163 (by decide) ?_
        refine T_bretB dX7_readGuest_167 rfl ?_
        exact ⟨_, rfl, (by repeat (first | exact OF_r | refine OF_u ?_ (by simp))), (by rw [hp]; rfl), (by rw [hp]; exact Eq.trans (b := nI (F + (t + 1 + 1 + 1) + 1)) (by simp [uI]) (congrArg nI (by omega))), fun _ => (by rw [show kv n co (t + 1) = v1 by unfold kv; rw [hk]; rfl, show dv n co (t + 2) 10 = v2 by unfold dv; rw [hd2]; rfl, show dv n co (t + 3) 4 = v3 by unfold dv; rw [hd3]; rfl]; simp [uI])⟩
  by_cases ht : t + 1 < n
  · skip
    refine T_ald0 dX7_readGuest_0 ?_
    refine T_getN dX7_readGuest_1 lf_X7_84 rfl rfl hR.1 ?_
    refine T_ild1 dX7_readGuest_4 ?_
    refine T_cgeN (tgt := 20) dX7_readGuest_5 (by decide) (by omega) (by omega) (fun h5 => by exfalso; omega) (fun h5 => ?_)
    refine T_ald0 dX7_readGuest_8 ?_
    refine T_getR (q := 40) dX7_readGuest_9 lf_X7_16 rfl rfl rfl ?_
    refine T_ald0 dX7_readGuest_12 ?_
    refine T_getN dX7_readGuest_13 lf_X7_84 rfl rfl hR.1 ?_
    refine T_ialdV dX7_readGuest_16 rfl (by show _ < 240; omega) (hR.2 _ ht) ?_
    refine T_goto (tgt := 21) dX7_readGuest_17 (by decide) ?_
    refine T_ist2 dX7_readGuest_21 (by decide) rfl ?_
    refine T_ald0 dX7_readGuest_22 ?_
    refine T_getR (q := 46) dX7_readGuest_23 lf_X7_34 rfl rfl rfl ?_
    refine T_ald0 dX7_readGuest_26 ?_
    refine T_getN dX7_readGuest_27 lf_X7_114 rfl rfl hi1 ?_
    refine T_ild2 dX7_readGuest_30 ?_
    refine T_bipush (v := nI 103) dX7_readGuest_31 (by decide) ?_
    refine T_cne (tgt := 40) dX7_readGuest_33 (by decide) (fun h33 => ?_) (fun h33 => ?_)
    · refine T_ild2 dX7_readGuest_40 ?_
      refine T_bipush (v := nI 97) dX7_readGuest_41 (by decide) ?_
      refine T_cne (tgt := 50) dX7_readGuest_43 (by decide) (fun h43 => ?_) (fun h43 => ?_)
      · refine T_ild2 dX7_readGuest_50 ?_
        refine T_bipush (v := nI 99) dX7_readGuest_51 (by decide) ?_
        refine T_cne (tgt := 60) dX7_readGuest_53 (by decide) (fun h53 => ?_) (fun h53 => ?_)
        · refine T_bipush (v := -9) dX7_readGuest_60 (by decide) ?_
          refine T_iast dX7_readGuest_62 rfl (by show _ < 8; omega) rfl ?_
          first
            | (exact key 0 _ ((skd_c ht).trans (if_pos h33)))
            | (exact key 1 _ ((skd_c ht).trans ((if_neg h33).trans (if_pos h43))))
            | (exact key 2 _ ((skd_c ht).trans ((if_neg h33).trans ((if_neg h43).trans (if_pos h53)))))
            | (exact bad _ ((skd_c ht).trans ((if_neg h33).trans ((if_neg h43).trans (if_neg h53)))))
            | fail "leaf"
        · refine T_iconst (v := nI 2) dX7_readGuest_56 (by decide) ?_
          refine T_goto (tgt := 62) dX7_readGuest_57 (by decide) ?_
          refine T_iast dX7_readGuest_62 rfl (by show _ < 8; omega) rfl ?_
          first
            | (exact key 0 _ ((skd_c ht).trans (if_pos h33)))
            | (exact key 1 _ ((skd_c ht).trans ((if_neg h33).trans (if_pos h43))))
            | (exact key 2 _ ((skd_c ht).trans ((if_neg h33).trans ((if_neg h43).trans (if_pos h53)))))
            | (exact bad _ ((skd_c ht).trans ((if_neg h33).trans ((if_neg h43).trans (if_neg h53)))))
            | fail "leaf"
      · refine T_iconst (v := nI 1) dX7_readGuest_46 (by decide) ?_
        refine T_goto (tgt := 62) dX7_readGuest_47 (by decide) ?_
        refine T_iast dX7_readGuest_62 rfl (by show _ < 8; omega) rfl ?_
        first
          | (exact key 0 _ ((skd_c ht).trans (if_pos h33)))
          | (exact key 1 _ ((skd_c ht).trans ((if_neg h33).trans (if_pos h43))))
          | (exact key 2 _ ((skd_c ht).trans ((if_neg h33).trans ((if_neg h43).trans (if_pos h53)))))
          | (exact bad _ ((skd_c ht).trans ((if_neg h33).trans ((if_neg h43).trans (if_neg h53)))))
          | fail "leaf"
    · refine T_iconst (v := nI 0) dX7_readGuest_36 (by decide) ?_
      refine T_goto (tgt := 62) dX7_readGuest_37 (by decide) ?_
      refine T_iast dX7_readGuest_62 rfl (by show _ < 8; omega) rfl ?_
      first
        | (exact key 0 _ ((skd_c ht).trans (if_pos h33)))
        | (exact key 1 _ ((skd_c ht).trans ((if_neg h33).trans (if_pos h43))))
        | (exact key 2 _ ((skd_c ht).trans ((if_neg h33).trans ((if_neg h43).trans (if_pos h53)))))
        | (exact bad _ ((skd_c ht).trans ((if_neg h33).trans ((if_neg h43).trans (if_neg h53)))))
        | fail "leaf"
  · skip
    refine T_ald0 dX7_readGuest_0 ?_
    refine T_getN dX7_readGuest_1 lf_X7_84 rfl rfl hR.1 ?_
    refine T_ild1 dX7_readGuest_4 ?_
    refine T_cgeN (tgt := 20) dX7_readGuest_5 (by decide) (by omega) (by omega) (fun h5 => ?_) (fun h5 => by exfalso; omega)
    refine T_iconst (v := nI 0) dX7_readGuest_20 (by decide) ?_
    refine T_ist2 dX7_readGuest_21 (by decide) rfl ?_
    refine T_ald0 dX7_readGuest_22 ?_
    refine T_getR (q := 46) dX7_readGuest_23 lf_X7_34 rfl rfl rfl ?_
    refine T_ald0 dX7_readGuest_26 ?_
    refine T_getN dX7_readGuest_27 lf_X7_114 rfl rfl hi1 ?_
    refine T_ild2 dX7_readGuest_30 ?_
    refine T_bipush (v := nI 103) dX7_readGuest_31 (by decide) ?_
    refine T_cneN (tgt := 40) dX7_readGuest_33 (by decide) (by omega) (by omega) (fun h33 => ?_) (fun h33 => by exact absurd h33 (by decide))
    refine T_ild2 dX7_readGuest_40 ?_
    refine T_bipush (v := nI 97) dX7_readGuest_41 (by decide) ?_
    refine T_cneN (tgt := 50) dX7_readGuest_43 (by decide) (by omega) (by omega) (fun h43 => ?_) (fun h43 => by exact absurd h43 (by decide))
    refine T_ild2 dX7_readGuest_50 ?_
    refine T_bipush (v := nI 99) dX7_readGuest_51 (by decide) ?_
    refine T_cneN (tgt := 60) dX7_readGuest_53 (by decide) (by omega) (by omega) (fun h53 => ?_) (fun h53 => by exact absurd h53 (by decide))
    refine T_bipush (v := -9) dX7_readGuest_60 (by decide) ?_
    refine T_iast dX7_readGuest_62 rfl (by show _ < 8; omega) rfl ?_
    exact bad _ (skd_ge (by omega))
set_option maxRecDepth 20000 in
theorem c_X7_readDish {S : Nat → Nat → Int32} {L : Nat → Nat → Int64} {R : Nat × Nat × Nat} {d : Nat} {F n t : Nat} {co : Nat → Int32} (hF : F + n ≤ 240) (hR : RM S F n (t + 1) co) {i g : Nat} (hi : i < 6) (hi1 : S 37 20 = nI i) (hg : S 37 17 = nI g) (hg1 : 1 ≤ g) (hg10 : g ≤ 10) (hs : sg n co t (nI 59) = true) : TT mX7_readDish (d + 2) 0 [some (.ref 37), some (.int (nI (F + n)))] [] (S, L, R) (fun r σ' => ∃ S', σ' = (S', L, R) ∧ OF [(37, 15), (37, 20), (49, i), (50, i)] S S' ∧ r = some (.int (bI (decide (pDf n co g t = 3)))) ∧ S' 37 15 = nI (F + (t + pDf n co g t)) ∧ (pDf n co g t = 3 → S' 37 20 = nI (i + 1) ∧ S' 49 i = nI (dv n co (t + 1) g) ∧ S' 50 i = nI (dv n co (t + 2) 10))) := by
  have ht0 := sg_lt hs
  cases hd1 : dgt n co (t + 1) g with
  | none =>
    have hp : pDf n co g t = 1 := (if_neg (by rw [hs]; decide)).trans (if_pos hd1)
    refine T_ald0 dX7_readDish_0 ?_
    refine T_getR (q := 49) dX7_readDish_1 lf_X7_43 rfl rfl rfl ?_
    refine T_ald0 dX7_readDish_4 ?_
    refine T_getN dX7_readDish_5 lf_X7_129 rfl rfl hi1 ?_
    refine T_ald0 dX7_readDish_8 ?_
    refine T_ild1 dX7_readDish_9 ?_
    refine T_ald0 dX7_readDish_10 ?_
    refine T_getN dX7_readDish_11 lf_X7_114 rfl rfl hg ?_
    refine T_iconst (v := nI 1) dX7_readDish_14 (by decide) ?_
    refine T_isubN dX7_readDish_15 (by omega) ?_
    refine T_invV2i (M' := mX7_digit) dX7_readDish_16 ml_X7_139 imX7_digit rfl (Nat.le_of_ble_eq_true rfl) rfl (Nat.le_of_ble_eq_true rfl) rfl (Nat.le_of_ble_eq_true rfl) (c_X7_digit_n hF (by omega) hR hg10 (show g = g - 1 + 1 by omega) hd1) ?_
    refine T_iast dX7_readDish_19 rfl (by show _ < 6; omega) rfl ?_
    refine T_ald0 dX7_readDish_20 ?_
    refine T_getR (q := 49) dX7_readDish_21 lf_X7_43 rfl rfl rfl ?_
    refine T_ald0 dX7_readDish_24 ?_
    refine T_getN dX7_readDish_25 lf_X7_129 rfl rfl ((congrFun (uI_p (by decide)) _).trans hi1) ?_
    refine T_ialdV dX7_readDish_28 rfl (by show _ < 6; omega) uI_s ?_
    refine T_bipush (v := -9) dX7_readDish_29 (by decide) ?_
    refine T_cne (tgt := 36) dX7_readDish_31 (by decide) (fun h31 => by exact absurd rfl h31) (fun h31 => ?_)
    refine T_iconst (v := bI false) dX7_readDish_34 (by decide) ?_
    refine T_bretB dX7_readDish_35 rfl ?_
    exact ⟨_, rfl, (by repeat (first | exact OF_r | refine OF_u ?_ (by simp))), (by rw [hp]; rfl), (by rw [hp]; exact ((congrFun (uI_p (by decide)) _).trans hR.1)), fun q => (by rw [hp] at q; cases q)⟩
  | some v1 =>
    have ht2 := dgt_some hg10 hd1
    have hdn : ¬ dgt n co (t + 1) g = none := by rw [hd1]; exact fun h => nomatch h
    cases hd2 : dgt n co (t + 2) 10 with
    | none =>
      have hp : pDf n co g t = 2 := (if_neg (by rw [hs]; decide)).trans ((if_neg hdn).trans (if_pos hd2))
      refine T_ald0 dX7_readDish_0 ?_
      refine T_getR (q := 49) dX7_readDish_1 lf_X7_43 rfl rfl rfl ?_
      refine T_ald0 dX7_readDish_4 ?_
      refine T_getN dX7_readDish_5 lf_X7_129 rfl rfl hi1 ?_
      refine T_ald0 dX7_readDish_8 ?_
      refine T_ild1 dX7_readDish_9 ?_
      refine T_ald0 dX7_readDish_10 ?_
      refine T_getN dX7_readDish_11 lf_X7_114 rfl rfl hg ?_
      refine T_iconst (v := nI 1) dX7_readDish_14 (by decide) ?_
      refine T_isubN dX7_readDish_15 (by omega) ?_
      refine T_invV2i (M' := mX7_digit) dX7_readDish_16 ml_X7_139 imX7_digit rfl (Nat.le_of_ble_eq_true rfl) rfl (Nat.le_of_ble_eq_true rfl) rfl (Nat.le_of_ble_eq_true rfl) (c_X7_digit_s hF (by omega) hR hg10 (show g = g - 1 + 1 by omega) hd1) ?_
      refine T_iast dX7_readDish_19 rfl (by show _ < 6; omega) rfl ?_
      refine T_ald0 dX7_readDish_20 ?_
      refine T_getR (q := 49) dX7_readDish_21 lf_X7_43 rfl rfl rfl ?_
      refine T_ald0 dX7_readDish_24 ?_
      refine T_getN dX7_readDish_25 lf_X7_129 rfl rfl ((congrFun (uI_p (by decide)) _).trans ((uI_k (by decide)).trans hi1)) ?_
      refine T_ialdN dX7_readDish_28 rfl (by show _ < 6; omega) uI_s ?_
      refine T_bipush (v := -9) dX7_readDish_29 (by decide) ?_
      refine T_cne (tgt := 36) dX7_readDish_31 (by decide) (fun h31 => ?_) (fun h31 => by exact absurd h31 (nI_m9 (by omega)))
      refine T_ald0 dX7_readDish_36 ?_
      refine T_getR (q := 50) dX7_readDish_37 lf_X7_46 rfl rfl rfl ?_
      refine T_ald0 dX7_readDish_40 ?_
      refine T_getN dX7_readDish_41 lf_X7_129 rfl rfl ((congrFun (uI_p (by decide)) _).trans ((uI_k (by decide)).trans hi1)) ?_
      refine T_ald0 dX7_readDish_44 ?_
      refine T_ild1 dX7_readDish_45 ?_
      refine T_bipush (v := nI 9) dX7_readDish_46 (by decide) ?_
      refine T_invV2i (M' := mX7_digit) dX7_readDish_48 ml_X7_139 imX7_digit rfl (Nat.le_of_ble_eq_true rfl) rfl (Nat.le_of_ble_eq_true rfl) rfl (Nat.le_of_ble_eq_true rfl) (c_X7_digit_n hF (by omega) ((hR.adv1).off (by decide) (by decide)) (by decide) (show 10 = 9 + 1 from rfl) hd2) ?_
      refine T_iast dX7_readDish_51 rfl (by show _ < 6; omega) rfl ?_
      refine T_ald0 dX7_readDish_52 ?_
      refine T_dup dX7_readDish_53 rfl ?_
      refine T_getN dX7_readDish_54 lf_X7_129 rfl rfl ((congrFun (uI_p (by decide)) _).trans ((congrFun (uI_p (by decide)) _).trans ((uI_k (by decide)).trans hi1))) ?_
      refine T_iconst (v := nI 1) dX7_readDish_57 (by decide) ?_
      refine T_iaddN dX7_readDish_58 ?_
      refine T_putI dX7_readDish_59 lf_X7_129 rfl rfl rfl rfl ?_
      refine T_ald0 dX7_readDish_62 ?_
      refine T_getR (q := 50) dX7_readDish_63 lf_X7_46 rfl rfl rfl ?_
      refine T_ald0 dX7_readDish_66 ?_
      refine T_getN dX7_readDish_67 lf_X7_129 rfl rfl uI_s ?_
      refine T_iconst (v := nI 1) dX7_readDish_70 (by decide) ?_
      refine T_isubN dX7_readDish_71 (by omega) ?_
      refine T_ialdV dX7_readDish_72 rfl (by show _ < 6; omega) ((congrFun (uI_p (by decide)) _).trans uI_s) ?_
      refine T_bipush (v := -9) dX7_readDish_73 (by decide) ?_
      refine T_ceq (tgt := 82) dX7_readDish_75 (by decide) (fun h75 => ?_) (fun h75 => by exact absurd rfl h75)
      refine T_iconst (v := bI false) dX7_readDish_82 (by decide) ?_
      refine T_bretB dX7_readDish_83 rfl ?_
      exact ⟨_, rfl, (by repeat (first | exact OF_r | refine OF_u ?_ (by simp))), (by rw [hp]; rfl), (by rw [hp]; exact Eq.trans (b := nI (F + (t + 1) + 1)) (by simp [uI]) (congrArg nI (by omega))), fun q => (by rw [hp] at q; cases q)⟩
    | some v2 =>
      have ht3 := dgt_some (by decide) hd2
      have hp : pDf n co g t = 3 := (if_neg (by rw [hs]; decide)).trans ((if_neg hdn).trans (if_neg (by rw [hd2]; exact fun h => nomatch h)))
      refine T_ald0 dX7_readDish_0 ?_
      refine T_getR (q := 49) dX7_readDish_1 lf_X7_43 rfl rfl rfl ?_
      refine T_ald0 dX7_readDish_4 ?_
      refine T_getN dX7_readDish_5 lf_X7_129 rfl rfl hi1 ?_
      refine T_ald0 dX7_readDish_8 ?_
      refine T_ild1 dX7_readDish_9 ?_
      refine T_ald0 dX7_readDish_10 ?_
      refine T_getN dX7_readDish_11 lf_X7_114 rfl rfl hg ?_
      refine T_iconst (v := nI 1) dX7_readDish_14 (by decide) ?_
      refine T_isubN dX7_readDish_15 (by omega) ?_
      refine T_invV2i (M' := mX7_digit) dX7_readDish_16 ml_X7_139 imX7_digit rfl (Nat.le_of_ble_eq_true rfl) rfl (Nat.le_of_ble_eq_true rfl) rfl (Nat.le_of_ble_eq_true rfl) (c_X7_digit_s hF (by omega) hR hg10 (show g = g - 1 + 1 by omega) hd1) ?_
      refine T_iast dX7_readDish_19 rfl (by show _ < 6; omega) rfl ?_
      refine T_ald0 dX7_readDish_20 ?_
      refine T_getR (q := 49) dX7_readDish_21 lf_X7_43 rfl rfl rfl ?_
      refine T_ald0 dX7_readDish_24 ?_
      refine T_getN dX7_readDish_25 lf_X7_129 rfl rfl ((congrFun (uI_p (by decide)) _).trans ((uI_k (by decide)).trans hi1)) ?_
      refine T_ialdN dX7_readDish_28 rfl (by show _ < 6; omega) uI_s ?_
      refine T_bipush (v := -9) dX7_readDish_29 (by decide) ?_
      refine T_cne (tgt := 36) dX7_readDish_31 (by decide) (fun h31 => ?_) (fun h31 => by exact absurd h31 (nI_m9 (by omega)))
      refine T_ald0 dX7_readDish_36 ?_
      refine T_getR (q := 50) dX7_readDish_37 lf_X7_46 rfl rfl rfl ?_
      refine T_ald0 dX7_readDish_40 ?_
      refine T_getN dX7_readDish_41 lf_X7_129 rfl rfl ((congrFun (uI_p (by decide)) _).trans ((uI_k (by decide)).trans hi1)) ?_
      refine T_ald0 dX7_readDish_44 ?_
      refine T_ild1 dX7_readDish_45 ?_
      refine T_bipush (v := nI 9) dX7_readDish_46 (by decide) ?_
      refine T_invV2i (M' := mX7_digit) dX7_readDish_48 ml_X7_139 imX7_digit rfl (Nat.le_of_ble_eq_true rfl) rfl (Nat.le_of_ble_eq_true rfl) rfl (Nat.le_of_ble_eq_true rfl) (c_X7_digit_s hF (by omega) ((hR.adv1).off (by decide) (by decide)) (by decide) (show 10 = 9 + 1 from rfl) hd2) ?_
      refine T_iast dX7_readDish_51 rfl (by show _ < 6; omega) rfl ?_
      refine T_ald0 dX7_readDish_52 ?_
      refine T_dup dX7_readDish_53 rfl ?_
      refine T_getN dX7_readDish_54 lf_X7_129 rfl rfl ((congrFun (uI_p (by decide)) _).trans ((uI_k (by decide)).trans ((congrFun (uI_p (by decide)) _).trans ((uI_k (by decide)).trans hi1)))) ?_
      refine T_iconst (v := nI 1) dX7_readDish_57 (by decide) ?_
      refine T_iaddN dX7_readDish_58 ?_
      refine T_putI dX7_readDish_59 lf_X7_129 rfl rfl rfl rfl ?_
      refine T_ald0 dX7_readDish_62 ?_
      refine T_getR (q := 50) dX7_readDish_63 lf_X7_46 rfl rfl rfl ?_
      refine T_ald0 dX7_readDish_66 ?_
      refine T_getN dX7_readDish_67 lf_X7_129 rfl rfl uI_s ?_
      refine T_iconst (v := nI 1) dX7_readDish_70 (by decide) ?_
      refine T_isubN dX7_readDish_71 (by omega) ?_
      refine T_ialdN dX7_readDish_72 rfl (by show _ < 6; omega) ((congrFun (uI_p (by decide)) _).trans uI_s) ?_
      refine T_bipush (v := -9) dX7_readDish_73 (by decide) ?_
      refine T_ceq (tgt := 82) dX7_readDish_75 (by decide) (fun h75 => by exact absurd h75 (nI_m9 (by omega))) (fun h75 => ?_)
      refine T_iconst (v := bI true) dX7_readDish_78 (by decide) ?_
      refine T_goto (tgt := 83) dX7_readDish_79 (by decide) ?_
      refine T_bretB dX7_readDish_83 rfl ?_
      exact ⟨_, rfl, (by repeat (first | exact OF_r | refine OF_u ?_ (by simp))), (by rw [hp]; rfl), (by rw [hp]; exact Eq.trans (b := nI (F + (t + 1 + 1) + 1)) (by simp [uI]) (congrArg nI (by omega))), fun _ => (by rw [show dv n co (t + 1) g = v1 by unfold dv; rw [hd1]; rfl, show dv n co (t + 2) 10 = v2 by unfold dv; rw [hd2]; rfl]; simp [uI])⟩
