/-! the reference: the game played out -/
def ev (t : Nat) : Bool := decide (t % 2 = 0)
def cc (c t : Nat) : Nat := if t % 2 = 0 then c else 1 - c
def mG (a : Nat → Nat → Nat) (n c t q : Nat) : Option Int := match ph (a 0 0) (a 3 0) t q with
  | none => none
  | some x => some (GM a (n - t) (cc c t) x)
def VV (a : Nat → Nat → Nat) (n c t q : Nat) : Int32 := vI (ev t) (mG a n c t q)
def fF (a : Nat → Nat → Nat) (n c t q : Nat) : Nat → Option Int := match ph (a 0 0) (a 3 0) t q with
  | none => fun _ => none
  | some x => fM a (n - (t + 1)) (cc c t) x
theorem mG_n {a : Nat → Nat → Nat} {n c t q : Nat} (h : ph (a 0 0) (a 3 0) t q = none) : mG a n c t q = none := by unfold mG; rw [h]
theorem mG_s {a : Nat → Nat → Nat} {n c t q x : Nat} (h : ph (a 0 0) (a 3 0) t q = some x) : mG a n c t q = some (GM a (n - t) (cc c t) x) := by unfold mG; rw [h]
theorem fF_n {a : Nat → Nat → Nat} {n c t q : Nat} (h : ph (a 0 0) (a 3 0) t q = none) : fF a n c t q = fun _ => none := by unfold fF; rw [h]
theorem fF_s {a : Nat → Nat → Nat} {n c t q x : Nat} (h : ph (a 0 0) (a 3 0) t q = some x) : fF a n c t q = fM a (n - (t + 1)) (cc c t) x := by unfold fF; rw [h]
theorem ev_s (t : Nat) : ev (t + 1) = !ev t := by
  unfold ev
  by_cases h : t % 2 = 0
  · rw [decide_eq_true h, decide_eq_false (by omega)]; rfl
  · rw [decide_eq_false h, decide_eq_true (by omega)]; rfl
theorem cc_s {c : Nat} (hc : c ≤ 1) (t : Nat) : cc c (t + 1) = 1 - cc c t := by
  unfold cc
  by_cases h : t % 2 = 0
  · rw [if_pos h, if_neg (by omega)]
  · rw [if_neg h, if_pos (by omega)]; omega
theorem VV_child {a : Nat → Nat → Nat} {n c t q r : Nat} (hc : c ≤ 1) (hr : r < 4) : VV a n c (t + 1) (4 * q + r) = vI (ev t) (fF a n c t q r) := by
  have e1 : (4 * q + r) / 4 = q := by omega
  have e2 : (4 * q + r) % 4 = r := by omega
  unfold VV
  cases e : ph (a 0 0) (a 3 0) t q with
  | none => rw [mG_n (ph_n (by rw [e1]; exact e)), fF_n e]; rfl
  | some x =>
    have hp := ph_s (g := a 0 0) (b := a 3 0) (t := t) (q := 4 * q + r) (by rw [e1]; exact e)
    rw [e2] at hp
    rw [fF_s e]
    unfold fM
    cases e3 : beh (a 0 0) x r with
    | none => rw [e3] at hp; rw [mG_n hp]; rfl
    | some y => rw [e3] at hp; rw [mG_s hp, ev_s, vI_neg, cc_s hc]
theorem fF_b {a : Nat → Nat → Nat} {n c t q : Nat} (hW : WL a) : ∀ r m, fF a n c t q r = some m → -60 ≤ m ∧ m ≤ 60 := by
  intro r m h
  have hok : okB (a 0 0) (a 3 0) := ⟨hW.2.2.2.2.2.1, hW.2.2.2.2.2.2.1, hW.2.2.2.2.2.2.2.1, hW.2.2.2.2.2.2.2.2.1⟩
  cases e : ph (a 0 0) (a 3 0) t q with
  | none => rw [fF_n e] at h; cases h
  | some x => rw [fF_s e] at h; exact (GM_60 hW _ _ x (ph_ok hW.2.1 hok t q x e)).2.1 r m h
theorem fF_bo {a : Nat → Nat → Nat} {n c t q : Nat} (hW : WL a) (ht : t < n) : bo (fF a n c t q) 4 = mG a n c t q := by
  have hok : okB (a 0 0) (a 3 0) := ⟨hW.2.2.2.2.2.1, hW.2.2.2.2.2.2.1, hW.2.2.2.2.2.2.2.1, hW.2.2.2.2.2.2.2.2.1⟩
  cases e : ph (a 0 0) (a 3 0) t q with
  | none => rw [fF_n e, mG_n e]; rfl
  | some x => rw [fF_s e, mG_s e, (GM_60 hW _ _ x (ph_ok hW.2.1 hok t q x e)).2.2, show n - (t + 1) + 1 = n - t by omega]
theorem VV_leaf {a : Nat → Nat → Nat} {n c q x : Nat} (hW : WL a) (hc : c ≤ 1) (h : ph (a 0 0) (a 3 0) n q = some x) : nI (100 + land a c x - land a (1 - c) x) = VV a n c n q := by
  have l1 := land_le (c := c) (b := x) hW
  have l2 := land_le (c := 1 - c) (b := x) hW
  unfold VV
  rw [mG_s h, Nat.sub_self, nI_zI]
  by_cases e : n % 2 = 0
  · rw [show ev n = true from decide_eq_true e, show cc c n = c from if_pos e]
    exact congrArg zI (show ((100 + land a c x - land a (1 - c) x : Nat) : Int) = 100 + ((land a c x : Int) - (land a (1 - c) x : Int)) by omega)
  · rw [show ev n = false from decide_eq_false e, show cc c n = 1 - c from if_neg e]
    refine congrArg zI (show ((100 + land a c x - land a (1 - c) x : Nat) : Int) = 100 + - ((land a (1 - c) x : Int) - (land a (1 - (1 - c)) x : Int)) from ?_)
    rw [show 1 - (1 - c) = c by omega]; omega
def FR (S S' : Nat → Nat → Int32) : Prop := (∀ q, q ≠ 52 → q ≠ 37 → S' q = S q) ∧ ∀ k, k ≠ 28 → S' 37 k = S 37 k
theorem FR.mv {S S' : Nat → Nat → Int32} {a : Nat → Nat → Nat} (h : FR S S') (hM : MV S a) : MV S' a := hM.cong (fun q hq => h.1 q (by omega) (by omega)) (fun k hk => h.2 k (by omega))
theorem FR.fm {S S' : Nat → Nat → Int32} (h : FR S S') : FM S S' := ⟨fun q hq => h.1 q (by omega) (by omega), h.2 0 (by decide), h.2 1 (by decide)⟩
theorem wth_14 {x : Int32} : wth x (nI 1) (nI 4) = (blw x 5 && !blw x 1) := by
  by_cases h : x < 0
  · rw [neg_2 (by decide) h, neg_2 (by decide) h]
    refine decide_eq_false (fun q => ?_)
    have q1 := Int32.le_iff_toInt_le.mp q.1
    have q2 := Int32.lt_iff_toInt_lt.mp h
    have e0 : (0 : Int32).toInt = 0 := rfl
    have e1 : (nI 1).toInt = 1 := rfl
    omega
  · obtain ⟨k, hk, rfl⟩ := nI_of h
    rw [blw_d hk (by decide), blw_d hk (by decide)]
    by_cases q : 1 ≤ k ∧ k ≤ 4
    · rw [show wth (nI k) (nI 1) (nI 4) = true from decide_eq_true ⟨(nI_leI (by decide) hk).mpr q.1, (nI_leI hk (by decide)).mpr q.2⟩, decide_eq_true (show k < 5 by omega), decide_eq_false (show ¬ k < 1 by omega)]; rfl
    · rw [show wth (nI k) (nI 1) (nI 4) = false from decide_eq_false (fun z => q ⟨(nI_leI (by decide) hk).mp z.1, (nI_leI hk (by decide)).mp z.2⟩)]
      by_cases q5 : k < 5
      · rw [decide_eq_true q5, decide_eq_true (show k < 1 by omega)]; rfl
      · rw [decide_eq_false q5]; rfl
set_option maxRecDepth 20000 in
theorem c_within14 {S : Nat → Nat → Int32} {L : Nat → Nat → Int64} {R : Nat × Nat × Nat} {d : Nat} {x : Int32} : TT mX7_within (d + 0) 0 [some (.int x), some (.int (nI 1)), some (.int (nI 4))] [] (S, L, R) (rt (some (.int (bI (blw x 5 && !blw x 1)))) (S, L, R)) := by
  have q := c_X7_within (S := S) (L := L) (R := R) (d := d) (x := x) (l := nI 1) (h := nI 4)
  rw [wth_14] at q; exact q
set_option maxRecDepth 20000 in
theorem c_X7_findGame {S : Nat → Nat → Int32} {L : Nat → Nat → Int64} {R : Nat × Nat × Nat} {d : Nat} {a : Nat → Nat → Nat} (hM : MV S a) (hW : WL a) {c n : Nat} (hc : c ≤ 1) (hn1 : 1 ≤ n) (hn : n ≤ 4) : TT mX7_findGame (d + 3) 0 [some (.ref 37), some (.int (nI c)), some (.int (nI n)), none, none, none] [] (S, L, R) (fun r σ' => r = none ∧ ∃ S', σ' = (S', L, R) ∧ FR S S' ∧ S' 52 0 = zI (100 + GM a n c (a 3 0)) ∧ S' 37 28 = nI (arx (MB a (n - 1) c (a 3 0)) 3)) := by
  obtain ⟨mg, mdn, mso, msa, mpe, mrn, mgu, mdi, mre⟩ := id hM
  obtain ⟨w3, w8, wd1, wd6, wso, wb, wbs, wbp, wne, wrn, wgu, wdi, wre⟩ := id hW
  refine T_iconst (v := nI 1) dX7_findGame_0 (by decide) ?_
  refine T_ist3 dX7_findGame_1 (by decide) rfl ?_
  refine T_iconst (v := nI 0) dX7_findGame_2 (by decide) ?_
  refine T_ist4 dX7_findGame_3 (by decide) rfl ?_
  skip
  refine up_ind (P := fun i => TT mX7_findGame (d + 3) 5 [some (.ref 37), some (.int (nI c)), some (.int (nI n)), some (.int (nI (4 ^ i))), some (.int (nI i)), none] [] (S, L, R) (fun r σ' => r = none ∧ ∃ S', σ' = (S', L, R) ∧ FR S S' ∧ S' 52 0 = zI (100 + GM a n c (a 3 0)) ∧ S' 37 28 = nI (arx (MB a (n - 1) c (a 3 0)) 3))) n ?_ ?_
  · refine T_ild4 dX7_findGame_5 ?_
    refine T_ild2 dX7_findGame_7 ?_
    refine T_cgeN (tgt := 21) dX7_findGame_8 (by decide) (by omega) (by omega) (fun h8 => ?_) (fun h8 => by exfalso; omega)
    refine T_iconst (v := nI 0) dX7_findGame_21 (by decide) ?_
    refine T_ist4 dX7_findGame_22 (by decide) rfl ?_
    skip
    have hNl : 4 ^ n ≤ 256 := show 4 ^ n ≤ 4 ^ 4 from Nat.pow_le_pow_right (by decide) hn
    have hFi : ∀ i, FR S (wf S 52 (VV a n c n) i) := fun i => ⟨fun q h1 _ => wf_p h1, fun k _ => congrFun (wf_p (by decide)) k⟩
    have st0 : TT mX7_findGame (d + 3) 24 [some (.ref 37), some (.int (nI c)), some (.int (nI n)), some (.int (nI (4 ^ n))), some (.int (nI 0)), none] [] (wf S 52 (VV a n c n) 0, L, R) (fun r σ' => r = none ∧ ∃ S', σ' = (S', L, R) ∧ FR S S' ∧ S' 52 0 = zI (100 + GM a n c (a 3 0)) ∧ S' 37 28 = nI (arx (MB a (n - 1) c (a 3 0)) 3)) := ?_
    · rw [wf_0] at st0; exact st0
    refine up_ind (P := fun i => ∀ x5, TT mX7_findGame (d + 3) 24 [some (.ref 37), some (.int (nI c)), some (.int (nI n)), some (.int (nI (4 ^ n))), some (.int (nI i)), x5] [] (wf S 52 (VV a n c n) i, L, R) (fun r σ' => r = none ∧ ∃ S', σ' = (S', L, R) ∧ FR S S' ∧ S' 52 0 = zI (100 + GM a n c (a 3 0)) ∧ S' 37 28 = nI (arx (MB a (n - 1) c (a 3 0)) 3))) (4 ^ n) ?_ ?_ none
    · intro x5
      refine T_ild4 dX7_findGame_24 ?_
      refine T_ild3 dX7_findGame_26 ?_
      refine T_cgeN (tgt := 100) dX7_findGame_27 (by decide) (by omega) (by omega) (fun h27 => ?_) (fun h27 => by exfalso; omega)
      refine T_ild2 dX7_findGame_100 ?_
      refine T_iconst (v := nI 1) dX7_findGame_101 (by decide) ?_
      refine T_isub dX7_findGame_102 ?_
      refine T_ist4 dX7_findGame_103 (by decide) rfl ?_
      skip
      have key : ∀ j, j ≤ n → ∀ S1 x5, FR S S1 → (∀ q, q < 4 ^ j → S1 52 q = VV a n c j q) → (j = 0 → S1 37 28 = nI (arx (MB a (n - 1) c (a 3 0)) 3)) → TT mX7_findGame (d + 3) 105 [some (.ref 37), some (.int (nI c)), some (.int (nI n)), some (.int (nI (4 ^ j))), some (.int (nI j - nI 1)), x5] [] (S1, L, R) (fun r σ' => r = none ∧ ∃ S', σ' = (S', L, R) ∧ FR S S' ∧ S' 52 0 = zI (100 + GM a n c (a 3 0)) ∧ S' 37 28 = nI (arx (MB a (n - 1) c (a 3 0)) 3)) := by
        intro j
        induction j with
        | zero =>
          intro _ S1 x5 hF g1 g3
          refine T_ild4 dX7_findGame_105 ?_
          refine T_iflt (tgt := 160) dX7_findGame_107 (by decide) (fun h107 => ?_) (fun h107 => by exact absurd (by decide) h107)
          refine T_vret dX7_findGame_160 rfl ?_
          exact ⟨rfl, S1, rfl, hF, (g1 0 (by decide)).trans rfl, g3 rfl⟩
        | succ j ihj =>
          intro hjn S1 x5 hF g1 g3
          rw [pk_sub (show 1 ≤ j + 1 by omega), Nat.add_sub_cancel]
          have h4 : 4 ^ (j + 1) / 4 = 4 ^ j := by rw [Nat.pow_succ, Nat.mul_div_cancel _ (by decide)]
          have h4m : 4 ^ (j + 1) = 4 ^ j * 4 := Nat.pow_succ 4 j
          have hjl : 4 ^ j ≤ 64 := show 4 ^ j ≤ 4 ^ 3 from Nat.pow_le_pow_right (by decide) (by omega)
          have hj0 : 0 < 4 ^ j := Nat.pow_pos (by decide)
          refine T_ild4 dX7_findGame_105 ?_
          refine T_ifltN (tgt := 160) dX7_findGame_107 (by decide) (by omega) ?_
          refine T_ild3 dX7_findGame_110 ?_
          refine T_iconst (v := nI 4) dX7_findGame_111 (by decide) ?_
          refine T_idivN dX7_findGame_112 (by omega) (by omega) (by omega) ?_
          rw [h4]
          refine T_ist3 dX7_findGame_113 (by decide) rfl ?_
          refine T_iconst (v := nI 0) dX7_findGame_114 (by decide) ?_
          refine T_ist5 dX7_findGame_115 (by decide) rfl ?_
          skip
          refine up_ind (P := fun i => ∀ S1, FR S S1 → (∀ q, q < i → S1 52 q = VV a n c j q) → (∀ q, i ≤ q → q < 4 ^ (j + 1) → S1 52 q = VV a n c (j + 1) q) → (0 < i → j = 0 → S1 37 28 = nI (arx (MB a (n - 1) c (a 3 0)) 3)) → TT mX7_findGame (d + 3) 117 [some (.ref 37), some (.int (nI c)), some (.int (nI n)), some (.int (nI (4 ^ j))), some (.int (nI j)), some (.int (nI i))] [] (S1, L, R) (fun r σ' => r = none ∧ ∃ S', σ' = (S', L, R) ∧ FR S S' ∧ S' 52 0 = zI (100 + GM a n c (a 3 0)) ∧ S' 37 28 = nI (arx (MB a (n - 1) c (a 3 0)) 3))) (4 ^ j) ?_ ?_ S1 hF (fun q hq => absurd hq (Nat.not_lt_zero q)) (fun q _ h2 => g1 q h2) (fun h => absurd h (Nat.lt_irrefl 0))
          · intro S1 hF g1 g2 g3
            refine T_ild5 dX7_findGame_117 ?_
            refine T_ild3 dX7_findGame_119 ?_
            refine T_cgeN (tgt := 154) dX7_findGame_120 (by decide) (by omega) (by omega) (fun h120 => ?_) (fun h120 => by exfalso; omega)
            refine T_inc4 dX7_findGame_154 (by decide) rfl ?_
            refine T_goto (tgt := 105) dX7_findGame_157 (by decide) ?_
            rw [show nI j + Int32.ofInt (-1) = nI j - nI 1 by rw [Int32.sub_eq_add_neg]; rfl]
            exact ihj (by omega) S1 _ hF g1 (g3 hj0)
          · intro i hi ih S1 hF g1 g2 g3
            have hch : ∀ r, r < 4 → S1 52 (4 * i + r) = vI (ev j) (fF a n c j i r) := fun r hr => (g2 (4 * i + r) (by omega) (by omega)).trans (VV_child hc hr)
            have hVV : vI (ev j) (bo (fF a n c j i) 4) = VV a n c j i := by rw [fF_bo hW (by omega)]; rfl
            by_cases he : j % 2 = 0
            · rw [show ev j = true from decide_eq_true he] at hch hVV
              refine T_ild5 dX7_findGame_117 ?_
              refine T_ild3 dX7_findGame_119 ?_
              refine T_cgeN (tgt := 154) dX7_findGame_120 (by decide) (by omega) (by omega) (fun h120 => by exfalso; omega) (fun h120 => ?_)
              refine T_ald0 dX7_findGame_123 ?_
              refine T_getR (q := 52) dX7_findGame_124 lf_X7_52 rfl rfl rfl ?_
              refine T_ild5 dX7_findGame_127 ?_
              refine T_ald0 dX7_findGame_129 ?_
              refine T_ild5 dX7_findGame_130 ?_
              refine T_ild4 dX7_findGame_132 ?_
              refine T_iconst (v := nI 2) dX7_findGame_134 (by decide) ?_
              refine T_iremN dX7_findGame_135 (by omega) (by omega) (by omega) ?_
              refine T_ifneN (tgt := 143) dX7_findGame_136 (by decide) (by omega) (fun h136 => by exfalso; omega) (fun h136 => ?_)
              refine T_iconst (v := bI true) dX7_findGame_139 (by decide) ?_
              refine T_goto (tgt := 144) dX7_findGame_140 (by decide) ?_
              refine T_invV2 (M' := mX7_bestOf) dX7_findGame_144 ml_X7_207 imX7_bestOf rfl (Nat.le_of_ble_eq_true rfl) rfl (Nat.le_of_ble_eq_true rfl) rfl (Nat.le_of_ble_eq_true rfl) (c_X7_bestOf (row := i) (f := fF a n c j i) (mx := true) (by omega) hch (fF_b hW)) (fun r σ' hq => ?_)
              obtain ⟨y, rfl, rfl, hy⟩ := hq
              refine T_iast dX7_findGame_147 rfl (by show _ < 256; omega) rfl ?_
              refine T_inc5N dX7_findGame_148 (by decide) rfl ?_
              refine T_goto (tgt := 117) dX7_findGame_151 (by decide) ?_
              rw [hVV]
              refine ih _ ⟨fun q h1 h2 => by rw [uI_p h1, uI_p h2]; exact hF.1 q h1 h2, fun k hk => by rw [uI_p (by decide), uI_k hk]; exact hF.2 k hk⟩ (fun q hq => ?_) (fun q h1 h2 => ?_) (fun _ hj0 => ?_)
              · by_cases e : q = i
                · rw [e, uI_s]
                · rw [uI_k e, uI_p (by decide)]; exact g1 q (by omega)
              · rw [uI_k (by omega), uI_p (by decide)]; exact g2 q (by omega) h2
              · rw [uI_p (by decide), uI_s]
                subst hj0
                have hi0 : i = 0 := by rw [Nat.pow_zero] at hi; omega
                have ha := bo_arx (F := MB a (n - 1) c (a 3 0)) (f := fF a n c 0 i) (fun r => by rw [fF_s (x := a 3 0) rfl]; exact fM_gd r) (fF_b hW) 3
                have hb : bo (fF a n c 0 i) 4 ≠ none := by rw [fF_bo hW (by omega), mG_s (x := a 3 0) rfl]; intro h; cases h
                rw [hy hb, ha.2.1 hb]
            · rw [show ev j = false from decide_eq_false he] at hch hVV
              refine T_ild5 dX7_findGame_117 ?_
              refine T_ild3 dX7_findGame_119 ?_
              refine T_cgeN (tgt := 154) dX7_findGame_120 (by decide) (by omega) (by omega) (fun h120 => by exfalso; omega) (fun h120 => ?_)
              refine T_ald0 dX7_findGame_123 ?_
              refine T_getR (q := 52) dX7_findGame_124 lf_X7_52 rfl rfl rfl ?_
              refine T_ild5 dX7_findGame_127 ?_
              refine T_ald0 dX7_findGame_129 ?_
              refine T_ild5 dX7_findGame_130 ?_
              refine T_ild4 dX7_findGame_132 ?_
              refine T_iconst (v := nI 2) dX7_findGame_134 (by decide) ?_
              refine T_iremN dX7_findGame_135 (by omega) (by omega) (by omega) ?_
              refine T_ifneN (tgt := 143) dX7_findGame_136 (by decide) (by omega) (fun h136 => ?_) (fun h136 => by exfalso; omega)
              refine T_iconst (v := bI false) dX7_findGame_143 (by decide) ?_
              refine T_invV2 (M' := mX7_bestOf) dX7_findGame_144 ml_X7_207 imX7_bestOf rfl (Nat.le_of_ble_eq_true rfl) rfl (Nat.le_of_ble_eq_true rfl) rfl (Nat.le_of_ble_eq_true rfl) (c_X7_bestOf (row := i) (f := fF a n c j i) (mx := false) (by omega) hch (fF_b hW)) (fun r σ' hq => ?_)
              obtain ⟨y, rfl, rfl, hy⟩ := hq
              refine T_iast dX7_findGame_147 rfl (by show _ < 256; omega) rfl ?_
              refine T_inc5N dX7_findGame_148 (by decide) rfl ?_
              refine T_goto (tgt := 117) dX7_findGame_151 (by decide) ?_
              rw [hVV]
              refine ih _ ⟨fun q h1 h2 => by rw [uI_p h1, uI_p h2]; exact hF.1 q h1 h2, fun k hk => by rw [uI_p (by decide), uI_k hk]; exact hF.2 k hk⟩ (fun q hq => ?_) (fun q h1 h2 => ?_) (fun _ hj0 => ?_)
              · by_cases e : q = i
                · rw [e, uI_s]
                · rw [uI_k e, uI_p (by decide)]; exact g1 q (by omega)
              · rw [uI_k (by omega), uI_p (by decide)]; exact g2 q (by omega) h2
              · rw [uI_p (by decide), uI_s]
                subst hj0
                have hi0 : i = 0 := by rw [Nat.pow_zero] at hi; omega
                have ha := bo_arx (F := MB a (n - 1) c (a 3 0)) (f := fF a n c 0 i) (fun r => by rw [fF_s (x := a 3 0) rfl]; exact fM_gd r) (fF_b hW) 3
                have hb : bo (fF a n c 0 i) 4 ≠ none := by rw [fF_bo hW (by omega), mG_s (x := a 3 0) rfl]; intro h; cases h
                rw [hy hb, ha.2.1 hb]
      exact key n (Nat.le_refl _) _ _ (hFi _) (fun q hq => wf_i hq) (fun h => by omega)
    · intro i hi ih x5
      have hMi := FR.mv (hFi i) hM
      have cB := c_X7_behindRow (L := L) (R := R) (d := d) (t := n) (row := i) hMi hW hn1 hn (by omega)
      cases e : ph (a 0 0) (a 3 0) n i with
      | none =>
        rw [e] at cB
        have e2 : uI (wf S 52 (VV a n c n) i) 52 i (-9) = wf S 52 (VV a n c n) (i + 1) := by rw [← wf_s, show VV a n c n i = -9 by unfold VV; rw [mG_n e]; rfl]
        refine T_ild4 dX7_findGame_24 ?_
        refine T_ild3 dX7_findGame_26 ?_
        refine T_cgeN (tgt := 100) dX7_findGame_27 (by decide) (by omega) (by omega) (fun h27 => by exfalso; omega) (fun h27 => ?_)
        refine T_ald0 dX7_findGame_30 ?_
        refine T_ild4 dX7_findGame_31 ?_
        refine T_ild2 dX7_findGame_33 ?_
        refine T_invV2i (M' := mX7_behindRow) dX7_findGame_34 ml_X7_204 imX7_behindRow rfl (Nat.le_of_ble_eq_true rfl) rfl (Nat.le_of_ble_eq_true rfl) rfl (Nat.le_of_ble_eq_true rfl) cB ?_
        refine T_ist5 dX7_findGame_37 (by decide) rfl ?_
        refine T_ald0 dX7_findGame_39 ?_
        refine T_getR (q := 52) dX7_findGame_40 lf_X7_52 rfl rfl rfl ?_
        refine T_ild4 dX7_findGame_43 ?_
        refine T_ild5 dX7_findGame_45 ?_
        refine T_bipush (v := -9) dX7_findGame_47 (by decide) ?_
        refine T_cne (tgt := 57) dX7_findGame_49 (by decide) (fun h49 => by exact absurd rfl h49) (fun h49 => ?_)
        refine T_bipush (v := -9) dX7_findGame_52 (by decide) ?_
        refine T_goto (tgt := 93) dX7_findGame_54 (by decide) ?_
        refine T_iast dX7_findGame_93 rfl (by show _ < 256; omega) rfl ?_
        refine T_inc4N dX7_findGame_94 (by decide) rfl ?_
        refine T_goto (tgt := 24) dX7_findGame_97 (by decide) ?_
        rw [e2]; exact ih _
      | some x =>
        rw [e] at cB
        obtain ⟨o1, o2, o3, o4⟩ := ph_ok w8 ⟨wb, wbs, wbp, wne⟩ _ _ _ e
        have l1 := land_le (c := c) (b := x) hW
        have l2 := land_le (c := 1 - c) (b := x) hW
        have e2 : uI (wf S 52 (VV a n c n) i) 52 i (nI (100 + land a c x - land a (1 - c) x)) = wf S 52 (VV a n c n) (i + 1) := by rw [VV_leaf hW hc e]; exact wf_s
        refine T_ild4 dX7_findGame_24 ?_
        refine T_ild3 dX7_findGame_26 ?_
        refine T_cgeN (tgt := 100) dX7_findGame_27 (by decide) (by omega) (by omega) (fun h27 => by exfalso; omega) (fun h27 => ?_)
        refine T_ald0 dX7_findGame_30 ?_
        refine T_ild4 dX7_findGame_31 ?_
        refine T_ild2 dX7_findGame_33 ?_
        refine T_invV2i (M' := mX7_behindRow) dX7_findGame_34 ml_X7_204 imX7_behindRow rfl (Nat.le_of_ble_eq_true rfl) rfl (Nat.le_of_ble_eq_true rfl) rfl (Nat.le_of_ble_eq_true rfl) cB ?_
        refine T_ist5 dX7_findGame_37 (by decide) rfl ?_
        refine T_ald0 dX7_findGame_39 ?_
        refine T_getR (q := 52) dX7_findGame_40 lf_X7_52 rfl rfl rfl ?_
        refine T_ild4 dX7_findGame_43 ?_
        refine T_ild5 dX7_findGame_45 ?_
        refine T_bipush (v := -9) dX7_findGame_47 (by decide) ?_
        refine T_cne (tgt := 57) dX7_findGame_49 (by decide) (fun h49 => ?_) (fun h49 => by exact absurd h49 (nI_m9 (by omega)))
        refine T_bipush (v := nI 100) dX7_findGame_57 (by decide) ?_
        refine T_ald0 dX7_findGame_59 ?_
        refine T_ild1 dX7_findGame_60 ?_
        refine T_ild5 dX7_findGame_61 ?_
        refine T_bipush (v := nI 8) dX7_findGame_63 (by decide) ?_
        refine T_idivN dX7_findGame_65 (by omega) (by omega) (by omega) ?_
        refine T_ild5 dX7_findGame_66 ?_
        refine T_bipush (v := nI 8) dX7_findGame_68 (by decide) ?_
        refine T_iremN dX7_findGame_70 (by omega) (by omega) (by omega) ?_
        refine T_invV3i (M' := mX7_landBy) dX7_findGame_71 ml_X7_165 imX7_landBy rfl (Nat.le_of_ble_eq_true rfl) rfl (Nat.le_of_ble_eq_true rfl) rfl (Nat.le_of_ble_eq_true rfl) (c_X7_landBy hMi hW o1 o2 o3) ?_
        refine T_iaddN dX7_findGame_74 ?_
        refine T_ald0 dX7_findGame_75 ?_
        refine T_iconst (v := nI 1) dX7_findGame_76 (by decide) ?_
        refine T_ild1 dX7_findGame_77 ?_
        refine T_isubN dX7_findGame_78 (by omega) ?_
        refine T_ild5 dX7_findGame_79 ?_
        refine T_bipush (v := nI 8) dX7_findGame_81 (by decide) ?_
        refine T_idivN dX7_findGame_83 (by omega) (by omega) (by omega) ?_
        refine T_ild5 dX7_findGame_84 ?_
        refine T_bipush (v := nI 8) dX7_findGame_86 (by decide) ?_
        refine T_iremN dX7_findGame_88 (by omega) (by omega) (by omega) ?_
        refine T_invV3i (M' := mX7_landBy) dX7_findGame_89 ml_X7_165 imX7_landBy rfl (Nat.le_of_ble_eq_true rfl) rfl (Nat.le_of_ble_eq_true rfl) rfl (Nat.le_of_ble_eq_true rfl) (c_X7_landBy hMi hW o1 o2 o3) ?_
        refine T_isubN dX7_findGame_92 (by omega) ?_
        refine T_iast dX7_findGame_93 rfl (by show _ < 256; omega) rfl ?_
        refine T_inc4N dX7_findGame_94 (by decide) rfl ?_
        refine T_goto (tgt := 24) dX7_findGame_97 (by decide) ?_
        rw [e2]; exact ih _
  · intro i hi ih
    rw [Nat.pow_succ] at ih
    refine T_ild4 dX7_findGame_5 ?_
    refine T_ild2 dX7_findGame_7 ?_
    refine T_cgeN (tgt := 21) dX7_findGame_8 (by decide) (by omega) (by omega) (fun h8 => by exfalso; omega) (fun h8 => ?_)
    refine T_ild3 dX7_findGame_11 ?_
    refine T_iconst (v := nI 4) dX7_findGame_12 (by decide) ?_
    refine T_imulN dX7_findGame_13 ?_
    refine T_ist3 dX7_findGame_14 (by decide) rfl ?_
    refine T_inc4N dX7_findGame_15 (by decide) rfl ?_
    refine T_goto (tgt := 5) dX7_findGame_18 (by decide) ?_
    exact ih
set_option maxRecDepth 20000 in
theorem c_X7_game {S : Nat → Nat → Int32} {L : Nat → Nat → Int64} {R : Nat × Nat × Nat} {d : Nat} {a : Nat → Nat → Nat} (hM : MV S a) (hWF : WFA a) {x n w : Int32} : TT mX7_game (d + 4) 0 [some (.ref 37), some (.int (x)), some (.int (n)), some (.int (w))] [] (S, L, R) (fun r σ' => ∃ S', σ' = (S', L, R) ∧ r = some (.int (aGame a x n w)) ∧ MV S' a ∧ FM S S') := by
  obtain ⟨mg, mdn, mso, msa, mpe, mrn, mgu, mdi, mre⟩ := id hM
  obtain ⟨b8, b6, b3, b64, br8⟩ := hWF.b
  cases hc0 : blw x 2 with
  | false =>
    refine T_ild1 dX7_game_0 ?_
    refine T_invS1i (M' := mX7_isCountry) dX7_game_1 ml_X7_162 imX7_isCountry (Nat.le_of_ble_eq_true rfl) rfl (Nat.le_of_ble_eq_true rfl) c_X7_isCountry ?_
    refine T_ifneB (tgt := 9) dX7_game_4 (by decide) (fun h4 => by rw [hc0] at h4; cases h4) (fun h4 => ?_)
    refine T_iconst (v := -1) dX7_game_7 (by decide) ?_
    refine T_iret dX7_game_8 rfl ?_
    rw [show aGame a x n w = -1 from if_neg (by simp [hc0])]; exact ⟨_, rfl, rfl, hM, FM_r⟩
  | true =>
    obtain ⟨c, hc, rfl⟩ := blw_t hc0
    have ic : ix (nI c) = c := ix_n (by omega)
    cases hb : (blw n 5 && !blw n 1 && blw w 2) with
    | false =>
      refine T_ild1 dX7_game_0 ?_
      refine T_invS1i (M' := mX7_isCountry) dX7_game_1 ml_X7_162 imX7_isCountry (Nat.le_of_ble_eq_true rfl) rfl (Nat.le_of_ble_eq_true rfl) c_X7_isCountry ?_
      refine T_ifneB (tgt := 9) dX7_game_4 (by decide) (fun h4 => ?_) (fun h4 => by rw [hc0] at h4; cases h4)
      refine T_ild2 dX7_game_9 ?_
      refine T_iconst (v := nI 1) dX7_game_10 (by decide) ?_
      refine T_iconst (v := nI 4) dX7_game_11 (by decide) ?_
      refine T_invS3i (M' := mX7_within) dX7_game_12 ml_X7_74 imX7_within (Nat.le_of_ble_eq_true rfl) rfl (Nat.le_of_ble_eq_true rfl) c_within14 ?_
      refine T_ifeqB (tgt := 27) dX7_game_15 (by decide) (fun h15 => ?_) (fun h15 => ?_)
      · refine T_bipush (v := -2) dX7_game_27 (by decide) ?_
        refine T_iret dX7_game_29 rfl ?_
        rw [show aGame a (nI c) n w = -2 from (if_pos hc0).trans (if_neg (by rw [hb]; decide))]; exact ⟨_, rfl, rfl, hM, FM_r⟩
      · refine T_ild3 dX7_game_18 ?_
        refine T_iconst (v := nI 0) dX7_game_19 (by decide) ?_
        refine T_iconst (v := nI 1) dX7_game_20 (by decide) ?_
        refine T_invS3i (M' := mX7_within) dX7_game_21 ml_X7_74 imX7_within (Nat.le_of_ble_eq_true rfl) rfl (Nat.le_of_ble_eq_true rfl) (c_within0 (n := 2) (by decide) rfl) ?_
        refine T_ifneB (tgt := 30) dX7_game_24 (by decide) (fun h24 => ?_) (fun h24 => ?_)
        · exfalso; rw [h15, h24] at hb; cases hb
        · refine T_bipush (v := -2) dX7_game_27 (by decide) ?_
          refine T_iret dX7_game_29 rfl ?_
          rw [show aGame a (nI c) n w = -2 from (if_pos hc0).trans (if_neg (by rw [hb]; decide))]; exact ⟨_, rfl, rfl, hM, FM_r⟩
    | true =>
      have hb2 := hb
      simp only [Bool.and_eq_true, Bool.not_eq_true'] at hb2
      obtain ⟨⟨k1, k2⟩, k3⟩ := hb2
      obtain ⟨m, hm, rfl⟩ := blw_t k1
      obtain ⟨v, hv, rfl⟩ := blw_t k3
      have im : ix (nI m) = m := ix_n (by omega)
      have hm1 : 1 ≤ m := by
        rw [blw_d (by omega) (by decide)] at k2
        have := of_decide_eq_false k2; omega
      have h15x : (blw (nI m) 5 && !blw (nI m) 1) = true := by rw [k1, k2]; rfl
      refine T_ild1 dX7_game_0 ?_
      refine T_invS1i (M' := mX7_isCountry) dX7_game_1 ml_X7_162 imX7_isCountry (Nat.le_of_ble_eq_true rfl) rfl (Nat.le_of_ble_eq_true rfl) c_X7_isCountry ?_
      refine T_ifneB (tgt := 9) dX7_game_4 (by decide) (fun h4 => ?_) (fun h4 => by rw [hc0] at h4; cases h4)
      refine T_ild2 dX7_game_9 ?_
      refine T_iconst (v := nI 1) dX7_game_10 (by decide) ?_
      refine T_iconst (v := nI 4) dX7_game_11 (by decide) ?_
      refine T_invS3i (M' := mX7_within) dX7_game_12 ml_X7_74 imX7_within (Nat.le_of_ble_eq_true rfl) rfl (Nat.le_of_ble_eq_true rfl) c_within14 ?_
      refine T_ifeqB (tgt := 27) dX7_game_15 (by decide) (fun h15 => by rw [h15x] at h15; cases h15) (fun h15 => ?_)
      refine T_ild3 dX7_game_18 ?_
      refine T_iconst (v := nI 0) dX7_game_19 (by decide) ?_
      refine T_iconst (v := nI 1) dX7_game_20 (by decide) ?_
      refine T_invS3i (M' := mX7_within) dX7_game_21 ml_X7_74 imX7_within (Nat.le_of_ble_eq_true rfl) rfl (Nat.le_of_ble_eq_true rfl) (c_within0 (n := 2) (by decide) rfl) ?_
      refine T_ifneB (tgt := 30) dX7_game_24 (by decide) (fun h24 => ?_) (fun h24 => by rw [k3] at h24; cases h24)
      refine T_ald0 dX7_game_30 ?_
      refine T_getN dX7_game_31 lf_X7_78 rfl rfl mg ?_
      refine T_ifneN (tgt := 40) dX7_game_34 (by decide) (by omega) (fun h34 => ?_) (fun h34 => ?_)
      · have hW := hWF.g (by omega)
        obtain ⟨w3, w8, wd1, wd6, wso, wb, wbs, wbp, wne, wrn, wgu, wdi, wre⟩ := id hW
        refine T_ald0 dX7_game_40 ?_
        refine T_ild1 dX7_game_41 ?_
        refine T_ild2 dX7_game_42 ?_
        refine T_invV2 (M' := mX7_findGame) dX7_game_43 ml_X7_214 imX7_findGame rfl (Nat.le_of_ble_eq_true rfl) rfl (Nat.le_of_ble_eq_true rfl) rfl (Nat.le_of_ble_eq_true rfl) (c_X7_findGame hM hW (by omega) (by omega) (by omega)) (fun r σ' hq => ?_)
        obtain ⟨rfl, S2, rfl, hF, q1, q2⟩ := hq
        refine T_ild3 dX7_game_46 ?_
        refine T_ifneN (tgt := 59) dX7_game_47 (by decide) (by omega) (fun h47 => ?_) (fun h47 => ?_)
        · refine T_ald0 dX7_game_59 ?_
          refine T_getV dX7_game_60 lf_X7_211 rfl rfl q2 ?_
          refine T_iret dX7_game_63 rfl ?_
          first
            | (rw [show aGame a (nI c) (nI m) (nI v) = zI (100 + GM a m c (a 3 0)) from (if_pos hc0).trans ((if_pos hb).trans ((if_neg h34).trans ((if_pos (by rw [h47])).trans (by rw [ic, im, nI_zI, zI_add]; rfl))))]; exact ⟨_, rfl, rfl, hF.mv hM, hF.fm⟩)
            | (rw [show aGame a (nI c) (nI m) (nI v) = nI (arx (MB a (m - 1) c (a 3 0)) 3) from (if_pos hc0).trans ((if_pos hb).trans ((if_neg h34).trans ((if_neg (fun e => h47 (nI_inj (by omega) (by decide) e))).trans (by rw [ic, im]))))]; exact ⟨_, rfl, rfl, hF.mv hM, hF.fm⟩)
            | fail "leaf"
        · refine T_ald0 dX7_game_50 ?_
          refine T_getR (q := 52) dX7_game_51 lf_X7_52 rfl rfl rfl ?_
          refine T_iconst (v := nI 0) dX7_game_54 (by decide) ?_
          refine T_ialdV dX7_game_55 rfl (by show _ < 256; omega) q1 ?_
          refine T_goto (tgt := 63) dX7_game_56 (by decide) ?_
          refine T_iret dX7_game_63 rfl ?_
          first
            | (rw [show aGame a (nI c) (nI m) (nI v) = zI (100 + GM a m c (a 3 0)) from (if_pos hc0).trans ((if_pos hb).trans ((if_neg h34).trans ((if_pos (by rw [h47])).trans (by rw [ic, im, nI_zI, zI_add]; rfl))))]; exact ⟨_, rfl, rfl, hF.mv hM, hF.fm⟩)
            | (rw [show aGame a (nI c) (nI m) (nI v) = nI (arx (MB a (m - 1) c (a 3 0)) 3) from (if_pos hc0).trans ((if_pos hb).trans ((if_neg h34).trans ((if_neg (fun e => h47 (nI_inj (by omega) (by decide) e))).trans (by rw [ic, im]))))]; exact ⟨_, rfl, rfl, hF.mv hM, hF.fm⟩)
            | fail "leaf"
      · refine T_bipush (v := -3) dX7_game_37 (by decide) ?_
        refine T_iret dX7_game_39 rfl ?_
        rw [show aGame a (nI c) (nI m) (nI v) = -3 from (if_pos hc0).trans ((if_pos hb).trans (if_pos h34))]; exact ⟨_, rfl, rfl, hM, FM_r⟩
