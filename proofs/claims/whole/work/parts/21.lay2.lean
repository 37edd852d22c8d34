/-! the loops over guests and dishes, the whole text -/
def PF (l : List Nat) (S S' : Nat → Nat → Int32) : Prop := ∀ q, q ∉ l → S' q = S q
theorem PF_OF {l : List Nat} {m : List (Nat × Nat)} {S S1 S2 : Nat → Nat → Int32} (h : PF l S S1) (o : OF m S1 S2) (hm : ∀ x ∈ m, x.1 ∈ l) : PF l S S2 := by
  intro q hq
  rw [← h q hq]
  funext k
  exact o q k (fun hx => hq (hm _ hx))
theorem RD_OF {S1 S2 : Nat → Nat → Int32} {j f n t t' : Nat} {co : Nat → Int32} {m : List (Nat × Nat)} (h : RD S1 j f n t co) (o : OF m S1 S2) (h1 : (10, 1) ∉ m) (h2 : (10, 2) ∉ m) (h6 : ∀ k, (6 + j, k) ∉ m) (h3 : S2 10 3 = nI t') : RD S2 j f n t' co :=
  ⟨(o 10 1 h1).trans h.1, (o 10 2 h2).trans h.2.1, h3, fun k hk => (o (6 + j) (f + k) (h6 _)).trans (h.2.2.2 k hk)⟩
def gph (n : Nat) (co : Nat → Int32) : Nat → Bool × Nat
  | 0 => (true, 8)
  | k + 1 => if 3 ≤ 7 - k ∧ sg n co (2 + 4 * (7 - k)) (nI 47) = true then (true, 7 - k) else if pGf n co (2 + 4 * (7 - k)) = 4 then gph n co k else (false, 2 + 4 * (7 - k) + pGf n co (2 + 4 * (7 - k)))
theorem gph_at {n : Nat} {co : Nat → Int32} {i : Nat} (hi : i < 8) : gph n co (8 - i) = if 3 ≤ i ∧ sg n co (2 + 4 * i) (nI 47) = true then (true, i) else if pGf n co (2 + 4 * i) = 4 then gph n co (8 - (i + 1)) else (false, 2 + 4 * i + pGf n co (2 + 4 * i)) := by
  rw [show 8 - i = (7 - i) + 1 by omega, show 8 - (i + 1) = 7 - i by omega]
  show (if _ then _ else _) = _
  rw [show 7 - (7 - i) = i by omega]
def dph (n : Nat) (co : Nat → Int32) (g : Nat) : Nat → Bool × Nat
  | 0 => (true, 6)
  | k + 1 => if 0 < 5 - k ∧ n ≤ 5 + 4 * g + 3 * (5 - k) then (true, 5 - k) else if pDf n co g (5 + 4 * g + 3 * (5 - k)) = 3 then dph n co g k else (false, 5 + 4 * g + 3 * (5 - k) + pDf n co g (5 + 4 * g + 3 * (5 - k)))
theorem dph_at {n g : Nat} {co : Nat → Int32} {i : Nat} (hi : i < 6) : dph n co g (6 - i) = if 0 < i ∧ n ≤ 5 + 4 * g + 3 * i then (true, i) else if pDf n co g (5 + 4 * g + 3 * i) = 3 then dph n co g (6 - (i + 1)) else (false, 5 + 4 * g + 3 * i + pDf n co g (5 + 4 * g + 3 * i)) := by
  rw [show 6 - i = (5 - i) + 1 by omega, show 6 - (i + 1) = 5 - i by omega]
  show (if _ then _ else _) = _
  rw [show 5 - (5 - i) = i by omega]
theorem pGf_lt {n t : Nat} {co : Nat → Int32} (h : pGf n co t = 4) : t + 4 ≤ n := by
  unfold pGf at h
  split at h; · cases h
  split at h; · cases h
  split at h; · cases h
  split at h; · cases h
  rename_i q
  cases e : dgt n co (t + 3) 4 with
  | none => exact absurd e q
  | some v => have := (dgt_some (by decide) e).1; omega
theorem pDf_lt {n g t : Nat} {co : Nat → Int32} (h : pDf n co g t = 3) : t + 3 ≤ n := by
  unfold pDf at h
  split at h; · cases h
  split at h; · cases h
  split at h; · cases h
  rename_i q
  cases e : dgt n co (t + 2) 10 with
  | none => exact absurd e q
  | some v => have := (dgt_some (by decide) e).1; omega
def GC (S : Nat → Nat → Int32) (T n : Nat) (co : Nat → Int32) (m : Nat) : Prop := ∀ k, k < m → S (T + 1) k = nI (kv n co (2 + 4 * k + 1)) ∧ S (T + 2) k = nI (dv n co (2 + 4 * k + 2) 10) ∧ S (T + 3) k = nI (dv n co (2 + 4 * k + 3) 4)
def DC (S : Nat → Nat → Int32) (T n : Nat) (co : Nat → Int32) (g m : Nat) : Prop := ∀ k, k < m → S (T + 5) k = nI (dv n co (5 + 4 * g + 3 * k + 1) g) ∧ S (T + 6) k = nI (dv n co (5 + 4 * g + 3 * k + 2) 10)
set_option maxRecDepth 20000 in
theorem c_X4_layGuests {S : Nat → Nat → Int32} {L : Nat → Nat → Int64} {nw sp : Nat} {d : Nat} {T : Nat} (hT : T = 19 ∨ T = 28) {j f n : Nat} {co : Nat → Int32} (hj : j < 4) (hfn : f + n ≤ 60) (hR : RD S j f n 2 co) (h2n : 2 ≤ n) : TT mX4_layGuests (d + 4) 0 [some (.ref T), some (.ref 10), none] [] (S, L, (nw, sp, 6 + j)) (fun r σ' => ∃ S', σ' = (S', L, (nw, sp, 6 + j)) ∧ PF [10, T, T + 1, T + 2, T + 3] S S' ∧ (∀ k, k ≠ 8 → S' T k = S T k) ∧ r = some (.int (bI (gph n co 8).1)) ∧ ((gph n co 8).1 = true → S' T 8 = nI (gph n co 8).2 ∧ RD S' j f n (2 + 4 * (gph n co 8).2) co ∧ 2 + 4 * (gph n co 8).2 ≤ n ∧ 3 ≤ (gph n co 8).2 ∧ (gph n co 8).2 ≤ 8 ∧ GC S' T n co (gph n co 8).2) ∧ ((gph n co 8).1 = false → S' 10 3 = nI (gph n co 8).2)) := by
  refine T_iconst (v := nI 0) dX4_layGuests_0 (by decide) ?_
  refine T_ist2 dX4_layGuests_1 (by decide) rfl ?_
  skip
  refine up_ind (P := fun i => ∀ S1, RD S1 j f n (2 + 4 * i) co → 2 + 4 * i ≤ n → PF [10, T + 1, T + 2, T + 3] S S1 → GC S1 T n co i → gph n co (8 - i) = gph n co 8 → TT mX4_layGuests (d + 4) 2 [some (.ref T), some (.ref 10), some (.int (nI i))] [] (S1, L, (nw, sp, 6 + j)) (fun r σ' => ∃ S', σ' = (S', L, (nw, sp, 6 + j)) ∧ PF [10, T, T + 1, T + 2, T + 3] S S' ∧ (∀ k, k ≠ 8 → S' T k = S T k) ∧ r = some (.int (bI (gph n co 8).1)) ∧ ((gph n co 8).1 = true → S' T 8 = nI (gph n co 8).2 ∧ RD S' j f n (2 + 4 * (gph n co 8).2) co ∧ 2 + 4 * (gph n co 8).2 ≤ n ∧ 3 ≤ (gph n co 8).2 ∧ (gph n co 8).2 ≤ 8 ∧ GC S' T n co (gph n co 8).2) ∧ ((gph n co 8).1 = false → S' 10 3 = nI (gph n co 8).2))) 8 ?_ ?_ S hR (by omega) (fun _ _ => rfl) (fun k hk => absurd hk (Nat.not_lt_zero k)) rfl
  · intro S1 g1 g2 g3 g4 hgp
    refine T_ild2 dX4_layGuests_2 ?_
    refine T_bipush (v := nI 8) dX4_layGuests_3 (by decide) ?_
    refine T_cgeN (tgt := 39) dX4_layGuests_5 (by decide) (by omega) (by omega) (fun h5 => ?_) (fun h5 => by exfalso; omega)
    refine T_ald0 dX4_layGuests_39 ?_
    refine T_ild2 dX4_layGuests_40 ?_
    refine T_putI dX4_layGuests_41 lf_X4_36 (kT hT) rfl rfl rfl ?_
    refine T_iconst (v := bI true) dX4_layGuests_44 (by decide) ?_
    refine T_bretB dX4_layGuests_45 rfl ?_
    have hgp : ((true, 8) : Bool × Nat) = gph n co 8 := hgp
    refine ⟨_, rfl, fun q hq => ?_, fun k hk => ?_, (by rw [← hgp] <;> rfl), fun _ => ?_, fun h => (by rw [← hgp] at h; cases h)⟩
    · rw [uI_p (fun e => hq (by rw [e]; simp)), g3 q (fun h => hq (by simp at h ⊢; omega))]
    · rw [uI_k hk, g3 T (by simp <;> omega)]
    · rw [← hgp]
      exact ⟨uI_s, g1.off (by omega) (by omega), g2, by omega, by omega, fun k hk => by rw [uI_p (by omega), uI_p (by omega), uI_p (by omega)]; exact g4 k hk⟩
  · intro i hi ih S1 g1 g2 g3 g4 hgp
    have hgi := gph_at (n := n) (co := co) hi
    by_cases hc : 3 ≤ i ∧ sg n co (2 + 4 * i) (nI 47) = true
    · rw [if_pos hc] at hgi
      refine T_ild2 dX4_layGuests_2 ?_
      refine T_bipush (v := nI 8) dX4_layGuests_3 (by decide) ?_
      refine T_cgeN (tgt := 39) dX4_layGuests_5 (by decide) (by omega) (by omega) (fun h5 => by exfalso; omega) (fun h5 => ?_)
      refine T_ild2 dX4_layGuests_8 ?_
      refine T_iconst (v := nI 3) dX4_layGuests_9 (by decide) ?_
      refine T_cltN (tgt := 22) dX4_layGuests_10 (by decide) (by omega) (by omega) (fun h10 => by exfalso; omega) (fun h10 => ?_)
      refine T_ald1 dX4_layGuests_13 ?_
      refine T_bipush (v := nI 47) dX4_layGuests_14 (by decide) ?_
      refine T_invV1i (M' := mX5_isAt) dX4_layGuests_16 ml_X4_73 imX5_isAt rfl (Nat.le_of_ble_eq_true rfl) rfl (Nat.le_of_ble_eq_true rfl) rfl (Nat.le_of_ble_eq_true rfl) (c_X5_isAt hj hfn g1.1 g1.2.1 g1.2.2.1 (by omega) g1.2.2.2) ?_
      refine T_ifneB (tgt := 39) dX4_layGuests_19 (by decide) (fun h19 => ?_) (fun h19 => by rw [hc.2] at h19; cases h19)
      refine T_ald0 dX4_layGuests_39 ?_
      refine T_ild2 dX4_layGuests_40 ?_
      refine T_putI dX4_layGuests_41 lf_X4_36 (kT hT) rfl rfl rfl ?_
      refine T_iconst (v := bI true) dX4_layGuests_44 (by decide) ?_
      refine T_bretB dX4_layGuests_45 rfl ?_
      rw [hgi] at hgp
      refine ⟨_, rfl, fun q hq => ?_, fun k hk => ?_, (by rw [← hgp] <;> rfl), fun _ => ?_, fun h => (by rw [← hgp] at h; cases h)⟩
      · rw [uI_p (fun e => hq (by rw [e]; simp)), g3 q (fun h => hq (by simp at h ⊢; omega))]
      · rw [uI_k hk, g3 T (by simp <;> omega)]
      · rw [← hgp]
        exact ⟨uI_s, g1.off (by omega) (by omega), g2, by omega, by omega, fun k hk => by rw [uI_p (by omega), uI_p (by omega), uI_p (by omega)]; exact g4 k hk⟩
    · rw [if_neg hc] at hgi
      by_cases hp : pGf n co (2 + 4 * i) = 4
      · skip
        refine T_ild2 dX4_layGuests_2 ?_
        refine T_bipush (v := nI 8) dX4_layGuests_3 (by decide) ?_
        refine T_cgeN (tgt := 39) dX4_layGuests_5 (by decide) (by omega) (by omega) (fun h5 => by exfalso; omega) (fun h5 => ?_)
        refine T_ild2 dX4_layGuests_8 ?_
        refine T_iconst (v := nI 3) dX4_layGuests_9 (by decide) ?_
        refine T_cltN (tgt := 22) dX4_layGuests_10 (by decide) (by omega) (by omega) (fun h10 => ?_) (fun h10 => ?_)
        · refine T_ald0 dX4_layGuests_22 ?_
          refine T_ald1 dX4_layGuests_23 ?_
          refine T_ild2 dX4_layGuests_24 ?_
          refine T_invV2 (M' := mX4_layGuest) dX4_layGuests_25 ml_X4_76 imX4_layGuest (kT hT) (Nat.le_of_ble_eq_true rfl) rfl (Nat.le_of_ble_eq_true rfl) rfl (Nat.le_of_ble_eq_true rfl) (c_X4_layGuest hT hj hfn g1 g2 hi) (fun r σ' hq => ?_)
          obtain ⟨S2, rfl, o1, rfl, o3, o4⟩ := hq
          refine T_ifneB (tgt := 33) dX4_layGuests_28 (by decide) (fun h28 => ?_) (fun h28 => by rw [hp] at h28; cases h28)
          refine T_inc2N dX4_layGuests_33 (by decide) rfl ?_
          refine T_goto (tgt := 2) dX4_layGuests_36 (by decide) ?_
          have hl := pGf_lt hp
          rw [if_pos hp] at hgi
          rw [hp] at o3
          refine ih S2 (RD_OF g1 o1 (by simp <;> omega) (by simp <;> omega) (fun k => by simp <;> omega) (by rw [o3]; congr 1)) (by omega) (PF_OF g3 o1 (by simp)) (fun k hk => ?_) (by rw [← hgi]; exact hgp)
          by_cases e : k = i
          · subst e; exact o4 hp
          · have q := g4 k (by omega)
            rw [o1 (T + 1) k (by simp <;> omega), o1 (T + 2) k (by simp <;> omega), o1 (T + 3) k (by simp <;> omega)]
            exact q
        · refine T_ald1 dX4_layGuests_13 ?_
          refine T_bipush (v := nI 47) dX4_layGuests_14 (by decide) ?_
          refine T_invV1i (M' := mX5_isAt) dX4_layGuests_16 ml_X4_73 imX5_isAt rfl (Nat.le_of_ble_eq_true rfl) rfl (Nat.le_of_ble_eq_true rfl) rfl (Nat.le_of_ble_eq_true rfl) (c_X5_isAt hj hfn g1.1 g1.2.1 g1.2.2.1 (by omega) g1.2.2.2) ?_
          refine T_ifneB (tgt := 39) dX4_layGuests_19 (by decide) (fun h19 => by exact absurd ⟨by omega, h19⟩ hc) (fun h19 => ?_)
          refine T_ald0 dX4_layGuests_22 ?_
          refine T_ald1 dX4_layGuests_23 ?_
          refine T_ild2 dX4_layGuests_24 ?_
          refine T_invV2 (M' := mX4_layGuest) dX4_layGuests_25 ml_X4_76 imX4_layGuest (kT hT) (Nat.le_of_ble_eq_true rfl) rfl (Nat.le_of_ble_eq_true rfl) rfl (Nat.le_of_ble_eq_true rfl) (c_X4_layGuest hT hj hfn g1 g2 hi) (fun r σ' hq => ?_)
          obtain ⟨S2, rfl, o1, rfl, o3, o4⟩ := hq
          refine T_ifneB (tgt := 33) dX4_layGuests_28 (by decide) (fun h28 => ?_) (fun h28 => by rw [hp] at h28; cases h28)
          refine T_inc2N dX4_layGuests_33 (by decide) rfl ?_
          refine T_goto (tgt := 2) dX4_layGuests_36 (by decide) ?_
          have hl := pGf_lt hp
          rw [if_pos hp] at hgi
          rw [hp] at o3
          refine ih S2 (RD_OF g1 o1 (by simp <;> omega) (by simp <;> omega) (fun k => by simp <;> omega) (by rw [o3]; congr 1)) (by omega) (PF_OF g3 o1 (by simp)) (fun k hk => ?_) (by rw [← hgi]; exact hgp)
          by_cases e : k = i
          · subst e; exact o4 hp
          · have q := g4 k (by omega)
            rw [o1 (T + 1) k (by simp <;> omega), o1 (T + 2) k (by simp <;> omega), o1 (T + 3) k (by simp <;> omega)]
            exact q
      · skip
        refine T_ild2 dX4_layGuests_2 ?_
        refine T_bipush (v := nI 8) dX4_layGuests_3 (by decide) ?_
        refine T_cgeN (tgt := 39) dX4_layGuests_5 (by decide) (by omega) (by omega) (fun h5 => by exfalso; omega) (fun h5 => ?_)
        refine T_ild2 dX4_layGuests_8 ?_
        refine T_iconst (v := nI 3) dX4_layGuests_9 (by decide) ?_
        refine T_cltN (tgt := 22) dX4_layGuests_10 (by decide) (by omega) (by omega) (fun h10 => ?_) (fun h10 => ?_)
        · refine T_ald0 dX4_layGuests_22 ?_
          refine T_ald1 dX4_layGuests_23 ?_
          refine T_ild2 dX4_layGuests_24 ?_
          refine T_invV2 (M' := mX4_layGuest) dX4_layGuests_25 ml_X4_76 imX4_layGuest (kT hT) (Nat.le_of_ble_eq_true rfl) rfl (Nat.le_of_ble_eq_true rfl) rfl (Nat.le_of_ble_eq_true rfl) (c_X4_layGuest hT hj hfn g1 g2 hi) (fun r σ' hq => ?_)
          obtain ⟨S2, rfl, o1, rfl, o3, o4⟩ := hq
          refine T_ifneB (tgt := 33) dX4_layGuests_28 (by decide) (fun h28 => by exact absurd (of_decide_eq_true h28) hp) (fun h28 => ?_)
          refine T_iconst (v := bI false) dX4_layGuests_31 (by decide) ?_
          refine T_bretB dX4_layGuests_32 rfl ?_
          rw [if_neg hp] at hgi
          rw [hgi] at hgp
          refine ⟨S2, rfl, fun q hq => ?_, fun k hk => ?_, (by rw [← hgp] <;> rfl), fun h => (by rw [← hgp] at h; cases h), fun _ => (by rw [← hgp]; exact o3)⟩
          · exact PF_OF g3 o1 (by simp) q (fun h => hq (by simp at h ⊢; omega))
          · rw [PF_OF g3 o1 (by simp) T (by simp <;> omega)]
        · refine T_ald1 dX4_layGuests_13 ?_
          refine T_bipush (v := nI 47) dX4_layGuests_14 (by decide) ?_
          refine T_invV1i (M' := mX5_isAt) dX4_layGuests_16 ml_X4_73 imX5_isAt rfl (Nat.le_of_ble_eq_true rfl) rfl (Nat.le_of_ble_eq_true rfl) rfl (Nat.le_of_ble_eq_true rfl) (c_X5_isAt hj hfn g1.1 g1.2.1 g1.2.2.1 (by omega) g1.2.2.2) ?_
          refine T_ifneB (tgt := 39) dX4_layGuests_19 (by decide) (fun h19 => by exact absurd ⟨by omega, h19⟩ hc) (fun h19 => ?_)
          refine T_ald0 dX4_layGuests_22 ?_
          refine T_ald1 dX4_layGuests_23 ?_
          refine T_ild2 dX4_layGuests_24 ?_
          refine T_invV2 (M' := mX4_layGuest) dX4_layGuests_25 ml_X4_76 imX4_layGuest (kT hT) (Nat.le_of_ble_eq_true rfl) rfl (Nat.le_of_ble_eq_true rfl) rfl (Nat.le_of_ble_eq_true rfl) (c_X4_layGuest hT hj hfn g1 g2 hi) (fun r σ' hq => ?_)
          obtain ⟨S2, rfl, o1, rfl, o3, o4⟩ := hq
          refine T_ifneB (tgt := 33) dX4_layGuests_28 (by decide) (fun h28 => by exact absurd (of_decide_eq_true h28) hp) (fun h28 => ?_)
          refine T_iconst (v := bI false) dX4_layGuests_31 (by decide) ?_
          refine T_bretB dX4_layGuests_32 rfl ?_
          rw [if_neg hp] at hgi
          rw [hgi] at hgp
          refine ⟨S2, rfl, fun q hq => ?_, fun k hk => ?_, (by rw [← hgp] <;> rfl), fun h => (by rw [← hgp] at h; cases h), fun _ => (by rw [← hgp]; exact o3)⟩
          · exact PF_OF g3 o1 (by simp) q (fun h => hq (by simp at h ⊢; omega))
          · rw [PF_OF g3 o1 (by simp) T (by simp <;> omega)]
set_option maxRecDepth 20000 in
theorem c_X4_layDishes {S : Nat → Nat → Int32} {L : Nat → Nat → Int64} {nw sp : Nat} {d : Nat} {T : Nat} (hT : T = 19 ∨ T = 28) {j f n : Nat} {co : Nat → Int32} (hj : j < 4) (hfn : f + n ≤ 60) {g : Nat} (hg : S T 8 = nI g) (hg10 : g ≤ 10) (hR : RD S j f n (5 + 4 * g) co) (h2n : 5 + 4 * g ≤ n) : TT mX4_layDishes (d + 4) 0 [some (.ref T), some (.ref 10), none] [] (S, L, (nw, sp, 6 + j)) (fun r σ' => ∃ S', σ' = (S', L, (nw, sp, 6 + j)) ∧ PF [10, T, T + 5, T + 6] S S' ∧ (∀ k, k ≠ 9 → S' T k = S T k) ∧ r = some (.int (bI (dph n co g 6).1)) ∧ ((dph n co g 6).1 = true → S' T 9 = nI (dph n co g 6).2 ∧ RD S' j f n (5 + 4 * g + 3 * (dph n co g 6).2) co ∧ 5 + 4 * g + 3 * (dph n co g 6).2 ≤ n ∧ 1 ≤ (dph n co g 6).2 ∧ (dph n co g 6).2 ≤ 6 ∧ DC S' T n co g (dph n co g 6).2) ∧ ((dph n co g 6).1 = false → S' 10 3 = nI (dph n co g 6).2)) := by
  refine T_iconst (v := nI 0) dX4_layDishes_0 (by decide) ?_
  refine T_ist2 dX4_layDishes_1 (by decide) rfl ?_
  skip
  refine up_ind (P := fun i => ∀ S1, RD S1 j f n (5 + 4 * g + 3 * i) co → 5 + 4 * g + 3 * i ≤ n → PF [10, T + 5, T + 6] S S1 → DC S1 T n co g i → dph n co g (6 - i) = dph n co g 6 → TT mX4_layDishes (d + 4) 2 [some (.ref T), some (.ref 10), some (.int (nI i))] [] (S1, L, (nw, sp, 6 + j)) (fun r σ' => ∃ S', σ' = (S', L, (nw, sp, 6 + j)) ∧ PF [10, T, T + 5, T + 6] S S' ∧ (∀ k, k ≠ 9 → S' T k = S T k) ∧ r = some (.int (bI (dph n co g 6).1)) ∧ ((dph n co g 6).1 = true → S' T 9 = nI (dph n co g 6).2 ∧ RD S' j f n (5 + 4 * g + 3 * (dph n co g 6).2) co ∧ 5 + 4 * g + 3 * (dph n co g 6).2 ≤ n ∧ 1 ≤ (dph n co g 6).2 ∧ (dph n co g 6).2 ≤ 6 ∧ DC S' T n co g (dph n co g 6).2) ∧ ((dph n co g 6).1 = false → S' 10 3 = nI (dph n co g 6).2))) 6 ?_ ?_ S hR (by omega) (fun _ _ => rfl) (fun k hk => absurd hk (Nat.not_lt_zero k)) rfl
  · intro S1 g1 g2 g3 g4 hgp
    refine T_ild2 dX4_layDishes_2 ?_
    refine T_bipush (v := nI 6) dX4_layDishes_3 (by decide) ?_
    refine T_cgeN (tgt := 36) dX4_layDishes_5 (by decide) (by omega) (by omega) (fun h5 => ?_) (fun h5 => by exfalso; omega)
    refine T_ald0 dX4_layDishes_36 ?_
    refine T_ild2 dX4_layDishes_37 ?_
    refine T_putI dX4_layDishes_38 lf_X4_97 (kT hT) rfl rfl rfl ?_
    refine T_iconst (v := bI true) dX4_layDishes_41 (by decide) ?_
    refine T_bretB dX4_layDishes_42 rfl ?_
    have hgp : ((true, 6) : Bool × Nat) = dph n co g 6 := hgp
    refine ⟨_, rfl, fun q hq => ?_, fun k hk => ?_, (by rw [← hgp] <;> rfl), fun _ => ?_, fun h => (by rw [← hgp] at h; cases h)⟩
    · rw [uI_p (fun e => hq (by rw [e]; simp)), g3 q (fun h => hq (by simp at h ⊢; omega))]
    · rw [uI_k hk, g3 T (by simp <;> omega)]
    · rw [← hgp]
      exact ⟨uI_s, g1.off (by omega) (by omega), g2, by omega, by omega, fun k hk => by rw [uI_p (by omega), uI_p (by omega)]; exact g4 k hk⟩
  · intro i hi ih S1 g1 g2 g3 g4 hgp
    have hgi := dph_at (n := n) (co := co) (g := g) hi
    by_cases hc : 0 < i ∧ n ≤ 5 + 4 * g + 3 * i
    · rw [if_pos hc] at hgi
      refine T_ild2 dX4_layDishes_2 ?_
      refine T_bipush (v := nI 6) dX4_layDishes_3 (by decide) ?_
      refine T_cgeN (tgt := 36) dX4_layDishes_5 (by decide) (by omega) (by omega) (fun h5 => by exfalso; omega) (fun h5 => ?_)
      refine T_ild2 dX4_layDishes_8 ?_
      refine T_ifleN (tgt := 19) dX4_layDishes_9 (by decide) (by omega) (fun h9 => by exfalso; omega) (fun h9 => ?_)
      refine T_ald1 dX4_layDishes_12 ?_
      refine T_invV0i (M' := mX5_isAtEnd) dX4_layDishes_13 ml_X4_62 imX5_isAtEnd rfl (Nat.le_of_ble_eq_true rfl) rfl (Nat.le_of_ble_eq_true rfl) rfl (Nat.le_of_ble_eq_true rfl) (c_X5_isAtEnd g1.2.1 g1.2.2.1 (by omega) (by omega)) ?_
      refine T_ifneB (tgt := 36) dX4_layDishes_16 (by decide) (fun h16 => ?_) (fun h16 => by exact absurd hc.2 (of_decide_eq_false h16))
      refine T_ald0 dX4_layDishes_36 ?_
      refine T_ild2 dX4_layDishes_37 ?_
      refine T_putI dX4_layDishes_38 lf_X4_97 (kT hT) rfl rfl rfl ?_
      refine T_iconst (v := bI true) dX4_layDishes_41 (by decide) ?_
      refine T_bretB dX4_layDishes_42 rfl ?_
      rw [hgi] at hgp
      refine ⟨_, rfl, fun q hq => ?_, fun k hk => ?_, (by rw [← hgp] <;> rfl), fun _ => ?_, fun h => (by rw [← hgp] at h; cases h)⟩
      · rw [uI_p (fun e => hq (by rw [e]; simp)), g3 q (fun h => hq (by simp at h ⊢; omega))]
      · rw [uI_k hk, g3 T (by simp <;> omega)]
      · rw [← hgp]
        exact ⟨uI_s, g1.off (by omega) (by omega), g2, by omega, by omega, fun k hk => by rw [uI_p (by omega), uI_p (by omega)]; exact g4 k hk⟩
    · rw [if_neg hc] at hgi
      by_cases hp : pDf n co g (5 + 4 * g + 3 * i) = 3
      · skip
        refine T_ild2 dX4_layDishes_2 ?_
        refine T_bipush (v := nI 6) dX4_layDishes_3 (by decide) ?_
        refine T_cgeN (tgt := 36) dX4_layDishes_5 (by decide) (by omega) (by omega) (fun h5 => by exfalso; omega) (fun h5 => ?_)
        refine T_ild2 dX4_layDishes_8 ?_
        refine T_ifleN (tgt := 19) dX4_layDishes_9 (by decide) (by omega) (fun h9 => ?_) (fun h9 => ?_)
        · refine T_ald0 dX4_layDishes_19 ?_
          refine T_ald1 dX4_layDishes_20 ?_
          refine T_ild2 dX4_layDishes_21 ?_
          refine T_invV2 (M' := mX4_layDish) dX4_layDishes_22 ml_X4_94 imX4_layDish (kT hT) (Nat.le_of_ble_eq_true rfl) rfl (Nat.le_of_ble_eq_true rfl) rfl (Nat.le_of_ble_eq_true rfl) (c_X4_layDish hT hj hfn g1 g2 hi (by rw [g3 T (by simp <;> omega)]; exact hg) hg10) (fun r σ' hq => ?_)
          obtain ⟨S2, rfl, o1, rfl, o3, o4⟩ := hq
          refine T_ifneB (tgt := 30) dX4_layDishes_25 (by decide) (fun h25 => ?_) (fun h25 => by rw [hp] at h25; cases h25)
          refine T_inc2N dX4_layDishes_30 (by decide) rfl ?_
          refine T_goto (tgt := 2) dX4_layDishes_33 (by decide) ?_
          have hl := pDf_lt hp
          rw [if_pos hp] at hgi
          rw [hp] at o3
          refine ih S2 (RD_OF g1 o1 (by simp <;> omega) (by simp <;> omega) (fun k => by simp <;> omega) (by rw [o3]; congr 1)) (by omega) (PF_OF g3 o1 (by simp)) (fun k hk => ?_) (by rw [← hgi]; exact hgp)
          by_cases e : k = i
          · subst e; exact o4 hp
          · have q := g4 k (by omega)
            rw [o1 (T + 5) k (by simp <;> omega), o1 (T + 6) k (by simp <;> omega)]
            exact q
        · refine T_ald1 dX4_layDishes_12 ?_
          refine T_invV0i (M' := mX5_isAtEnd) dX4_layDishes_13 ml_X4_62 imX5_isAtEnd rfl (Nat.le_of_ble_eq_true rfl) rfl (Nat.le_of_ble_eq_true rfl) rfl (Nat.le_of_ble_eq_true rfl) (c_X5_isAtEnd g1.2.1 g1.2.2.1 (by omega) (by omega)) ?_
          refine T_ifneB (tgt := 36) dX4_layDishes_16 (by decide) (fun h16 => by exact absurd ⟨by omega, of_decide_eq_true h16⟩ hc) (fun h16 => ?_)
          refine T_ald0 dX4_layDishes_19 ?_
          refine T_ald1 dX4_layDishes_20 ?_
          refine T_ild2 dX4_layDishes_21 ?_
          refine T_invV2 (M' := mX4_layDish) dX4_layDishes_22 ml_X4_94 imX4_layDish (kT hT) (Nat.le_of_ble_eq_true rfl) rfl (Nat.le_of_ble_eq_true rfl) rfl (Nat.le_of_ble_eq_true rfl) (c_X4_layDish hT hj hfn g1 g2 hi (by rw [g3 T (by simp <;> omega)]; exact hg) hg10) (fun r σ' hq => ?_)
          obtain ⟨S2, rfl, o1, rfl, o3, o4⟩ := hq
          refine T_ifneB (tgt := 30) dX4_layDishes_25 (by decide) (fun h25 => ?_) (fun h25 => by rw [hp] at h25; cases h25)
          refine T_inc2N dX4_layDishes_30 (by decide) rfl ?_
          refine T_goto (tgt := 2) dX4_layDishes_33 (by decide) ?_
          have hl := pDf_lt hp
          rw [if_pos hp] at hgi
          rw [hp] at o3
          refine ih S2 (RD_OF g1 o1 (by simp <;> omega) (by simp <;> omega) (fun k => by simp <;> omega) (by rw [o3]; congr 1)) (by omega) (PF_OF g3 o1 (by simp)) (fun k hk => ?_) (by rw [← hgi]; exact hgp)
          by_cases e : k = i
          · subst e; exact o4 hp
          · have q := g4 k (by omega)
            rw [o1 (T + 5) k (by simp <;> omega), o1 (T + 6) k (by simp <;> omega)]
            exact q
      · skip
        refine T_ild2 dX4_layDishes_2 ?_
        refine T_bipush (v := nI 6) dX4_layDishes_3 (by decide) ?_
        refine T_cgeN (tgt := 36) dX4_layDishes_5 (by decide) (by omega) (by omega) (fun h5 => by exfalso; omega) (fun h5 => ?_)
        refine T_ild2 dX4_layDishes_8 ?_
        refine T_ifleN (tgt := 19) dX4_layDishes_9 (by decide) (by omega) (fun h9 => ?_) (fun h9 => ?_)
        · refine T_ald0 dX4_layDishes_19 ?_
          refine T_ald1 dX4_layDishes_20 ?_
          refine T_ild2 dX4_layDishes_21 ?_
          refine T_invV2 (M' := mX4_layDish) dX4_layDishes_22 ml_X4_94 imX4_layDish (kT hT) (Nat.le_of_ble_eq_true rfl) rfl (Nat.le_of_ble_eq_true rfl) rfl (Nat.le_of_ble_eq_true rfl) (c_X4_layDish hT hj hfn g1 g2 hi (by rw [g3 T (by simp <;> omega)]; exact hg) hg10) (fun r σ' hq => ?_)
          obtain ⟨S2, rfl, o1, rfl, o3, o4⟩ := hq
          refine T_ifneB (tgt := 30) dX4_layDishes_25 (by decide) (fun h25 => by exact absurd (of_decide_eq_true h25) hp) (fun h25 => ?_)
          refine T_iconst (v := bI false) dX4_layDishes_28 (by decide) ?_
          refine T_bretB dX4_layDishes_29 rfl ?_
          rw [if_neg hp] at hgi
          rw [hgi] at hgp
          refine ⟨S2, rfl, fun q hq => ?_, fun k hk => ?_, (by rw [← hgp] <;> rfl), fun h => (by rw [← hgp] at h; cases h), fun _ => (by rw [← hgp]; exact o3)⟩
          · exact PF_OF g3 o1 (by simp) q (fun h => hq (by simp at h ⊢; omega))
          · rw [PF_OF g3 o1 (by simp) T (by simp <;> omega)]
        · refine T_ald1 dX4_layDishes_12 ?_
          refine T_invV0i (M' := mX5_isAtEnd) dX4_layDishes_13 ml_X4_62 imX5_isAtEnd rfl (Nat.le_of_ble_eq_true rfl) rfl (Nat.le_of_ble_eq_true rfl) rfl (Nat.le_of_ble_eq_true rfl) (c_X5_isAtEnd g1.2.1 g1.2.2.1 (by omega) (by omega)) ?_
          refine T_ifneB (tgt := 36) dX4_layDishes_16 (by decide) (fun h16 => by exact absurd ⟨by omega, of_decide_eq_true h16⟩ hc) (fun h16 => ?_)
          refine T_ald0 dX4_layDishes_19 ?_
          refine T_ald1 dX4_layDishes_20 ?_
          refine T_ild2 dX4_layDishes_21 ?_
          refine T_invV2 (M' := mX4_layDish) dX4_layDishes_22 ml_X4_94 imX4_layDish (kT hT) (Nat.le_of_ble_eq_true rfl) rfl (Nat.le_of_ble_eq_true rfl) rfl (Nat.le_of_ble_eq_true rfl) (c_X4_layDish hT hj hfn g1 g2 hi (by rw [g3 T (by simp <;> omega)]; exact hg) hg10) (fun r σ' hq => ?_)
          obtain ⟨S2, rfl, o1, rfl, o3, o4⟩ := hq
          refine T_ifneB (tgt := 30) dX4_layDishes_25 (by decide) (fun h25 => by exact absurd (of_decide_eq_true h25) hp) (fun h25 => ?_)
          refine T_iconst (v := bI false) dX4_layDishes_28 (by decide) ?_
          refine T_bretB dX4_layDishes_29 rfl ?_
          rw [if_neg hp] at hgi
          rw [hgi] at hgp
          refine ⟨S2, rfl, fun q hq => ?_, fun k hk => ?_, (by rw [← hgp] <;> rfl), fun h => (by rw [← hgp] at h; cases h), fun _ => (by rw [← hgp]; exact o3)⟩
          · exact PF_OF g3 o1 (by simp) q (fun h => hq (by simp at h ⊢; omega))
          · rw [PF_OF g3 o1 (by simp) T (by simp <;> omega)]
set_option maxRecDepth 20000 in
theorem c_X4_laySoup_s {S : Nat → Nat → Int32} {L : Nat → Nat → Int64} {nw sp : Nat} {d : Nat} {T : Nat} (hT : T = 19 ∨ T = 28) {j f n : Nat} {co : Nat → Int32} (hj : j < 4) (hfn : f + n ≤ 60) (hR : RD S j f n 1 co) (h1n : 1 ≤ n) {v : Nat} (hd : dgt n co 1 4 = some v) : TT mX4_laySoup (d + 3) 0 [some (.ref T), some (.ref 10)] [] (S, L, (nw, sp, 6 + j)) (rt (some (.int (bI true))) (uI (uI S 10 3 (nI 2)) T 10 (nI v), L, (nw, sp, 6 + j))) := by
  refine T_ald0 dX4_laySoup_0 ?_
  refine T_ald1 dX4_laySoup_1 ?_
  refine T_iconst (v := nI 4) dX4_laySoup_2 (by decide) ?_
  refine T_invV1i (M' := mX5_takeDigit) dX4_laySoup_3 ml_X4_66 imX5_takeDigit rfl (Nat.le_of_ble_eq_true rfl) rfl (Nat.le_of_ble_eq_true rfl) rfl (Nat.le_of_ble_eq_true rfl) (c_X5_takeDigit_s hj hfn hR.1 hR.2.1 hR.2.2.1 (by omega) hR.2.2.2 (by decide) hd) ?_
  refine T_putI dX4_laySoup_6 lf_X4_70 (kT hT) rfl rfl rfl ?_
  refine T_ald0 dX4_laySoup_9 ?_
  refine T_getN dX4_laySoup_10 lf_X4_70 (kT hT) rfl uI_s ?_
  refine T_bipush (v := -9) dX4_laySoup_13 (by decide) ?_
  refine T_ceq (tgt := 22) dX4_laySoup_15 (by decide) (fun h15 => by exact absurd h15 (nI_m9 (by have := (dgt_some (by decide) hd).2.1; omega))) (fun h15 => ?_)
  refine T_iconst (v := bI true) dX4_laySoup_18 (by decide) ?_
  refine T_goto (tgt := 23) dX4_laySoup_19 (by decide) ?_
  refine T_bretB dX4_laySoup_23 rfl ?_
  exact rt_i
set_option maxRecDepth 20000 in
theorem c_X4_laySoup_n {S : Nat → Nat → Int32} {L : Nat → Nat → Int64} {nw sp : Nat} {d : Nat} {T : Nat} (hT : T = 19 ∨ T = 28) {j f n : Nat} {co : Nat → Int32} (hj : j < 4) (hfn : f + n ≤ 60) (hR : RD S j f n 1 co) (h1n : 1 ≤ n) (hd : dgt n co 1 4 = none) : TT mX4_laySoup (d + 3) 0 [some (.ref T), some (.ref 10)] [] (S, L, (nw, sp, 6 + j)) (rt (some (.int (bI false))) (uI S T 10 (-9), L, (nw, sp, 6 + j))) := by
  refine T_ald0 dX4_laySoup_0 ?_
  refine T_ald1 dX4_laySoup_1 ?_
  refine T_iconst (v := nI 4) dX4_laySoup_2 (by decide) ?_
  refine T_invV1i (M' := mX5_takeDigit) dX4_laySoup_3 ml_X4_66 imX5_takeDigit rfl (Nat.le_of_ble_eq_true rfl) rfl (Nat.le_of_ble_eq_true rfl) rfl (Nat.le_of_ble_eq_true rfl) (c_X5_takeDigit_n hj hfn hR.1 hR.2.1 hR.2.2.1 (by omega) hR.2.2.2 (by decide) hd) ?_
  refine T_putI dX4_laySoup_6 lf_X4_70 (kT hT) rfl rfl rfl ?_
  refine T_ald0 dX4_laySoup_9 ?_
  refine T_getV dX4_laySoup_10 lf_X4_70 (kT hT) rfl uI_s ?_
  refine T_bipush (v := -9) dX4_laySoup_13 (by decide) ?_
  refine T_ceq (tgt := 22) dX4_laySoup_15 (by decide) (fun h15 => ?_) (fun h15 => by exact absurd rfl h15)
  refine T_iconst (v := bI false) dX4_laySoup_22 (by decide) ?_
  refine T_bretB dX4_laySoup_23 rfl ?_
  exact rt_i
def psr (n : Nat) (co : Nat → Int32) : Bool × Nat × Nat × Nat :=
  if sg n co 0 (nI 116) = false then (false, 0, 0, 0) else if dgt n co 1 4 = none then (false, 1, 0, 0) else
  if (gph n co 8).1 = false then (false, (gph n co 8).2, 0, 0) else
  if pBf n co (gph n co 8).2 (2 + 4 * (gph n co 8).2) ≠ 3 then (false, 2 + 4 * (gph n co 8).2 + pBf n co (gph n co 8).2 (2 + 4 * (gph n co 8).2), 0, 0) else
  if (dph n co (gph n co 8).2 6).1 = false then (false, (dph n co (gph n co 8).2 6).2, 0, 0) else
  if n ≤ 5 + 4 * (gph n co 8).2 + 3 * (dph n co (gph n co 8).2 6).2 then (true, n, (gph n co 8).2, (dph n co (gph n co 8).2 6).2) else (false, 5 + 4 * (gph n co 8).2 + 3 * (dph n co (gph n co 8).2 6).2, 0, 0)
def pTab (n : Nat) (co : Nat → Int32) (g m : Nat) : Nat → Nat → Nat := fun c i => match c with
  | 0 => g
  | 1 => m
  | 2 => dv n co 1 4
  | 3 => 8 * dv n co (2 + 4 * g + 1) g + dv n co (2 + 4 * g + 2) g
  | 4 => 0
  | 5 => kv n co (2 + 4 * i + 1)
  | 6 => dv n co (2 + 4 * i + 2) 10
  | 7 => dv n co (2 + 4 * i + 3) 4
  | 8 => dv n co (5 + 4 * g + 3 * i + 1) g
  | 9 => dv n co (5 + 4 * g + 3 * i + 2) 10
  | _ => 0
theorem pBf_lt {n g t : Nat} {co : Nat → Int32} (hg : g ≤ 10) (h : pBf n co g t = 3) : t + 3 ≤ n := by
  unfold pBf at h
  split at h; · cases h
  split at h; · cases h
  split at h; · cases h
  rename_i q
  cases e : dgb n co (t + 2) g (nI (dv n co (t + 1) g)) with
  | none => exact absurd e q
  | some v => have := (dgt_some hg (dgb_some e).1).1; omega
set_option maxRecDepth 20000 in
theorem c_X4_lay {S : Nat → Nat → Int32} {L : Nat → Nat → Int64} {nw sp : Nat} {d : Nat} {T : Nat} (hT : T = 19 ∨ T = 28) {j f n : Nat} {co : Nat → Int32} (hj : j < 4) (hfn : f + n ≤ 60) (hR : RD S j f n 0 co) : TT mX4_lay (d + 5) 0 [some (.ref T), some (.ref 10)] [] (S, L, (nw, sp, 6 + j)) (fun r σ' => ∃ S', σ' = (S', L, (nw, sp, 6 + j)) ∧ (∀ q, q ≠ 10 → ¬ (T ≤ q ∧ q ≤ T + 8) → S' q = S q) ∧ r = some (.int (bI (psr n co).1)) ∧ ((psr n co).1 = true → TV S' T (pTab n co (psr n co).2.2.1 (psr n co).2.2.2)) ∧ ((psr n co).1 = false → S' 10 3 = nI (psr n co).2.1)) := by
  cases hs : sg n co 0 (nI 116) with
  | false =>
    have hps : psr n co = (false, 0, 0, 0) := if_pos hs
    refine T_ald0 dX4_lay_0 ?_
    refine T_iconst (v := nI 0) dX4_lay_1 (by decide) ?_
    refine T_putI dX4_lay_2 lf_X4_40 (kT hT) rfl rfl rfl ?_
    refine T_ald1 dX4_lay_5 ?_
    refine T_bipush (v := nI 116) dX4_lay_6 (by decide) ?_
    refine T_invV1i (M' := mX5_take) dX4_lay_8 ml_X4_43 imX5_take rfl (Nat.le_of_ble_eq_true rfl) rfl (Nat.le_of_ble_eq_true rfl) rfl (Nat.le_of_ble_eq_true rfl) (c_X5_take_f hj hfn (hR.off (q := T) (i := 12) (x := nI 0) (by omega) (by omega)).1 (hR.off (q := T) (i := 12) (x := nI 0) (by omega) (by omega)).2.1 (hR.off (q := T) (i := 12) (x := nI 0) (by omega) (by omega)).2.2.1 (by omega) (hR.off (q := T) (i := 12) (x := nI 0) (by omega) (by omega)).2.2.2 hs) ?_
    refine T_ifeqB (tgt := 57) dX4_lay_11 (by decide) (fun h11 => ?_) (fun h11 => by cases h11)
    refine T_iconst (v := bI false) dX4_lay_57 (by decide) ?_
    refine T_bretB dX4_lay_58 rfl ?_
    refine ⟨_, rfl, fun q h1 h2 => ?_, (by rw [hps] <;> rfl), fun h => (by rw [hps] at h; cases h), fun _ => (by rw [hps]; exact (hR.off (q := T) (i := 12) (x := nI 0) (by omega) (by omega)).2.2.1)⟩
    rw [uI_p (by omega)]
  | true =>
    have ht1 := sg_lt hs
    cases hd : dgt n co 1 4 with
    | none =>
      have hps : psr n co = (false, 1, 0, 0) := (if_neg (by rw [hs]; decide)).trans (if_pos hd)
      refine T_ald0 dX4_lay_0 ?_
      refine T_iconst (v := nI 0) dX4_lay_1 (by decide) ?_
      refine T_putI dX4_lay_2 lf_X4_40 (kT hT) rfl rfl rfl ?_
      refine T_ald1 dX4_lay_5 ?_
      refine T_bipush (v := nI 116) dX4_lay_6 (by decide) ?_
      refine T_invV1i (M' := mX5_take) dX4_lay_8 ml_X4_43 imX5_take rfl (Nat.le_of_ble_eq_true rfl) rfl (Nat.le_of_ble_eq_true rfl) rfl (Nat.le_of_ble_eq_true rfl) (c_X5_take_t hj hfn (hR.off (q := T) (i := 12) (x := nI 0) (by omega) (by omega)).1 (hR.off (q := T) (i := 12) (x := nI 0) (by omega) (by omega)).2.1 (hR.off (q := T) (i := 12) (x := nI 0) (by omega) (by omega)).2.2.1 (by omega) (hR.off (q := T) (i := 12) (x := nI 0) (by omega) (by omega)).2.2.2 hs) ?_
      refine T_ifeqB (tgt := 57) dX4_lay_11 (by decide) (fun h11 => by cases h11) (fun h11 => ?_)
      refine T_ald0 dX4_lay_14 ?_
      refine T_ald1 dX4_lay_15 ?_
      refine T_invV1i (M' := mX4_laySoup) dX4_lay_16 ml_X4_49 imX4_laySoup (kT hT) (Nat.le_of_ble_eq_true rfl) rfl (Nat.le_of_ble_eq_true rfl) rfl (Nat.le_of_ble_eq_true rfl) (c_X4_laySoup_n hT hj hfn ((hR.off (q := T) (i := 12) (x := nI 0) (by omega) (by omega)).adv hj 1) (by omega) hd) ?_
      refine T_ifeqB (tgt := 57) dX4_lay_19 (by decide) (fun h19 => ?_) (fun h19 => by cases h19)
      refine T_iconst (v := bI false) dX4_lay_57 (by decide) ?_
      refine T_bretB dX4_lay_58 rfl ?_
      refine ⟨_, rfl, fun q h1 h2 => ?_, (by rw [hps] <;> rfl), fun h => (by rw [hps] at h; cases h), fun _ => (by rw [hps]; rw [uI_p (by omega)]; exact uI_s)⟩
      rw [uI_p (by omega), uI_p (by omega), uI_p (by omega)]
    | some v =>
      have ht2 := dgt_some (by decide) hd
      have e2 : psr n co = _ := (if_neg (by rw [hs]; decide)).trans (if_neg (by rw [hd]; exact fun h => nomatch h))
      by_cases hg1 : (gph n co 8).1 = false
      · have hps := e2.trans (if_pos hg1)
        refine T_ald0 dX4_lay_0 ?_
        refine T_iconst (v := nI 0) dX4_lay_1 (by decide) ?_
        refine T_putI dX4_lay_2 lf_X4_40 (kT hT) rfl rfl rfl ?_
        refine T_ald1 dX4_lay_5 ?_
        refine T_bipush (v := nI 116) dX4_lay_6 (by decide) ?_
        refine T_invV1i (M' := mX5_take) dX4_lay_8 ml_X4_43 imX5_take rfl (Nat.le_of_ble_eq_true rfl) rfl (Nat.le_of_ble_eq_true rfl) rfl (Nat.le_of_ble_eq_true rfl) (c_X5_take_t hj hfn (hR.off (q := T) (i := 12) (x := nI 0) (by omega) (by omega)).1 (hR.off (q := T) (i := 12) (x := nI 0) (by omega) (by omega)).2.1 (hR.off (q := T) (i := 12) (x := nI 0) (by omega) (by omega)).2.2.1 (by omega) (hR.off (q := T) (i := 12) (x := nI 0) (by omega) (by omega)).2.2.2 hs) ?_
        refine T_ifeqB (tgt := 57) dX4_lay_11 (by decide) (fun h11 => by cases h11) (fun h11 => ?_)
        refine T_ald0 dX4_lay_14 ?_
        refine T_ald1 dX4_lay_15 ?_
        refine T_invV1i (M' := mX4_laySoup) dX4_lay_16 ml_X4_49 imX4_laySoup (kT hT) (Nat.le_of_ble_eq_true rfl) rfl (Nat.le_of_ble_eq_true rfl) rfl (Nat.le_of_ble_eq_true rfl) (c_X4_laySoup_s hT hj hfn ((hR.off (q := T) (i := 12) (x := nI 0) (by omega) (by omega)).adv hj 1) (by omega) hd) ?_
        refine T_ifeqB (tgt := 57) dX4_lay_19 (by decide) (fun h19 => by cases h19) (fun h19 => ?_)
        refine T_ald0 dX4_lay_22 ?_
        refine T_ald1 dX4_lay_23 ?_
        refine T_invV1 (M' := mX4_layGuests) dX4_lay_24 ml_X4_53 imX4_layGuests (kT hT) (Nat.le_of_ble_eq_true rfl) rfl (Nat.le_of_ble_eq_true rfl) rfl (Nat.le_of_ble_eq_true rfl) (c_X4_layGuests hT hj hfn ((((hR.off (q := T) (i := 12) (x := nI 0) (by omega) (by omega)).adv hj 1).adv hj 2).off (q := T) (i := 10) (x := nI v) (by omega) (by omega)) (by omega)) (fun r σ' hq => ?_)
        obtain ⟨S2, rfl, p1, p2, rfl, p3, p4⟩ := hq
        refine T_ifeqB (tgt := 57) dX4_lay_27 (by decide) (fun h27 => ?_) (fun h27 => by rw [hg1] at h27; cases h27)
        refine T_iconst (v := bI false) dX4_lay_57 (by decide) ?_
        refine T_bretB dX4_lay_58 rfl ?_
        refine ⟨_, rfl, fun q h1 h2 => ?_, (by rw [hps] <;> rfl), fun h => (by rw [hps] at h; cases h), fun _ => (by rw [hps]; exact p4 hg1)⟩
        rw [p1 q (by simp <;> omega), uI_p (by omega), uI_p (by omega), uI_p (by omega), uI_p (by omega)]
      rw [if_neg hg1] at e2
      have hg1 : (gph n co 8).1 = true := by simpa using hg1
      by_cases hb : pBf n co (gph n co 8).2 (2 + 4 * (gph n co 8).2) = 3
      rotate_left
      · have hps := e2.trans (if_pos hb)
        refine T_ald0 dX4_lay_0 ?_
        refine T_iconst (v := nI 0) dX4_lay_1 (by decide) ?_
        refine T_putI dX4_lay_2 lf_X4_40 (kT hT) rfl rfl rfl ?_
        refine T_ald1 dX4_lay_5 ?_
        refine T_bipush (v := nI 116) dX4_lay_6 (by decide) ?_
        refine T_invV1i (M' := mX5_take) dX4_lay_8 ml_X4_43 imX5_take rfl (Nat.le_of_ble_eq_true rfl) rfl (Nat.le_of_ble_eq_true rfl) rfl (Nat.le_of_ble_eq_true rfl) (c_X5_take_t hj hfn (hR.off (q := T) (i := 12) (x := nI 0) (by omega) (by omega)).1 (hR.off (q := T) (i := 12) (x := nI 0) (by omega) (by omega)).2.1 (hR.off (q := T) (i := 12) (x := nI 0) (by omega) (by omega)).2.2.1 (by omega) (hR.off (q := T) (i := 12) (x := nI 0) (by omega) (by omega)).2.2.2 hs) ?_
        refine T_ifeqB (tgt := 57) dX4_lay_11 (by decide) (fun h11 => by cases h11) (fun h11 => ?_)
        refine T_ald0 dX4_lay_14 ?_
        refine T_ald1 dX4_lay_15 ?_
        refine T_invV1i (M' := mX4_laySoup) dX4_lay_16 ml_X4_49 imX4_laySoup (kT hT) (Nat.le_of_ble_eq_true rfl) rfl (Nat.le_of_ble_eq_true rfl) rfl (Nat.le_of_ble_eq_true rfl) (c_X4_laySoup_s hT hj hfn ((hR.off (q := T) (i := 12) (x := nI 0) (by omega) (by omega)).adv hj 1) (by omega) hd) ?_
        refine T_ifeqB (tgt := 57) dX4_lay_19 (by decide) (fun h19 => by cases h19) (fun h19 => ?_)
        refine T_ald0 dX4_lay_22 ?_
        refine T_ald1 dX4_lay_23 ?_
        refine T_invV1 (M' := mX4_layGuests) dX4_lay_24 ml_X4_53 imX4_layGuests (kT hT) (Nat.le_of_ble_eq_true rfl) rfl (Nat.le_of_ble_eq_true rfl) rfl (Nat.le_of_ble_eq_true rfl) (c_X4_layGuests hT hj hfn ((((hR.off (q := T) (i := 12) (x := nI 0) (by omega) (by omega)).adv hj 1).adv hj 2).off (q := T) (i := 10) (x := nI v) (by omega) (by omega)) (by omega)) (fun r σ' hq => ?_)
        obtain ⟨S2, rfl, p1, p2, rfl, p3, p4⟩ := hq
        have p3 := p3 hg1
        have G3 := p3.2.2.2.1
        have G8 := p3.2.2.2.2.1
        refine T_ifeqB (tgt := 57) dX4_lay_27 (by decide) (fun h27 => by rw [hg1] at h27; cases h27) (fun h27 => ?_)
        refine T_ald0 dX4_lay_30 ?_
        refine T_ald1 dX4_lay_31 ?_
        refine T_invV1 (M' := mX4_layBorder) dX4_lay_32 ml_X4_56 imX4_layBorder (kT hT) (Nat.le_of_ble_eq_true rfl) rfl (Nat.le_of_ble_eq_true rfl) rfl (Nat.le_of_ble_eq_true rfl) (c_X4_layBorder hT hj hfn p3.2.1 p3.2.2.1 p3.1 (by omega)) (fun r σ' hq => ?_)
        obtain ⟨S3, rfl, o1, rfl, o3, o4⟩ := hq
        refine T_ifeqB (tgt := 57) dX4_lay_35 (by decide) (fun h35 => ?_) (fun h35 => by exact absurd (of_decide_eq_true h35) hb)
        refine T_iconst (v := bI false) dX4_lay_57 (by decide) ?_
        refine T_bretB dX4_lay_58 rfl ?_
        refine ⟨_, rfl, fun q h1 h2 => ?_, (by rw [hps] <;> rfl), fun h => (by rw [hps] at h; cases h), fun _ => (by rw [hps]; exact o3)⟩
        rw [show S3 q = S2 q from funext fun k => o1 q k (by simp <;> omega)]; rw [p1 q (by simp <;> omega), uI_p (by omega), uI_p (by omega), uI_p (by omega), uI_p (by omega)]
      rw [if_neg (fun q => q hb)] at e2
      by_cases hd1 : (dph n co (gph n co 8).2 6).1 = false
      · have hps := e2.trans (if_pos hd1)
        refine T_ald0 dX4_lay_0 ?_
        refine T_iconst (v := nI 0) dX4_lay_1 (by decide) ?_
        refine T_putI dX4_lay_2 lf_X4_40 (kT hT) rfl rfl rfl ?_
        refine T_ald1 dX4_lay_5 ?_
        refine T_bipush (v := nI 116) dX4_lay_6 (by decide) ?_
        refine T_invV1i (M' := mX5_take) dX4_lay_8 ml_X4_43 imX5_take rfl (Nat.le_of_ble_eq_true rfl) rfl (Nat.le_of_ble_eq_true rfl) rfl (Nat.le_of_ble_eq_true rfl) (c_X5_take_t hj hfn (hR.off (q := T) (i := 12) (x := nI 0) (by omega) (by omega)).1 (hR.off (q := T) (i := 12) (x := nI 0) (by omega) (by omega)).2.1 (hR.off (q := T) (i := 12) (x := nI 0) (by omega) (by omega)).2.2.1 (by omega) (hR.off (q := T) (i := 12) (x := nI 0) (by omega) (by omega)).2.2.2 hs) ?_
        refine T_ifeqB (tgt := 57) dX4_lay_11 (by decide) (fun h11 => by cases h11) (fun h11 => ?_)
        refine T_ald0 dX4_lay_14 ?_
        refine T_ald1 dX4_lay_15 ?_
        refine T_invV1i (M' := mX4_laySoup) dX4_lay_16 ml_X4_49 imX4_laySoup (kT hT) (Nat.le_of_ble_eq_true rfl) rfl (Nat.le_of_ble_eq_true rfl) rfl (Nat.le_of_ble_eq_true rfl) (c_X4_laySoup_s hT hj hfn ((hR.off (q := T) (i := 12) (x := nI 0) (by omega) (by omega)).adv hj 1) (by omega) hd) ?_
        refine T_ifeqB (tgt := 57) dX4_lay_19 (by decide) (fun h19 => by cases h19) (fun h19 => ?_)
        refine T_ald0 dX4_lay_22 ?_
        refine T_ald1 dX4_lay_23 ?_
        refine T_invV1 (M' := mX4_layGuests) dX4_lay_24 ml_X4_53 imX4_layGuests (kT hT) (Nat.le_of_ble_eq_true rfl) rfl (Nat.le_of_ble_eq_true rfl) rfl (Nat.le_of_ble_eq_true rfl) (c_X4_layGuests hT hj hfn ((((hR.off (q := T) (i := 12) (x := nI 0) (by omega) (by omega)).adv hj 1).adv hj 2).off (q := T) (i := 10) (x := nI v) (by omega) (by omega)) (by omega)) (fun r σ' hq => ?_)
        obtain ⟨S2, rfl, p1, p2, rfl, p3, p4⟩ := hq
        have p3 := p3 hg1
        have G3 := p3.2.2.2.1
        have G8 := p3.2.2.2.2.1
        refine T_ifeqB (tgt := 57) dX4_lay_27 (by decide) (fun h27 => by rw [hg1] at h27; cases h27) (fun h27 => ?_)
        refine T_ald0 dX4_lay_30 ?_
        refine T_ald1 dX4_lay_31 ?_
        refine T_invV1 (M' := mX4_layBorder) dX4_lay_32 ml_X4_56 imX4_layBorder (kT hT) (Nat.le_of_ble_eq_true rfl) rfl (Nat.le_of_ble_eq_true rfl) rfl (Nat.le_of_ble_eq_true rfl) (c_X4_layBorder hT hj hfn p3.2.1 p3.2.2.1 p3.1 (by omega)) (fun r σ' hq => ?_)
        obtain ⟨S3, rfl, o1, rfl, o3, o4⟩ := hq
        have bl := pBf_lt (by omega) hb
        rw [hb] at o3
        have R3 := RD_OF p3.2.1 o1 (by simp <;> omega) (by simp <;> omega) (fun k => by simp <;> omega) (t' := 5 + 4 * (gph n co 8).2) (by rw [o3]; congr 1; omega)
        have g3 : S3 T 8 = nI (gph n co 8).2 := by rw [o1 T 8 (by simp <;> omega)]; exact p3.1
        refine T_ifeqB (tgt := 57) dX4_lay_35 (by decide) (fun h35 => by rw [hb] at h35; cases h35) (fun h35 => ?_)
        refine T_ald0 dX4_lay_38 ?_
        refine T_ald1 dX4_lay_39 ?_
        refine T_invV1 (M' := mX4_layDishes) dX4_lay_40 ml_X4_59 imX4_layDishes (kT hT) (Nat.le_of_ble_eq_true rfl) rfl (Nat.le_of_ble_eq_true rfl) rfl (Nat.le_of_ble_eq_true rfl) (c_X4_layDishes hT hj hfn g3 (by omega) R3 (by omega)) (fun r σ' hq => ?_)
        obtain ⟨S4, rfl, q1, q2, rfl, q3, q4⟩ := hq
        refine T_ifeqB (tgt := 57) dX4_lay_43 (by decide) (fun h43 => ?_) (fun h43 => by rw [hd1] at h43; cases h43)
        refine T_iconst (v := bI false) dX4_lay_57 (by decide) ?_
        refine T_bretB dX4_lay_58 rfl ?_
        refine ⟨_, rfl, fun q h1 h2 => ?_, (by rw [hps] <;> rfl), fun h => (by rw [hps] at h; cases h), fun _ => (by rw [hps]; exact q4 hd1)⟩
        rw [q1 q (by simp <;> omega)]; rw [show S3 q = S2 q from funext fun k => o1 q k (by simp <;> omega)]; rw [p1 q (by simp <;> omega), uI_p (by omega), uI_p (by omega), uI_p (by omega), uI_p (by omega)]
      rw [if_neg hd1] at e2
      have hd1 : (dph n co (gph n co 8).2 6).1 = true := by simpa using hd1
      by_cases he : n ≤ 5 + 4 * (gph n co 8).2 + 3 * (dph n co (gph n co 8).2 6).2
      rotate_left
      · have hps := e2.trans (if_neg he)
        refine T_ald0 dX4_lay_0 ?_
        refine T_iconst (v := nI 0) dX4_lay_1 (by decide) ?_
        refine T_putI dX4_lay_2 lf_X4_40 (kT hT) rfl rfl rfl ?_
        refine T_ald1 dX4_lay_5 ?_
        refine T_bipush (v := nI 116) dX4_lay_6 (by decide) ?_
        refine T_invV1i (M' := mX5_take) dX4_lay_8 ml_X4_43 imX5_take rfl (Nat.le_of_ble_eq_true rfl) rfl (Nat.le_of_ble_eq_true rfl) rfl (Nat.le_of_ble_eq_true rfl) (c_X5_take_t hj hfn (hR.off (q := T) (i := 12) (x := nI 0) (by omega) (by omega)).1 (hR.off (q := T) (i := 12) (x := nI 0) (by omega) (by omega)).2.1 (hR.off (q := T) (i := 12) (x := nI 0) (by omega) (by omega)).2.2.1 (by omega) (hR.off (q := T) (i := 12) (x := nI 0) (by omega) (by omega)).2.2.2 hs) ?_
        refine T_ifeqB (tgt := 57) dX4_lay_11 (by decide) (fun h11 => by cases h11) (fun h11 => ?_)
        refine T_ald0 dX4_lay_14 ?_
        refine T_ald1 dX4_lay_15 ?_
        refine T_invV1i (M' := mX4_laySoup) dX4_lay_16 ml_X4_49 imX4_laySoup (kT hT) (Nat.le_of_ble_eq_true rfl) rfl (Nat.le_of_ble_eq_true rfl) rfl (Nat.le_of_ble_eq_true rfl) (c_X4_laySoup_s hT hj hfn ((hR.off (q := T) (i := 12) (x := nI 0) (by omega) (by omega)).adv hj 1) (by omega) hd) ?_
        refine T_ifeqB (tgt := 57) dX4_lay_19 (by decide) (fun h19 => by cases h19) (fun h19 => ?_)
        refine T_ald0 dX4_lay_22 ?_
        refine T_ald1 dX4_lay_23 ?_
        refine T_invV1 (M' := mX4_layGuests) dX4_lay_24 ml_X4_53 imX4_layGuests (kT hT) (Nat.le_of_ble_eq_true rfl) rfl (Nat.le_of_ble_eq_true rfl) rfl (Nat.le_of_ble_eq_true rfl) (c_X4_layGuests hT hj hfn ((((hR.off (q := T) (i := 12) (x := nI 0) (by omega) (by omega)).adv hj 1).adv hj 2).off (q := T) (i := 10) (x := nI v) (by omega) (by omega)) (by omega)) (fun r σ' hq => ?_)
        obtain ⟨S2, rfl, p1, p2, rfl, p3, p4⟩ := hq
        have p3 := p3 hg1
        have G3 := p3.2.2.2.1
        have G8 := p3.2.2.2.2.1
        refine T_ifeqB (tgt := 57) dX4_lay_27 (by decide) (fun h27 => by rw [hg1] at h27; cases h27) (fun h27 => ?_)
        refine T_ald0 dX4_lay_30 ?_
        refine T_ald1 dX4_lay_31 ?_
        refine T_invV1 (M' := mX4_layBorder) dX4_lay_32 ml_X4_56 imX4_layBorder (kT hT) (Nat.le_of_ble_eq_true rfl) rfl (Nat.le_of_ble_eq_true rfl) rfl (Nat.le_of_ble_eq_true rfl) (c_X4_layBorder hT hj hfn p3.2.1 p3.2.2.1 p3.1 (by omega)) (fun r σ' hq => ?_)
        obtain ⟨S3, rfl, o1, rfl, o3, o4⟩ := hq
        have bl := pBf_lt (by omega) hb
        rw [hb] at o3
        have R3 := RD_OF p3.2.1 o1 (by simp <;> omega) (by simp <;> omega) (fun k => by simp <;> omega) (t' := 5 + 4 * (gph n co 8).2) (by rw [o3]; congr 1; omega)
        have g3 : S3 T 8 = nI (gph n co 8).2 := by rw [o1 T 8 (by simp <;> omega)]; exact p3.1
        refine T_ifeqB (tgt := 57) dX4_lay_35 (by decide) (fun h35 => by rw [hb] at h35; cases h35) (fun h35 => ?_)
        refine T_ald0 dX4_lay_38 ?_
        refine T_ald1 dX4_lay_39 ?_
        refine T_invV1 (M' := mX4_layDishes) dX4_lay_40 ml_X4_59 imX4_layDishes (kT hT) (Nat.le_of_ble_eq_true rfl) rfl (Nat.le_of_ble_eq_true rfl) rfl (Nat.le_of_ble_eq_true rfl) (c_X4_layDishes hT hj hfn g3 (by omega) R3 (by omega)) (fun r σ' hq => ?_)
        obtain ⟨S4, rfl, q1, q2, rfl, q3, q4⟩ := hq
        have q3 := q3 hd1
        refine T_ifeqB (tgt := 57) dX4_lay_43 (by decide) (fun h43 => by rw [hd1] at h43; cases h43) (fun h43 => ?_)
        refine T_ald1 dX4_lay_46 ?_
        refine T_invV0i (M' := mX5_isAtEnd) dX4_lay_47 ml_X4_62 imX5_isAtEnd rfl (Nat.le_of_ble_eq_true rfl) rfl (Nat.le_of_ble_eq_true rfl) rfl (Nat.le_of_ble_eq_true rfl) (c_X5_isAtEnd q3.2.1.2.1 q3.2.1.2.2.1 (by omega) q3.2.2.1) ?_
        refine T_ifeqB (tgt := 57) dX4_lay_50 (by decide) (fun h50 => ?_) (fun h50 => by exact absurd (of_decide_eq_true h50) he)
        refine T_iconst (v := bI false) dX4_lay_57 (by decide) ?_
        refine T_bretB dX4_lay_58 rfl ?_
        refine ⟨_, rfl, fun q h1 h2 => ?_, (by rw [hps] <;> rfl), fun h => (by rw [hps] at h; cases h), fun _ => (by rw [hps]; exact q3.2.1.2.2.1)⟩
        rw [q1 q (by simp <;> omega)]; rw [show S3 q = S2 q from funext fun k => o1 q k (by simp <;> omega)]; rw [p1 q (by simp <;> omega), uI_p (by omega), uI_p (by omega), uI_p (by omega), uI_p (by omega)]
      · have hps := e2.trans (if_pos he)
        refine T_ald0 dX4_lay_0 ?_
        refine T_iconst (v := nI 0) dX4_lay_1 (by decide) ?_
        refine T_putI dX4_lay_2 lf_X4_40 (kT hT) rfl rfl rfl ?_
        refine T_ald1 dX4_lay_5 ?_
        refine T_bipush (v := nI 116) dX4_lay_6 (by decide) ?_
        refine T_invV1i (M' := mX5_take) dX4_lay_8 ml_X4_43 imX5_take rfl (Nat.le_of_ble_eq_true rfl) rfl (Nat.le_of_ble_eq_true rfl) rfl (Nat.le_of_ble_eq_true rfl) (c_X5_take_t hj hfn (hR.off (q := T) (i := 12) (x := nI 0) (by omega) (by omega)).1 (hR.off (q := T) (i := 12) (x := nI 0) (by omega) (by omega)).2.1 (hR.off (q := T) (i := 12) (x := nI 0) (by omega) (by omega)).2.2.1 (by omega) (hR.off (q := T) (i := 12) (x := nI 0) (by omega) (by omega)).2.2.2 hs) ?_
        refine T_ifeqB (tgt := 57) dX4_lay_11 (by decide) (fun h11 => by cases h11) (fun h11 => ?_)
        refine T_ald0 dX4_lay_14 ?_
        refine T_ald1 dX4_lay_15 ?_
        refine T_invV1i (M' := mX4_laySoup) dX4_lay_16 ml_X4_49 imX4_laySoup (kT hT) (Nat.le_of_ble_eq_true rfl) rfl (Nat.le_of_ble_eq_true rfl) rfl (Nat.le_of_ble_eq_true rfl) (c_X4_laySoup_s hT hj hfn ((hR.off (q := T) (i := 12) (x := nI 0) (by omega) (by omega)).adv hj 1) (by omega) hd) ?_
        refine T_ifeqB (tgt := 57) dX4_lay_19 (by decide) (fun h19 => by cases h19) (fun h19 => ?_)
        refine T_ald0 dX4_lay_22 ?_
        refine T_ald1 dX4_lay_23 ?_
        refine T_invV1 (M' := mX4_layGuests) dX4_lay_24 ml_X4_53 imX4_layGuests (kT hT) (Nat.le_of_ble_eq_true rfl) rfl (Nat.le_of_ble_eq_true rfl) rfl (Nat.le_of_ble_eq_true rfl) (c_X4_layGuests hT hj hfn ((((hR.off (q := T) (i := 12) (x := nI 0) (by omega) (by omega)).adv hj 1).adv hj 2).off (q := T) (i := 10) (x := nI v) (by omega) (by omega)) (by omega)) (fun r σ' hq => ?_)
        obtain ⟨S2, rfl, p1, p2, rfl, p3, p4⟩ := hq
        have p3 := p3 hg1
        have G3 := p3.2.2.2.1
        have G8 := p3.2.2.2.2.1
        refine T_ifeqB (tgt := 57) dX4_lay_27 (by decide) (fun h27 => by rw [hg1] at h27; cases h27) (fun h27 => ?_)
        refine T_ald0 dX4_lay_30 ?_
        refine T_ald1 dX4_lay_31 ?_
        refine T_invV1 (M' := mX4_layBorder) dX4_lay_32 ml_X4_56 imX4_layBorder (kT hT) (Nat.le_of_ble_eq_true rfl) rfl (Nat.le_of_ble_eq_true rfl) rfl (Nat.le_of_ble_eq_true rfl) (c_X4_layBorder hT hj hfn p3.2.1 p3.2.2.1 p3.1 (by omega)) (fun r σ' hq => ?_)
        obtain ⟨S3, rfl, o1, rfl, o3, o4⟩ := hq
        have bl := pBf_lt (by omega) hb
        rw [hb] at o3
        have R3 := RD_OF p3.2.1 o1 (by simp <;> omega) (by simp <;> omega) (fun k => by simp <;> omega) (t' := 5 + 4 * (gph n co 8).2) (by rw [o3]; congr 1; omega)
        have g3 : S3 T 8 = nI (gph n co 8).2 := by rw [o1 T 8 (by simp <;> omega)]; exact p3.1
        refine T_ifeqB (tgt := 57) dX4_lay_35 (by decide) (fun h35 => by rw [hb] at h35; cases h35) (fun h35 => ?_)
        refine T_ald0 dX4_lay_38 ?_
        refine T_ald1 dX4_lay_39 ?_
        refine T_invV1 (M' := mX4_layDishes) dX4_lay_40 ml_X4_59 imX4_layDishes (kT hT) (Nat.le_of_ble_eq_true rfl) rfl (Nat.le_of_ble_eq_true rfl) rfl (Nat.le_of_ble_eq_true rfl) (c_X4_layDishes hT hj hfn g3 (by omega) R3 (by omega)) (fun r σ' hq => ?_)
        obtain ⟨S4, rfl, q1, q2, rfl, q3, q4⟩ := hq
        have q3 := q3 hd1
        refine T_ifeqB (tgt := 57) dX4_lay_43 (by decide) (fun h43 => by rw [hd1] at h43; cases h43) (fun h43 => ?_)
        refine T_ald1 dX4_lay_46 ?_
        refine T_invV0i (M' := mX5_isAtEnd) dX4_lay_47 ml_X4_62 imX5_isAtEnd rfl (Nat.le_of_ble_eq_true rfl) rfl (Nat.le_of_ble_eq_true rfl) rfl (Nat.le_of_ble_eq_true rfl) (c_X5_isAtEnd q3.2.1.2.1 q3.2.1.2.2.1 (by omega) q3.2.2.1) ?_
        refine T_ifeqB (tgt := 57) dX4_lay_50 (by decide) (fun h50 => by exact absurd he (of_decide_eq_false h50)) (fun h50 => ?_)
        refine T_iconst (v := bI true) dX4_lay_53 (by decide) ?_
        refine T_goto (tgt := 58) dX4_lay_54 (by decide) ?_
        refine T_bretB dX4_lay_58 rfl ?_
        refine ⟨_, rfl, fun q h1 h2 => ?_, (by rw [hps] <;> rfl), fun _ => ?_, fun h => (by rw [hps] at h; cases h)⟩
        · rw [q1 q (by simp <;> omega)]; rw [show S3 q = S2 q from funext fun k => o1 q k (by simp <;> omega)]; rw [p1 q (by simp <;> omega), uI_p (by omega), uI_p (by omega), uI_p (by omega), uI_p (by omega)]
        · rw [hps]
          refine ⟨?_, q3.1, ?_, ?_, ?_, fun k hk => ?_, fun k hk => ?_, fun k hk => absurd hk (Nat.not_lt_zero k)⟩
          · rw [q2 8 (by decide)]; exact g3
          · rw [q2 10 (by decide), o1 T 10 (by simp <;> omega), p2 10 (by decide), uI_s]
            show nI v = nI (dv n co 1 4)
            unfold dv; rw [hd]; rfl
          · rw [q2 11 (by decide)]; exact o4 hb
          · rw [q2 12 (by decide), o1 T 12 (by simp <;> omega), p2 12 (by decide), uI_k (by decide), uI_p (by omega), uI_p (by omega), uI_s]; rfl
          · have c := p3.2.2.2.2.2 k hk
            rw [q1 (T + 1) (by simp <;> omega), q1 (T + 2) (by simp <;> omega), q1 (T + 3) (by simp <;> omega), o1 (T + 1) k (by simp <;> omega), o1 (T + 2) k (by simp <;> omega), o1 (T + 3) k (by simp <;> omega)]
            exact c
          · exact q3.2.2.2.2.2 k hk
