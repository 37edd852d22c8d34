/-! game, home, odds, ask, treaty of the class -/
abbrev LOSTV : Int64 := -9223372036854775808
def aHome (a : Nat → Nat → Nat) (x : Int32) : Int64 := if blw x 21 && !decide (a 0 0 = 0) then lN (wkN (a 0 0) (a 3 0 / 8) (a 3 0 % 8) false (ix x) (a 3 0 / 8)) else LOSTV
def hv : Nat → Nat → Nat → Nat × Nat
  | 0, u, l => (u, l)
  | k + 1, u, l => if u % 2 = 0 then hv k (u / 2) (l / 2) else (u, l)
def oddU (a : Nat → Nat → Nat) (e c n : Nat) : Nat := sm (fun i => if who (a 0 0) (a 8 e) i (a 3 0 % 8) = nI c then wkN (a 0 0) (a 3 0 / 8) (a 3 0 % 8) true n i else 0) (a 0 0)
def aOdds (a : Nat → Nat → Nat) (x c n w : Int32) : Int64 := if blw x (a 1 0) && blw c 2 && blw n 9 && blw w 2 then lN (if w = nI 0 then (hv (ix n) (oddU a (ix x) (ix c) (ix n)) (2 ^ ix n)).1 else (hv (ix n) (oddU a (ix x) (ix c) (ix n)) (2 ^ ix n)).2) else LOSTV
theorem sm_upN {A : Nat → Nat} {i v : Nat} : ∀ g, i < g → sm (upN A i v) g + A i = sm A g + v
  | 0, h => absurd h (Nat.not_lt_zero i)
  | g + 1, h => by
    show sm (upN A i v) g + upN A i v g + A i = sm A g + A g + v
    by_cases e : i = g
    · subst e
      have : ∀ n, n ≤ i → sm (upN A i v) n = sm A n := by
        intro n
        induction n with
        | zero => intro _; rfl
        | succ n ih =>
          intro hn
          show sm (upN A i v) n + upN A i v n = sm A n + A n
          rw [ih (by omega), show upN A i v n = A n from if_neg (by omega)]
      rw [this i (Nat.le_refl _), show upN A i v i = v from if_pos rfl]; omega
    · have := sm_upN (A := A) (i := i) (v := v) g (by omega)
      rw [show upN A i v g = A g from if_neg (by omega)]; omega
theorem sm_mono {f h : Nat → Nat} : ∀ n, (∀ i, i < n → f i ≤ h i) → sm f n ≤ sm h n
  | 0, _ => Nat.le_refl _
  | n + 1, q => by
    have := sm_mono n (fun i hi => q i (by omega))
    have := q n (by omega)
    show sm f n + f n ≤ sm h n + h n; omega
theorem wst_tot {g p : Nat} {sy : Bool} {W : Nat → Nat} : ∀ k, k ≤ 2 * g → sm (wst g p sy W k) g ≤ sm (fun j => W (j / 2)) k
  | 0, _ => by
    have : ∀ n, sm (wst g p sy W 0) n = 0 := by
      intro n
      induction n with
      | zero => rfl
      | succ n ih => show sm (wst g p sy W 0) n + 0 = 0; omega
    rw [this]; exact Nat.zero_le _
  | k + 1, hk => by
    have ih := wst_tot (g := g) (sy := sy) (W := W) (p := p) k (by omega)
    show _ ≤ sm (fun j => W (j / 2)) k + W (k / 2)
    have hn := nb_lt (g := g) (k := k / 2) (r := k % 2) (by omega)
    by_cases e : nb g (k / 2) (k % 2) = p
    · cases hs : sy with
      | false => rw [← hs, wst_no rfl rfl e hs]; omega
      | true =>
        rw [← hs, wst_st rfl rfl e hs]
        have := sm_upN (A := wst g p sy W k) (i := k / 2) (v := wst g p sy W k (k / 2) + W (k / 2)) g (by omega)
        omega
    · rw [wst_go rfl rfl e]
      have := sm_upN (A := wst g p sy W k) (i := nb g (k / 2) (k % 2)) (v := wst g p sy W k (nb g (k / 2) (k % 2)) + W (k / 2)) g hn
      omega
theorem sm_half {W : Nat → Nat} : ∀ g, sm (fun j => W (j / 2)) (2 * g) = 2 * sm W g
  | 0 => rfl
  | g + 1 => by
    have ih := sm_half (W := W) g
    show sm (fun j => W (j / 2)) (2 * g) + W ((2 * g) / 2) + W ((2 * g + 1) / 2) = 2 * (sm W g + W g)
    rw [ih, show 2 * g / 2 = g by omega, show (2 * g + 1) / 2 = g by omega]; omega
theorem wkN_tot {g s p : Nat} {sy : Bool} : ∀ n, sm (wkN g s p sy n) g ≤ 2 ^ n
  | 0 => by
    have : ∀ m, sm (wkN g s p sy 0) m ≤ 1 ∧ (m ≤ s → sm (wkN g s p sy 0) m = 0) := by
      intro m
      induction m with
      | zero => exact ⟨Nat.zero_le _, fun _ => rfl⟩
      | succ m ih =>
        have e : sm (wkN g s p sy 0) (m + 1) = sm (wkN g s p sy 0) m + (if m = s then 1 else 0) := rfl
        rw [e]
        by_cases q : m = s
        · rw [if_pos q, ih.2 (by omega)]; exact ⟨by decide, fun h => by omega⟩
        · rw [if_neg q]; exact ⟨by omega, fun h => by rw [ih.2 (by omega)]⟩
    exact (this g).1
  | n + 1 => by
    have h1 := wst_tot (g := g) (p := p) (sy := sy) (W := wkN g s p sy n) (2 * g) (Nat.le_refl _)
    rw [sm_half] at h1
    have h2 := wkN_tot (g := g) (s := s) (p := p) (sy := sy) n
    show sm (wst g p sy (wkN g s p sy n) (2 * g)) g ≤ 2 ^ (n + 1)
    rw [Nat.pow_succ]; omega
theorem oddU_le {a : Nat → Nat → Nat} {e c n : Nat} : oddU a e c n ≤ 2 ^ n := by
  refine Nat.le_trans (sm_mono (h := wkN (a 0 0) (a 3 0 / 8) (a 3 0 % 8) true n) (a 0 0) (fun i _ => ?_)) (wkN_tot n)
  show (if _ then _ else _) ≤ _
  split <;> omega
theorem lshl_n : ∀ n, n < 9 → lN 1 <<< ((nI n).toInt64 &&& 63) = lN (2 ^ n) := by decide +kernel
theorem lgc0 {x y : Int64} : lg_cmp x y = 0 ↔ x = y := by
  unfold lg_cmp
  constructor
  · intro h
    split at h
    · cases h
    · split at h
      · assumption
      · cases h
  · intro e
    subst e
    rw [if_neg (Int64.lt_irrefl), if_pos rfl]
def zr (z : Int32) : Bool := decide (z = -2) || decide (z = -1) || blw z 16
def askV (nx : Nat → Nat → Option Nat) (mf : Nat → Nat → Nat) (K F : Nat) (lb : Nat → Nat) (b0 : Nat) (z : Int32) : Int32 := if lb b0 = F then -9 else if z = -2 then nI (lb b0 / K) else if z = -1 then nI (lb b0 % K) else if lb b0 % K ≤ ix z then -9 else nI (frK nx mf K lb (itb nx mf K lb b0 (ix z)))
theorem z_cases (z : Int32) : z < -2 ∨ (¬ z < -2 ∧ ¬ z ≤ nI 15) ∨ z = -2 ∨ z = -1 ∨ ∃ k, k < 16 ∧ z = nI k := by
  by_cases h1 : z < -2
  · exact Or.inl h1
  · by_cases h2 : z ≤ nI 15
    · have e1 : (-2 : Int32).toInt = -2 := by decide
      have e2 : (-1 : Int32).toInt = -1 := by decide
      have e3 : (nI 15).toInt = 15 := by decide
      have q1 : ¬ z.toInt < -2 := fun q => h1 (Int32.lt_iff_toInt_lt.mpr (by rw [e1]; exact q))
      have q2 := Int32.le_iff_toInt_le.mp h2
      rw [e3] at q2
      rcases (show z.toInt = -2 ∨ z.toInt = -1 ∨ 0 ≤ z.toInt by omega) with q | q | q
      · exact Or.inr (Or.inr (Or.inl (Int32.toInt_inj.mp (by rw [q, e1]))))
      · exact Or.inr (Or.inr (Or.inr (Or.inl (Int32.toInt_inj.mp (by rw [q, e2])))))
      · refine Or.inr (Or.inr (Or.inr (Or.inr ⟨z.toInt.toNat, by omega, Int32.toInt_inj.mp ?_⟩)))
        rw [nI_toInt (by omega)]; omega
    · exact Or.inr (Or.inl ⟨h1, h2⟩)
theorem m12 : (-2 : Int32) ≠ -1 ∧ ¬ (-2 : Int32) < -2 ∧ (-2 : Int32) ≤ nI 15 ∧ ¬ (-1 : Int32) < -2 ∧ (-1 : Int32) ≤ nI 15 ∧ (-1 : Int32) ≠ -2 ∧ ¬ (-1 : Int32) < -1 ∧ (-2 : Int32) < -1 := by decide
theorem k_15 : ∀ k, k < 16 → ¬ nI k < -2 ∧ nI k ≤ nI 15 ∧ nI k ≠ -2 ∧ nI k ≠ -1 ∧ ¬ nI k < -1 := by decide +kernel
theorem zr_lo {z : Int32} (h : z < -2) : zr z = false := by
  have e1 : (-2 : Int32).toInt = -2 := by decide
  have e2 : (-1 : Int32).toInt = -1 := by decide
  have q := Int32.lt_iff_toInt_lt.mp h
  rw [e1] at q
  unfold zr
  rw [decide_eq_false (fun e => by rw [e, e1] at q; omega), decide_eq_false (fun e => by rw [e, e2] at q; omega)]
  cases e : blw z 16 with
  | false => rfl
  | true => obtain ⟨k, hk, rfl⟩ := blw_t e; rw [nI_toInt (by omega)] at q; omega
theorem zr_hi {z : Int32} (h : ¬ z ≤ nI 15) : zr z = false := by
  unfold zr
  rw [decide_eq_false (fun e => h (by rw [e]; decide)), decide_eq_false (fun e => h (by rw [e]; decide))]
  cases e : blw z 16 with
  | false => rfl
  | true => obtain ⟨k, hk, rfl⟩ := blw_t e; exact absurd (k_15 k hk).2.1 h
theorem zr_k {k : Nat} (h : k < 16) : zr (nI k) = true := by unfold zr; rw [blw_n h, Bool.or_true]
/-- what ask answers -/
def AskP (K F : Nat) (a : Nat → Nat → Nat) (x c z r : Int32) : Prop := ((blw x (a 1 0) && blw c 2) = false ∧ r = -1) ∨ ((blw x (a 1 0) && blw c 2) = true ∧ zr z = false ∧ r = -2) ∨ ((blw x (a 1 0) && blw c 2) = true ∧ zr z = true ∧ ∃ lb, FIN (nxA a) (glD a (ix x) (ix c)) (mfA a) K F lb ∧ r = askV (nxA a) (mfA a) K F lb (a 3 0) z)
def zt (z : Int32) : Bool := decide (z = -1) || blw z 16
theorem zt_lo {z : Int32} (h : z < -1) : zt z = false := by
  have e2 : (-1 : Int32).toInt = -1 := by decide
  have q := Int32.lt_iff_toInt_lt.mp h
  rw [e2] at q
  unfold zt
  rw [decide_eq_false (fun e => by rw [e, e2] at q; omega)]
  cases e : blw z 16 with
  | false => rfl
  | true => obtain ⟨k, hk, rfl⟩ := blw_t e; rw [nI_toInt (by omega)] at q; omega
theorem zt_hi {z : Int32} (h : ¬ z ≤ nI 15) : zt z = false := by
  have := zr_hi h
  unfold zr at this
  unfold zt
  cases e : blw z 16 with
  | true => rw [e] at this; simp at this
  | false => rw [decide_eq_false (fun e => h (by rw [e]; decide))]; rfl
def TreP (K F : Nat) (a : Nat → Nat → Nat) (z r : Int32) : Prop := (zt z = false ∧ r = -2) ∨ (zt z = true ∧ a 0 0 = 0 ∧ r = -3) ∨ (zt z = true ∧ a 0 0 ≠ 0 ∧ ∃ lb, FIN (nxA a) (glT a) (fun _ _ => 0) K F lb ∧ r = askV (nxA a) (fun _ _ => 0) K F lb (a 3 0) z)
theorem blw_d {m n : Nat} (hm : m < 2 ^ 31) (hn : n < 2 ^ 31) : blw (nI m) n = decide (m < n) := by
  by_cases h : m < n
  · rw [decide_eq_true h]; exact blw_n h
  · rw [decide_eq_false h]; exact decide_eq_false (fun ⟨j, h1, h2⟩ => by have := nI_inj hm (by omega) h2; omega)
set_option maxRecDepth 20000 in
theorem c_X6_game {S : Nat → Nat → Int32} {L : Nat → Nat → Int64} {nw sp cd : Nat} {d : Nat} (hnw : nw = 19 ∨ nw = 28) {a : Nat → Nat → Nat} (hV : TV S nw a) (hWF : WFA a) {x n w : Int32} : TT mX6_game (d + 14) 0 [some (.ref 0), some (.int (x)), some (.int (n)), some (.int (w))] [] (S, L, (nw, sp, cd)) (rt (some (.int (aGame a x n w))) (S, L, (nw, sp, cd))) := by
  obtain ⟨hg, hdn, hso, hbd, hrn, hgu, hdi, hre⟩ := id hV
  obtain ⟨b8, b6, b3, b64, br8⟩ := hWF.b
  cases hc0 : blw x 2 with
  | false =>
    refine T_ild1 dX6_game_0 ?_
    refine T_iconst (v := nI 2) dX6_game_1 (by decide) ?_
    refine T_invS2i (M' := mX6_isBelow) dX6_game_2 ml_X6_64 imX6_isBelow (Nat.le_of_ble_eq_true rfl) rfl (Nat.le_of_ble_eq_true rfl) (c_X6_isBelow (by omega)) ?_
    refine T_ifneB (tgt := 10) dX6_game_5 (by decide) (fun h5 => by rw [hc0] at h5; cases h5) (fun h5 => ?_)
    refine T_iconst (v := -1) dX6_game_8 (by decide) ?_
    refine T_iret dX6_game_9 rfl ?_
    rw [show aGame a x n w = -1 from if_neg (by simp [hc0])]; exact rt_i
  | true =>
    obtain ⟨c, hc, rfl⟩ := blw_t hc0
    have ic : ix (nI c) = c := ix_n (by omega)
    by_cases hn : n < 0
    · skip
      refine T_ild1 dX6_game_0 ?_
      refine T_iconst (v := nI 2) dX6_game_1 (by decide) ?_
      refine T_invS2i (M' := mX6_isBelow) dX6_game_2 ml_X6_64 imX6_isBelow (Nat.le_of_ble_eq_true rfl) rfl (Nat.le_of_ble_eq_true rfl) (c_X6_isBelow (by omega)) ?_
      refine T_ifneB (tgt := 10) dX6_game_5 (by decide) (fun h5 => ?_) (fun h5 => by rw [hc0] at h5; cases h5)
      refine T_ild2 dX6_game_10 ?_
      refine T_iconst (v := nI 1) dX6_game_11 (by decide) ?_
      refine T_clt (tgt := 29) dX6_game_12 (by decide) (fun h12 => ?_) (fun h12 => by exact absurd (Int32.lt_iff_toInt_lt.mpr (by have := Int32.lt_iff_toInt_lt.mp hn; have e0 : (0 : Int32).toInt = 0 := rfl; have e1 : (nI 1).toInt = 1 := rfl; omega)) h12)
      refine T_bipush (v := -2) dX6_game_29 (by decide) ?_
      refine T_iret dX6_game_31 rfl ?_
      rw [show aGame a (nI c) n w = -2 from (if_pos hc0).trans (if_neg (by rw [show blw n 5 = false from decide_eq_false (fun ⟨j, h1, h2⟩ => not_nI hn (by omega) h2)]; simp))]; exact rt_i
    · obtain ⟨m, hm, rfl⟩ := nI_of hn
      by_cases hw : w < 0
      · skip
        refine T_ild1 dX6_game_0 ?_
        refine T_iconst (v := nI 2) dX6_game_1 (by decide) ?_
        refine T_invS2i (M' := mX6_isBelow) dX6_game_2 ml_X6_64 imX6_isBelow (Nat.le_of_ble_eq_true rfl) rfl (Nat.le_of_ble_eq_true rfl) (c_X6_isBelow (by omega)) ?_
        refine T_ifneB (tgt := 10) dX6_game_5 (by decide) (fun h5 => ?_) (fun h5 => by rw [hc0] at h5; cases h5)
        refine T_ild2 dX6_game_10 ?_
        refine T_iconst (v := nI 1) dX6_game_11 (by decide) ?_
        refine T_cltN (tgt := 29) dX6_game_12 (by decide) (by omega) (by omega) (fun h12 => ?_) (fun h12 => ?_)
        · refine T_bipush (v := -2) dX6_game_29 (by decide) ?_
          refine T_iret dX6_game_31 rfl ?_
          rw [show aGame a (nI c) (nI m) w = -2 from (if_pos hc0).trans (if_neg (by rw [show blw w 2 = false from decide_eq_false (fun ⟨j, h1, h2⟩ => not_nI hw (by omega) h2)]; simp))]; exact rt_i
        · refine T_ild2 dX6_game_15 ?_
          refine T_iconst (v := nI 4) dX6_game_16 (by decide) ?_
          refine T_cgtN (tgt := 29) dX6_game_17 (by decide) (by omega) (by omega) (fun h17 => ?_) (fun h17 => ?_)
          · refine T_bipush (v := -2) dX6_game_29 (by decide) ?_
            refine T_iret dX6_game_31 rfl ?_
            rw [show aGame a (nI c) (nI m) w = -2 from (if_pos hc0).trans (if_neg (by rw [show blw w 2 = false from decide_eq_false (fun ⟨j, h1, h2⟩ => not_nI hw (by omega) h2)]; simp))]; exact rt_i
          · refine T_ild3 dX6_game_20 ?_
            refine T_iflt (tgt := 29) dX6_game_21 (by decide) (fun h21 => ?_) (fun h21 => by exact absurd hw h21)
            refine T_bipush (v := -2) dX6_game_29 (by decide) ?_
            refine T_iret dX6_game_31 rfl ?_
            rw [show aGame a (nI c) (nI m) w = -2 from (if_pos hc0).trans (if_neg (by rw [show blw w 2 = false from decide_eq_false (fun ⟨j, h1, h2⟩ => not_nI hw (by omega) h2)]; simp))]; exact rt_i
      · obtain ⟨v, hv, rfl⟩ := nI_of hw
        have q5 : blw (nI m) 5 = decide (m < 5) := blw_d hm (by decide)
        have q1 : blw (nI m) 1 = decide (m < 1) := blw_d hm (by decide)
        have qv : blw (nI v) 2 = decide (v < 2) := blw_d hv (by decide)
        refine T_ild1 dX6_game_0 ?_
        refine T_iconst (v := nI 2) dX6_game_1 (by decide) ?_
        refine T_invS2i (M' := mX6_isBelow) dX6_game_2 ml_X6_64 imX6_isBelow (Nat.le_of_ble_eq_true rfl) rfl (Nat.le_of_ble_eq_true rfl) (c_X6_isBelow (by omega)) ?_
        refine T_ifneB (tgt := 10) dX6_game_5 (by decide) (fun h5 => ?_) (fun h5 => by rw [hc0] at h5; cases h5)
        refine T_ild2 dX6_game_10 ?_
        refine T_iconst (v := nI 1) dX6_game_11 (by decide) ?_
        refine T_cltN (tgt := 29) dX6_game_12 (by decide) (by omega) (by omega) (fun h12 => ?_) (fun h12 => ?_)
        · refine T_bipush (v := -2) dX6_game_29 (by decide) ?_
          refine T_iret dX6_game_31 rfl ?_
          rw [show aGame a (nI c) (nI m) (nI v) = -2 from (if_pos hc0).trans (if_neg (by rw [q5, q1, qv]; simp; omega))]; exact rt_i
        · refine T_ild2 dX6_game_15 ?_
          refine T_iconst (v := nI 4) dX6_game_16 (by decide) ?_
          refine T_cgtN (tgt := 29) dX6_game_17 (by decide) (by omega) (by omega) (fun h17 => ?_) (fun h17 => ?_)
          · refine T_bipush (v := -2) dX6_game_29 (by decide) ?_
            refine T_iret dX6_game_31 rfl ?_
            rw [show aGame a (nI c) (nI m) (nI v) = -2 from (if_pos hc0).trans (if_neg (by rw [q5, q1, qv]; simp; omega))]; exact rt_i
          · refine T_ild3 dX6_game_20 ?_
            refine T_ifltN (tgt := 29) dX6_game_21 (by decide) (by omega) ?_
            refine T_ild3 dX6_game_24 ?_
            refine T_iconst (v := nI 1) dX6_game_25 (by decide) ?_
            refine T_cleN (tgt := 32) dX6_game_26 (by decide) (by omega) (by omega) (fun h26 => ?_) (fun h26 => ?_)
            · refine T_ald0 dX6_game_32 ?_
              refine T_getR (q := nw) dX6_game_33 lf_X6_48 rfl rfl rfl ?_
              refine T_invV0i (M' := mX4_isLaid) dX6_game_36 ml_X6_125 imX4_isLaid (kT hnw) (Nat.le_of_ble_eq_true rfl) rfl (Nat.le_of_ble_eq_true rfl) rfl (Nat.le_of_ble_eq_true rfl) (c_X4_isLaid hnw hg b8) ?_
              refine T_ifneB (tgt := 45) dX6_game_39 (by decide) (fun h39 => ?_) (fun h39 => ?_)
              · have h0 : 0 < a 0 0 := of_decide_eq_true h39
                have hW := hWF.g h0
                obtain ⟨w3, w8, wd1, wd6, wso, wb, wbs, wbp, wne, wrn, wgu, wdi, wre⟩ := id hW
                refine T_ild3 dX6_game_45 ?_
                refine T_ifneN (tgt := 69) dX6_game_46 (by decide) (by omega) (fun h46 => ?_) (fun h46 => ?_)
                · refine T_ald0 dX6_game_69 ?_
                  refine T_getR (q := nw) dX6_game_70 lf_X6_48 rfl rfl rfl ?_
                  refine T_ild1 dX6_game_73 ?_
                  refine T_ild2 dX6_game_74 ?_
                  refine T_invV2i (M' := mX4_bestRequest) dX6_game_75 ml_X6_188 imX4_bestRequest (kT hnw) (Nat.le_of_ble_eq_true rfl) rfl (Nat.le_of_ble_eq_true rfl) rfl (Nat.le_of_ble_eq_true rfl) (by have q := c_X4_bestRequest (L := L) (R := (nw, sp, cd)) (n := m - 1) (c := c) (d := d + 8 - 2 * (m - 1)) hnw hV hW (by omega) (by omega); rw [show d + 8 - 2 * (m - 1) + 2 * (m - 1) + 5 = d + 13 by omega, show m - 1 + 1 = m by omega] at q; exact q) ?_
                  refine T_iret dX6_game_78 rfl ?_
                  rw [show aGame a (nI c) (nI m) (nI v) = nI (arx (MB a (m - 1) c (a 3 0)) 3) from (if_pos hc0).trans ((if_pos (by rw [q5, q1, qv]; simp; omega)).trans ((if_neg (by omega)).trans ((if_neg (fun e => h46 (nI_inj hv (by decide) e))).trans (by rw [ic, ix_n hm]))))]; exact rt_i
                · refine T_bipush (v := nI 100) dX6_game_49 (by decide) ?_
                  refine T_ald0 dX6_game_51 ?_
                  refine T_getR (q := nw) dX6_game_52 lf_X6_48 rfl rfl rfl ?_
                  refine T_ald0 dX6_game_55 ?_
                  refine T_getR (q := nw) dX6_game_56 lf_X6_48 rfl rfl rfl ?_
                  refine T_getN dX6_game_59 lf_X6_115 (kT hnw) rfl hbd ?_
                  refine T_ild1 dX6_game_62 ?_
                  refine T_ild2 dX6_game_63 ?_
                  refine T_invVN3i (M' := mX4_bestMargin) dX6_game_64 ml_X6_185 imX4_bestMargin (kT hnw) (Nat.le_of_ble_eq_true rfl) rfl (Nat.le_of_ble_eq_true rfl) rfl (Nat.le_of_ble_eq_true rfl) (by have q := c_bm (L := L) (R := (nw, sp, cd)) hnw hV hW m (by omega) (d + 10 - 2 * m) c _ (by omega) wb wbs wbp; rw [show d + 10 - 2 * m + 2 * m + 3 = d + 13 by omega] at q; exact q) ?_
                  refine T_iadd dX6_game_67 ?_
                  refine T_iret dX6_game_68 rfl ?_
                  rw [show aGame a (nI c) (nI m) (nI v) = nI 100 + zI (GM a m c (a 3 0)) from (if_pos hc0).trans ((if_pos (by rw [q5, q1, qv]; simp; omega)).trans ((if_neg (by omega)).trans ((if_pos (by rw [h46])).trans (by rw [ic, ix_n hm]))))]; exact rt_i
              · refine T_bipush (v := -3) dX6_game_42 (by decide) ?_
                refine T_iret dX6_game_44 rfl ?_
                rw [show aGame a (nI c) (nI m) (nI v) = -3 from (if_pos hc0).trans ((if_pos (by rw [q5, q1, qv]; simp; omega)).trans (if_pos (by have := of_decide_eq_false h39; omega)))]; exact rt_i
            · refine T_bipush (v := -2) dX6_game_29 (by decide) ?_
              refine T_iret dX6_game_31 rfl ?_
              rw [show aGame a (nI c) (nI m) (nI v) = -2 from (if_pos hc0).trans (if_neg (by rw [q5, q1, qv]; simp; omega))]; exact rt_i
set_option maxRecDepth 20000 in
theorem c_X6_home {S : Nat → Nat → Int32} {L : Nat → Nat → Int64} {nw sp cd : Nat} {d : Nat} (hnw : nw = 19 ∨ nw = 28) {a : Nat → Nat → Nat} (hV : TV S nw a) (hWF : WFA a) {x : Int32} : TT mX6_home (d + 4) 0 [some (.ref 0), some (.int (x))] [] (S, L, (nw, sp, cd)) (fun r σ' => ∃ L', σ' = (S, L', (nw, sp, cd)) ∧ r = some (.long (aHome a x))) := by
  obtain ⟨hg, hdn, hso, hbd, hrn, hgu, hdi, hre⟩ := id hV
  obtain ⟨b8, b6, b3, b64, br8⟩ := hWF.b
  refine T_ild1 dX6_home_0 ?_
  refine T_bipush (v := nI 21) dX6_home_1 (by decide) ?_
  refine T_invS2i (M' := mX6_isBelow) dX6_home_3 ml_X6_64 imX6_isBelow (Nat.le_of_ble_eq_true rfl) rfl (Nat.le_of_ble_eq_true rfl) (c_X6_isBelow (by omega)) ?_
  refine T_ifeqB (tgt := 19) dX6_home_6 (by decide) (fun h6 => ?_) (fun h6 => ?_)
  · refine T_ldc2 ct_X6_194 dX6_home_19 ?_
    refine T_lret dX6_home_22 rfl ?_
    rw [show aHome a x = LOSTV from if_neg (by first | (simp [h6]; done) | (have := of_decide_eq_false h16; simp [show a 0 0 = 0 by omega]))]; exact ⟨_, rfl, rfl⟩
  · refine T_ald0 dX6_home_9 ?_
    refine T_getR (q := nw) dX6_home_10 lf_X6_48 rfl rfl rfl ?_
    refine T_invV0i (M' := mX4_isLaid) dX6_home_13 ml_X6_125 imX4_isLaid (kT hnw) (Nat.le_of_ble_eq_true rfl) rfl (Nat.le_of_ble_eq_true rfl) rfl (Nat.le_of_ble_eq_true rfl) (c_X4_isLaid hnw hg b8) ?_
    refine T_ifneB (tgt := 23) dX6_home_16 (by decide) (fun h16 => ?_) (fun h16 => ?_)
    · obtain ⟨n, hn, rfl⟩ := blw_t h6
      have i_n : ix (nI n) = n := ix_n (by omega)
      have h0 : 0 < a 0 0 := of_decide_eq_true h16
      have hW := hWF.g h0
      obtain ⟨w3, w8, wd1, wd6, wso, wb, wbs, wbp, wne, wrn, wgu, wdi, wre⟩ := id hW
      refine T_ald0 dX6_home_23 ?_
      refine T_getR (q := 16) dX6_home_24 lf_X6_41 rfl rfl rfl ?_
      refine T_ald0 dX6_home_27 ?_
      refine T_getR (q := nw) dX6_home_28 lf_X6_48 rfl rfl rfl ?_
      refine T_ild1 dX6_home_31 ?_
      refine T_iconst (v := bI false) dX6_home_32 (by decide) ?_
      refine T_invV3 (M' := mX2_go) dX6_home_33 ml_X6_196 imX2_go rfl (Nat.le_of_ble_eq_true rfl) rfl (Nat.le_of_ble_eq_true rfl) rfl (Nat.le_of_ble_eq_true rfl) (c_X2_go hnw hV hW (by omega)) (fun r σ' hq => ?_)
      obtain ⟨rfl, L2, rfl, p1, p2⟩ := hq
      refine T_ald0 dX6_home_36 ?_
      refine T_getR (q := 16) dX6_home_37 lf_X6_41 rfl rfl rfl ?_
      refine T_getR (q := 17) dX6_home_40 lf_X6_200 rfl rfl rfl ?_
      refine T_ald0 dX6_home_43 ?_
      refine T_getR (q := nw) dX6_home_44 lf_X6_48 rfl rfl rfl ?_
      refine T_getN dX6_home_47 lf_X6_115 (kT hnw) rfl hbd ?_
      refine T_invS1i (M' := mX6_saltOf) dX6_home_50 ml_X6_161 imX6_saltOf (Nat.le_of_ble_eq_true rfl) rfl (Nat.le_of_ble_eq_true rfl) (c_X6_saltOf (by omega)) ?_
      refine T_lald dX6_home_53 rfl (by show _ < 8; omega) rfl ?_
      refine T_lret dX6_home_54 rfl ?_
      refine ⟨_, rfl, ?_⟩
      rw [p2 _ wbs, show aHome a (nI n) = _ from if_pos (by rw [h6, decide_eq_false (show ¬ a 0 0 = 0 by omega)]; rfl), i_n]
    · refine T_ldc2 ct_X6_194 dX6_home_19 ?_
      refine T_lret dX6_home_22 rfl ?_
      rw [show aHome a x = LOSTV from if_neg (by first | (simp [h6]; done) | (have := of_decide_eq_false h16; simp [show a 0 0 = 0 by omega]))]; exact ⟨_, rfl, rfl⟩
theorem le1_2 {w : Int32} (h1 : ¬ w < 0) (h2 : w ≤ nI 1) : blw w 2 = true := by
  obtain ⟨k, hk, rfl⟩ := nI_of h1
  exact blw_n (by have := (nI_leI hk (by decide)).mp h2; omega)
theorem nle1_2 {w : Int32} (h : ¬ w ≤ nI 1) : blw w 2 = false := decide_eq_false (fun ⟨j, h1, h2⟩ => h (by rw [h2]; exact nI_le (by omega) (by decide)))
theorem neg_2 {w : Int32} {n : Nat} (hn : n < 2 ^ 31) (h : w < 0) : blw w n = false := decide_eq_false (fun ⟨j, h1, h2⟩ => not_nI h (by omega) h2)
set_option maxRecDepth 20000 in
theorem c_X6_odds {S : Nat → Nat → Int32} {L : Nat → Nat → Int64} {nw sp cd : Nat} {d : Nat} (hnw : nw = 19 ∨ nw = 28) {a : Nat → Nat → Nat} (hV : TV S nw a) (hWF : WFA a) {x y z w : Int32} : TT mX6_odds (d + 4) 0 [some (.ref 0), some (.int (x)), some (.int (y)), some (.int (z)), some (.int (w)), none, none, none, none, none] [] (S, L, (nw, sp, cd)) (fun r σ' => ∃ L', σ' = (S, L', (nw, sp, cd)) ∧ r = some (.long (aOdds a x y z w))) := by
  obtain ⟨hg, hdn, hso, hbd, hrn, hgu, hdi, hre⟩ := id hV
  obtain ⟨b8, b6, b3, b64, br8⟩ := hWF.b
  cases hc : (blw x (a 1 0) && blw y 2 && blw z 9 && blw w 2) with
  | false =>
    refine T_ild1 dX6_odds_0 ?_
    refine T_ald0 dX6_odds_1 ?_
    refine T_getR (q := nw) dX6_odds_2 lf_X6_48 rfl rfl rfl ?_
    refine T_getN dX6_odds_5 lf_X6_106 (kT hnw) rfl hdn ?_
    refine T_invS2i (M' := mX6_isBelow) dX6_odds_8 ml_X6_64 imX6_isBelow (Nat.le_of_ble_eq_true rfl) rfl (Nat.le_of_ble_eq_true rfl) (c_X6_isBelow (by omega)) ?_
    refine T_ifeqB (tgt := 22) dX6_odds_11 (by decide) (fun h11 => ?_) (fun h11 => ?_)
    · refine T_ldc2 ct_X6_194 dX6_odds_22 ?_
      refine T_lret dX6_odds_25 rfl ?_
      rw [show aOdds a x y z w = LOSTV from if_neg (by rw [hc]; decide)]; exact ⟨_, rfl, rfl⟩
    · refine T_ild2 dX6_odds_14 ?_
      refine T_iconst (v := nI 2) dX6_odds_15 (by decide) ?_
      refine T_invS2i (M' := mX6_isBelow) dX6_odds_16 ml_X6_64 imX6_isBelow (Nat.le_of_ble_eq_true rfl) rfl (Nat.le_of_ble_eq_true rfl) (c_X6_isBelow (by omega)) ?_
      refine T_ifneB (tgt := 26) dX6_odds_19 (by decide) (fun h19 => ?_) (fun h19 => ?_)
      · refine T_ild3 dX6_odds_26 ?_
        refine T_bipush (v := nI 9) dX6_odds_27 (by decide) ?_
        refine T_invS2i (M' := mX6_isBelow) dX6_odds_29 ml_X6_64 imX6_isBelow (Nat.le_of_ble_eq_true rfl) rfl (Nat.le_of_ble_eq_true rfl) (c_X6_isBelow (by omega)) ?_
        refine T_ifeqB (tgt := 46) dX6_odds_32 (by decide) (fun h32 => ?_) (fun h32 => ?_)
        · refine T_ldc2 ct_X6_194 dX6_odds_46 ?_
          refine T_lret dX6_odds_49 rfl ?_
          rw [show aOdds a x y z w = LOSTV from if_neg (by rw [hc]; decide)]; exact ⟨_, rfl, rfl⟩
        · refine T_ild4 dX6_odds_35 ?_
          refine T_iflt (tgt := 46) dX6_odds_37 (by decide) (fun h37 => ?_) (fun h37 => ?_)
          · refine T_ldc2 ct_X6_194 dX6_odds_46 ?_
            refine T_lret dX6_odds_49 rfl ?_
            rw [show aOdds a x y z w = LOSTV from if_neg (by rw [hc]; decide)]; exact ⟨_, rfl, rfl⟩
          · refine T_ild4 dX6_odds_40 ?_
            refine T_iconst (v := nI 1) dX6_odds_42 (by decide) ?_
            refine T_cle (tgt := 50) dX6_odds_43 (by decide) (fun h43 => ?_) (fun h43 => ?_)
            · exfalso; rw [h11, h19, h32, le1_2 h37 h43] at hc; cases hc
            · refine T_ldc2 ct_X6_194 dX6_odds_46 ?_
              refine T_lret dX6_odds_49 rfl ?_
              rw [show aOdds a x y z w = LOSTV from if_neg (by rw [hc]; decide)]; exact ⟨_, rfl, rfl⟩
      · refine T_ldc2 ct_X6_194 dX6_odds_22 ?_
        refine T_lret dX6_odds_25 rfl ?_
        rw [show aOdds a x y z w = LOSTV from if_neg (by rw [hc]; decide)]; exact ⟨_, rfl, rfl⟩
  | true =>
    have hc0 := hc
    simp only [Bool.and_eq_true] at hc
    obtain ⟨⟨⟨k1, k2⟩, k3⟩, k4⟩ := hc
    obtain ⟨e, he, rfl⟩ := blw_t k1
    obtain ⟨c, hc, rfl⟩ := blw_t k2
    obtain ⟨n, hn, rfl⟩ := blw_t k3
    obtain ⟨v, hv2, rfl⟩ := blw_t k4
    have hW := hWF.d (by omega)
    obtain ⟨w3, w8, wd1, wd6, wso, wb, wbs, wbp, wne, wrn, wgu, wdi, wre⟩ := id hW
    have p2n : 2 ^ n ≤ 256 := pow_le (by omega)
    have hans : aOdds a (nI e) (nI c) (nI n) (nI v) = lN (if nI v = nI 0 then (hv n (oddU a e c n) (2 ^ n)).1 else (hv n (oddU a e c n) (2 ^ n)).2) := by
      refine (if_pos hc0).trans ?_
      rw [ix_n (by omega), ix_n (by omega), ix_n (by omega)]
    refine T_ild1 dX6_odds_0 ?_
    refine T_ald0 dX6_odds_1 ?_
    refine T_getR (q := nw) dX6_odds_2 lf_X6_48 rfl rfl rfl ?_
    refine T_getN dX6_odds_5 lf_X6_106 (kT hnw) rfl hdn ?_
    refine T_invS2i (M' := mX6_isBelow) dX6_odds_8 ml_X6_64 imX6_isBelow (Nat.le_of_ble_eq_true rfl) rfl (Nat.le_of_ble_eq_true rfl) (c_X6_isBelow (by omega)) ?_
    refine T_ifeqB (tgt := 22) dX6_odds_11 (by decide) (fun h11 => by rw [k1] at h11; cases h11) (fun h11 => ?_)
    refine T_ild2 dX6_odds_14 ?_
    refine T_iconst (v := nI 2) dX6_odds_15 (by decide) ?_
    refine T_invS2i (M' := mX6_isBelow) dX6_odds_16 ml_X6_64 imX6_isBelow (Nat.le_of_ble_eq_true rfl) rfl (Nat.le_of_ble_eq_true rfl) (c_X6_isBelow (by omega)) ?_
    refine T_ifneB (tgt := 26) dX6_odds_19 (by decide) (fun h19 => ?_) (fun h19 => by rw [k2] at h19; cases h19)
    refine T_ild3 dX6_odds_26 ?_
    refine T_bipush (v := nI 9) dX6_odds_27 (by decide) ?_
    refine T_invS2i (M' := mX6_isBelow) dX6_odds_29 ml_X6_64 imX6_isBelow (Nat.le_of_ble_eq_true rfl) rfl (Nat.le_of_ble_eq_true rfl) (c_X6_isBelow (by omega)) ?_
    refine T_ifeqB (tgt := 46) dX6_odds_32 (by decide) (fun h32 => by rw [k3] at h32; cases h32) (fun h32 => ?_)
    refine T_ild4 dX6_odds_35 ?_
    refine T_ifltN (tgt := 46) dX6_odds_37 (by decide) (by omega) ?_
    refine T_ild4 dX6_odds_40 ?_
    refine T_iconst (v := nI 1) dX6_odds_42 (by decide) ?_
    refine T_cleN (tgt := 50) dX6_odds_43 (by decide) (by omega) (by omega) (fun h43 => ?_) (fun h43 => by exfalso; omega)
    refine T_ald0 dX6_odds_50 ?_
    refine T_getR (q := 16) dX6_odds_51 lf_X6_41 rfl rfl rfl ?_
    refine T_ald0 dX6_odds_54 ?_
    refine T_getR (q := nw) dX6_odds_55 lf_X6_48 rfl rfl rfl ?_
    refine T_ild3 dX6_odds_58 ?_
    refine T_iconst (v := bI true) dX6_odds_59 (by decide) ?_
    refine T_invV3 (M' := mX2_go) dX6_odds_60 ml_X6_196 imX2_go rfl (Nat.le_of_ble_eq_true rfl) rfl (Nat.le_of_ble_eq_true rfl) rfl (Nat.le_of_ble_eq_true rfl) (c_X2_go hnw hV hW (by omega)) (fun r σ' hq => ?_)
    obtain ⟨rfl, L2, rfl, p1, p2⟩ := hq
    refine T_ald0 dX6_odds_63 ?_
    refine T_getR (q := 16) dX6_odds_64 lf_X6_41 rfl rfl rfl ?_
    refine T_ald0 dX6_odds_67 ?_
    refine T_getR (q := nw) dX6_odds_68 lf_X6_48 rfl rfl rfl ?_
    refine T_ild1 dX6_odds_71 ?_
    refine T_ild2 dX6_odds_72 ?_
    refine T_invV3l (M' := mX2_waysToOwn) dX6_odds_73 ml_X6_217 imX2_waysToOwn rfl (Nat.le_of_ble_eq_true rfl) rfl (Nat.le_of_ble_eq_true rfl) rfl (Nat.le_of_ble_eq_true rfl) (c_X2_waysToOwn hnw hV hW he p2) ?_
    refine T_lst5 dX6_odds_76 (by decide) rfl ?_
    refine T_lconst (v := lN 1) dX6_odds_78 (by decide) ?_
    refine T_ild3 dX6_odds_79 ?_
    refine T_lshl dX6_odds_80 ?_
    rw [lshl_n n (by omega)]
    refine T_lst7 dX6_odds_81 (by decide) rfl ?_
    refine T_iconst (v := nI 0) dX6_odds_83 (by decide) ?_
    refine T_ist9 dX6_odds_84 (by decide) rfl ?_
    refine up_ind (P := fun i => ∀ u l, u < 2 ^ 62 → l < 2 ^ 62 → hv (n - i) u l = hv n (oddU a e c n) (2 ^ n) → TT mX6_odds (d + 4) 86 [some (.ref 0), some (.int (nI e)), some (.int (nI c)), some (.int (nI n)), some (.int (nI v)), some (.long (lN u)), none, some (.long (lN l)), none, some (.int (nI i))] [] (S, L2, (nw, sp, cd)) (fun r σ' => ∃ L', σ' = (S, L', (nw, sp, cd)) ∧ r = some (.long (aOdds a (nI e) (nI c) (nI n) (nI v))))) n ?_ ?_ (oddU a e c n) (2 ^ n) (by have := oddU_le (a := a) (e := e) (c := c) (n := n); have := p2n; omega) (by omega) rfl
    · intro u l hu hl hh
      refine T_ild9 dX6_odds_86 ?_
      refine T_ild3 dX6_odds_88 ?_
      refine T_cgeN (tgt := 125) dX6_odds_89 (by decide) (by omega) (by omega) (fun h89 => ?_) (fun h89 => by exfalso; omega)
      have hfin : hv n (oddU a e c n) (2 ^ n) = (u, l) := by rw [← hh, Nat.sub_self]; rfl
      refine T_ild4 dX6_odds_125 ?_
      refine T_ifneN (tgt := 135) dX6_odds_127 (by decide) (by omega) (fun h127 => ?_) (fun h127 => ?_)
      · refine T_lld7 dX6_odds_135 ?_
        refine T_lret dX6_odds_137 rfl ?_
        first
          | (refine ⟨_, rfl, ?_⟩; rw [hans, if_pos (by rw [h127])]; rw [hfin])
          | (refine ⟨_, rfl, ?_⟩; rw [hans, if_neg (fun q => h127 (nI_inj (by omega) (by decide) q))]; rw [hfin])
      · refine T_lld5 dX6_odds_130 ?_
        refine T_goto (tgt := 137) dX6_odds_132 (by decide) ?_
        refine T_lret dX6_odds_137 rfl ?_
        first
          | (refine ⟨_, rfl, ?_⟩; rw [hans, if_pos (by rw [h127])]; rw [hfin])
          | (refine ⟨_, rfl, ?_⟩; rw [hans, if_neg (fun q => h127 (nI_inj (by omega) (by decide) q))]; rw [hfin])
    · intro i hi ih u l hu hl hh
      refine T_ild9 dX6_odds_86 ?_
      refine T_ild3 dX6_odds_88 ?_
      refine T_cgeN (tgt := 125) dX6_odds_89 (by decide) (by omega) (by omega) (fun h89 => by exfalso; omega) (fun h89 => ?_)
      refine T_lld5 dX6_odds_92 ?_
      refine T_ldc2 ct_X6_221 dX6_odds_94 ?_
      rw [show (2 : Int64) = lN 2 by decide]
      refine T_lrem dX6_odds_97 (by decide) ?_
      rw [pk_lRem (by omega) (by decide) (by decide)]
      refine T_lconst (v := lN 0) dX6_odds_98 (by decide) ?_
      refine T_lcmp dX6_odds_99 ?_
      refine T_ifne (tgt := 125) dX6_odds_100 (by decide) (fun h100 => ?_) (fun h100 => ?_)
      · have he : u % 2 ≠ 0 := fun q => h100 (lgc0.mpr (by rw [q]))
        have hfin : hv n (oddU a e c n) (2 ^ n) = (u, l) := by rw [← hh, show n - i = (n - (i + 1)) + 1 by omega]; exact if_neg he
        refine T_ild4 dX6_odds_125 ?_
        refine T_ifneN (tgt := 135) dX6_odds_127 (by decide) (by omega) (fun h127 => ?_) (fun h127 => ?_)
        · refine T_lld7 dX6_odds_135 ?_
          refine T_lret dX6_odds_137 rfl ?_
          first
            | (refine ⟨_, rfl, ?_⟩; rw [hans, if_pos (by rw [h127])]; rw [hfin])
            | (refine ⟨_, rfl, ?_⟩; rw [hans, if_neg (fun q => h127 (nI_inj (by omega) (by decide) q))]; rw [hfin])
        · refine T_lld5 dX6_odds_130 ?_
          refine T_goto (tgt := 137) dX6_odds_132 (by decide) ?_
          refine T_lret dX6_odds_137 rfl ?_
          first
            | (refine ⟨_, rfl, ?_⟩; rw [hans, if_pos (by rw [h127])]; rw [hfin])
            | (refine ⟨_, rfl, ?_⟩; rw [hans, if_neg (fun q => h127 (nI_inj (by omega) (by decide) q))]; rw [hfin])
      · have he : u % 2 = 0 := by have q := lgc0.mp h100; exact (pk_lEQ (by omega) (by decide)).mp q
        refine T_lld5 dX6_odds_103 ?_
        refine T_ldc2 ct_X6_221 dX6_odds_105 ?_
        rw [show (2 : Int64) = lN 2 by decide]
        refine T_ldiv dX6_odds_108 (by decide) ?_
        rw [pk_lDiv (by omega) (by decide) (by decide)]
        refine T_lst5 dX6_odds_109 (by decide) rfl ?_
        refine T_lld7 dX6_odds_111 ?_
        refine T_ldc2 ct_X6_221 dX6_odds_113 ?_
        rw [show (2 : Int64) = lN 2 by decide]
        refine T_ldiv dX6_odds_116 (by decide) ?_
        rw [pk_lDiv (by omega) (by decide) (by decide)]
        refine T_lst7 dX6_odds_117 (by decide) rfl ?_
        refine T_inc9N dX6_odds_119 (by decide) rfl ?_
        refine T_goto (tgt := 86) dX6_odds_122 (by decide) ?_
        refine ih (u / 2) (l / 2) (by omega) (by omega) ?_
        rw [← hh, show n - i = (n - (i + 1)) + 1 by omega]; exact (if_pos he).symm
set_option maxRecDepth 20000 in
theorem c_X6_ask {S : Nat → Nat → Int32} {L : Nat → Nat → Int64} {nw sp cd : Nat} {d : Nat} (hnw : nw = 19 ∨ nw = 28) {a : Nat → Nat → Nat} (hV : TV S nw a) (hWF : WFA a) {x y z : Int32} : TT mX6_ask (d + 6) 0 [some (.ref 0), some (.int (x)), some (.int (y)), some (.int (z))] [] (S, L, (nw, sp, cd)) (fun r σ' => ∃ S', σ' = (S', L, (nw, sp, cd)) ∧ TV S' nw a ∧ FC S S' ∧ ∃ v, r = some (.int v) ∧ AskP 1000 FAR a x y z v) := by
  obtain ⟨hg, hdn, hso, hbd, hrn, hgu, hdi, hre⟩ := id hV
  obtain ⟨b8, b6, b3, b64, br8⟩ := hWF.b
  cases hc0 : (blw x (a 1 0) && blw y 2) with
  | false =>
    refine T_ild1 dX6_ask_0 ?_
    refine T_ald0 dX6_ask_1 ?_
    refine T_getR (q := nw) dX6_ask_2 lf_X6_48 rfl rfl rfl ?_
    refine T_getN dX6_ask_5 lf_X6_106 (kT hnw) rfl hdn ?_
    refine T_invS2i (M' := mX6_isBelow) dX6_ask_8 ml_X6_64 imX6_isBelow (Nat.le_of_ble_eq_true rfl) rfl (Nat.le_of_ble_eq_true rfl) (c_X6_isBelow (by omega)) ?_
    refine T_ifeqB (tgt := 22) dX6_ask_11 (by decide) (fun h11 => ?_) (fun h11 => ?_)
    · refine T_iconst (v := -1) dX6_ask_22 (by decide) ?_
      refine T_iret dX6_ask_23 rfl ?_
      refine ⟨_, rfl, hV, FC_r, _, rfl, Or.inl ⟨hc0, rfl⟩⟩
    · refine T_ild2 dX6_ask_14 ?_
      refine T_iconst (v := nI 2) dX6_ask_15 (by decide) ?_
      refine T_invS2i (M' := mX6_isBelow) dX6_ask_16 ml_X6_64 imX6_isBelow (Nat.le_of_ble_eq_true rfl) rfl (Nat.le_of_ble_eq_true rfl) (c_X6_isBelow (by omega)) ?_
      refine T_ifneB (tgt := 24) dX6_ask_19 (by decide) (fun h19 => ?_) (fun h19 => ?_)
      · exfalso; rw [h11, h19] at hc0; cases hc0
      · refine T_iconst (v := -1) dX6_ask_22 (by decide) ?_
        refine T_iret dX6_ask_23 rfl ?_
        refine ⟨_, rfl, hV, FC_r, _, rfl, Or.inl ⟨hc0, rfl⟩⟩
  | true =>
    have hc1 := hc0
    simp only [Bool.and_eq_true] at hc1
    obtain ⟨k1, k2⟩ := hc1
    obtain ⟨e, he, rfl⟩ := blw_t k1
    obtain ⟨c, hc, rfl⟩ := blw_t k2
    have ie : ix (nI e) = e := ix_n (by omega)
    have ic : ix (nI c) = c := ix_n (by omega)
    have hW := hWF.d (by omega)
    obtain ⟨w3, w8, wd1, wd6, wso, wb, wbs, wbp, wne, wrn, wgu, wdi, wre⟩ := id hW
    rcases z_cases z with hz | hz | rfl | rfl | ⟨k, hk, rfl⟩
    · skip
      refine T_ild1 dX6_ask_0 ?_
      refine T_ald0 dX6_ask_1 ?_
      refine T_getR (q := nw) dX6_ask_2 lf_X6_48 rfl rfl rfl ?_
      refine T_getN dX6_ask_5 lf_X6_106 (kT hnw) rfl hdn ?_
      refine T_invS2i (M' := mX6_isBelow) dX6_ask_8 ml_X6_64 imX6_isBelow (Nat.le_of_ble_eq_true rfl) rfl (Nat.le_of_ble_eq_true rfl) (c_X6_isBelow (by omega)) ?_
      refine T_ifeqB (tgt := 22) dX6_ask_11 (by decide) (fun h11 => by rw [k1] at h11; cases h11) (fun h11 => ?_)
      refine T_ild2 dX6_ask_14 ?_
      refine T_iconst (v := nI 2) dX6_ask_15 (by decide) ?_
      refine T_invS2i (M' := mX6_isBelow) dX6_ask_16 ml_X6_64 imX6_isBelow (Nat.le_of_ble_eq_true rfl) rfl (Nat.le_of_ble_eq_true rfl) (c_X6_isBelow (by omega)) ?_
      refine T_ifneB (tgt := 24) dX6_ask_19 (by decide) (fun h19 => ?_) (fun h19 => by rw [k2] at h19; cases h19)
      refine T_ild3 dX6_ask_24 ?_
      refine T_bipush (v := -2) dX6_ask_25 (by decide) ?_
      refine T_clt (tgt := 36) dX6_ask_27 (by decide) (fun h27 => ?_) (fun h27 => by exact absurd hz h27)
      refine T_bipush (v := -2) dX6_ask_36 (by decide) ?_
      refine T_iret dX6_ask_38 rfl ?_
      refine ⟨_, rfl, hV, FC_r, _, rfl, Or.inr (Or.inl ⟨hc0, zr_lo hz, rfl⟩)⟩
    · skip
      refine T_ild1 dX6_ask_0 ?_
      refine T_ald0 dX6_ask_1 ?_
      refine T_getR (q := nw) dX6_ask_2 lf_X6_48 rfl rfl rfl ?_
      refine T_getN dX6_ask_5 lf_X6_106 (kT hnw) rfl hdn ?_
      refine T_invS2i (M' := mX6_isBelow) dX6_ask_8 ml_X6_64 imX6_isBelow (Nat.le_of_ble_eq_true rfl) rfl (Nat.le_of_ble_eq_true rfl) (c_X6_isBelow (by omega)) ?_
      refine T_ifeqB (tgt := 22) dX6_ask_11 (by decide) (fun h11 => by rw [k1] at h11; cases h11) (fun h11 => ?_)
      refine T_ild2 dX6_ask_14 ?_
      refine T_iconst (v := nI 2) dX6_ask_15 (by decide) ?_
      refine T_invS2i (M' := mX6_isBelow) dX6_ask_16 ml_X6_64 imX6_isBelow (Nat.le_of_ble_eq_true rfl) rfl (Nat.le_of_ble_eq_true rfl) (c_X6_isBelow (by omega)) ?_
      refine T_ifneB (tgt := 24) dX6_ask_19 (by decide) (fun h19 => ?_) (fun h19 => by rw [k2] at h19; cases h19)
      refine T_ild3 dX6_ask_24 ?_
      refine T_bipush (v := -2) dX6_ask_25 (by decide) ?_
      refine T_clt (tgt := 36) dX6_ask_27 (by decide) (fun h27 => by exact absurd h27 hz.1) (fun h27 => ?_)
      refine T_ild3 dX6_ask_30 ?_
      refine T_bipush (v := nI 15) dX6_ask_31 (by decide) ?_
      refine T_cle (tgt := 39) dX6_ask_33 (by decide) (fun h33 => by exact absurd h33 hz.2) (fun h33 => ?_)
      refine T_bipush (v := -2) dX6_ask_36 (by decide) ?_
      refine T_iret dX6_ask_38 rfl ?_
      refine ⟨_, rfl, hV, FC_r, _, rfl, Or.inr (Or.inl ⟨hc0, zr_hi hz.2, rfl⟩)⟩
    · skip
      refine T_ild1 dX6_ask_0 ?_
      refine T_ald0 dX6_ask_1 ?_
      refine T_getR (q := nw) dX6_ask_2 lf_X6_48 rfl rfl rfl ?_
      refine T_getN dX6_ask_5 lf_X6_106 (kT hnw) rfl hdn ?_
      refine T_invS2i (M' := mX6_isBelow) dX6_ask_8 ml_X6_64 imX6_isBelow (Nat.le_of_ble_eq_true rfl) rfl (Nat.le_of_ble_eq_true rfl) (c_X6_isBelow (by omega)) ?_
      refine T_ifeqB (tgt := 22) dX6_ask_11 (by decide) (fun h11 => by rw [k1] at h11; cases h11) (fun h11 => ?_)
      refine T_ild2 dX6_ask_14 ?_
      refine T_iconst (v := nI 2) dX6_ask_15 (by decide) ?_
      refine T_invS2i (M' := mX6_isBelow) dX6_ask_16 ml_X6_64 imX6_isBelow (Nat.le_of_ble_eq_true rfl) rfl (Nat.le_of_ble_eq_true rfl) (c_X6_isBelow (by omega)) ?_
      refine T_ifneB (tgt := 24) dX6_ask_19 (by decide) (fun h19 => ?_) (fun h19 => by rw [k2] at h19; cases h19)
      refine T_ild3 dX6_ask_24 ?_
      refine T_bipush (v := -2) dX6_ask_25 (by decide) ?_
      refine T_clt (tgt := 36) dX6_ask_27 (by decide) (fun h27 => by exact absurd h27 m12.2.1) (fun h27 => ?_)
      refine T_ild3 dX6_ask_30 ?_
      refine T_bipush (v := nI 15) dX6_ask_31 (by decide) ?_
      refine T_cle (tgt := 39) dX6_ask_33 (by decide) (fun h33 => ?_) (fun h33 => by exact absurd m12.2.2.1 h33)
      refine T_ald0 dX6_ask_39 ?_
      refine T_getR (q := 13) dX6_ask_40 lf_X6_34 rfl rfl rfl ?_
      refine T_ald0 dX6_ask_43 ?_
      refine T_getR (q := nw) dX6_ask_44 lf_X6_48 rfl rfl rfl ?_
      refine T_ild1 dX6_ask_47 ?_
      refine T_ild2 dX6_ask_48 ?_
      refine T_invV3 (M' := mX1_planForDish) dX6_ask_49 ml_X6_167 imX1_planForDish rfl (Nat.le_of_ble_eq_true rfl) rfl (Nat.le_of_ble_eq_true rfl) rfl (Nat.le_of_ble_eq_true rfl) (c_X1_planForDish hnw hV hW he) (fun r σ' hq => ?_)
      obtain ⟨rfl, S2, lb, rfl, p1, p2, p3, p4, p5⟩ := hq
      have hV2 : TV S2 nw a := hV.cong (fun q h1 h2 _ => p1 q (by simp <;> omega))
      have hC2 : FC S S2 := ⟨fun q hq => p1 q (by simp <;> omega), by rw [p1 0 (by simp)], by rw [p1 0 (by simp)]⟩
      refine T_ild3 dX6_ask_52 ?_
      refine T_bipush (v := -2) dX6_ask_53 (by decide) ?_
      refine T_cne (tgt := 70) dX6_ask_55 (by decide) (fun h55 => by exact absurd rfl h55) (fun h55 => ?_)
      refine T_ald0 dX6_ask_58 ?_
      refine T_getR (q := 13) dX6_ask_59 lf_X6_34 rfl rfl rfl ?_
      refine T_ald0 dX6_ask_62 ?_
      refine T_getR (q := nw) dX6_ask_63 lf_X6_48 rfl rfl rfl ?_
      refine T_invV1i (M' := mX1_minutes) dX6_ask_66 ml_X6_171 imX1_minutes rfl (Nat.le_of_ble_eq_true rfl) rfl (Nat.le_of_ble_eq_true rfl) rfl (Nat.le_of_ble_eq_true rfl) (c_X1_minutes hnw hV2 hW p2 p4) ?_
      refine T_iret dX6_ask_69 rfl ?_
      refine ⟨_, rfl, hV2, hC2, _, rfl, Or.inr (Or.inr ⟨hc0, rfl, lb, by rw [ie, ic]; exact p3, ?_⟩)⟩
      unfold askV
      by_cases hF0 : lb (a 3 0) = FAR
      · rw [if_pos hF0, if_pos hF0]
      · rw [if_neg hF0, if_neg hF0, if_pos rfl]
    · skip
      refine T_ild1 dX6_ask_0 ?_
      refine T_ald0 dX6_ask_1 ?_
      refine T_getR (q := nw) dX6_ask_2 lf_X6_48 rfl rfl rfl ?_
      refine T_getN dX6_ask_5 lf_X6_106 (kT hnw) rfl hdn ?_
      refine T_invS2i (M' := mX6_isBelow) dX6_ask_8 ml_X6_64 imX6_isBelow (Nat.le_of_ble_eq_true rfl) rfl (Nat.le_of_ble_eq_true rfl) (c_X6_isBelow (by omega)) ?_
      refine T_ifeqB (tgt := 22) dX6_ask_11 (by decide) (fun h11 => by rw [k1] at h11; cases h11) (fun h11 => ?_)
      refine T_ild2 dX6_ask_14 ?_
      refine T_iconst (v := nI 2) dX6_ask_15 (by decide) ?_
      refine T_invS2i (M' := mX6_isBelow) dX6_ask_16 ml_X6_64 imX6_isBelow (Nat.le_of_ble_eq_true rfl) rfl (Nat.le_of_ble_eq_true rfl) (c_X6_isBelow (by omega)) ?_
      refine T_ifneB (tgt := 24) dX6_ask_19 (by decide) (fun h19 => ?_) (fun h19 => by rw [k2] at h19; cases h19)
      refine T_ild3 dX6_ask_24 ?_
      refine T_bipush (v := -2) dX6_ask_25 (by decide) ?_
      refine T_clt (tgt := 36) dX6_ask_27 (by decide) (fun h27 => by exact absurd h27 m12.2.2.2.1) (fun h27 => ?_)
      refine T_ild3 dX6_ask_30 ?_
      refine T_bipush (v := nI 15) dX6_ask_31 (by decide) ?_
      refine T_cle (tgt := 39) dX6_ask_33 (by decide) (fun h33 => ?_) (fun h33 => by exact absurd m12.2.2.2.2.1 h33)
      refine T_ald0 dX6_ask_39 ?_
      refine T_getR (q := 13) dX6_ask_40 lf_X6_34 rfl rfl rfl ?_
      refine T_ald0 dX6_ask_43 ?_
      refine T_getR (q := nw) dX6_ask_44 lf_X6_48 rfl rfl rfl ?_
      refine T_ild1 dX6_ask_47 ?_
      refine T_ild2 dX6_ask_48 ?_
      refine T_invV3 (M' := mX1_planForDish) dX6_ask_49 ml_X6_167 imX1_planForDish rfl (Nat.le_of_ble_eq_true rfl) rfl (Nat.le_of_ble_eq_true rfl) rfl (Nat.le_of_ble_eq_true rfl) (c_X1_planForDish hnw hV hW he) (fun r σ' hq => ?_)
      obtain ⟨rfl, S2, lb, rfl, p1, p2, p3, p4, p5⟩ := hq
      have hV2 : TV S2 nw a := hV.cong (fun q h1 h2 _ => p1 q (by simp <;> omega))
      have hC2 : FC S S2 := ⟨fun q hq => p1 q (by simp <;> omega), by rw [p1 0 (by simp)], by rw [p1 0 (by simp)]⟩
      refine T_ild3 dX6_ask_52 ?_
      refine T_bipush (v := -2) dX6_ask_53 (by decide) ?_
      refine T_cne (tgt := 70) dX6_ask_55 (by decide) (fun h55 => ?_) (fun h55 => by exact absurd h55 m12.2.2.2.2.2.1)
      refine T_ild3 dX6_ask_70 ?_
      refine T_iconst (v := -1) dX6_ask_71 (by decide) ?_
      refine T_cne (tgt := 89) dX6_ask_72 (by decide) (fun h72 => by exact absurd rfl h72) (fun h72 => ?_)
      refine T_ald0 dX6_ask_75 ?_
      refine T_getR (q := 13) dX6_ask_76 lf_X6_34 rfl rfl rfl ?_
      refine T_ald0 dX6_ask_79 ?_
      refine T_getR (q := nw) dX6_ask_80 lf_X6_48 rfl rfl rfl ?_
      refine T_invV1i (M' := mX1_requests) dX6_ask_83 ml_X6_174 imX1_requests rfl (Nat.le_of_ble_eq_true rfl) rfl (Nat.le_of_ble_eq_true rfl) rfl (Nat.le_of_ble_eq_true rfl) (c_X1_requests hnw hV2 hW p2 p4) ?_
      refine T_goto (tgt := 101) dX6_ask_86 (by decide) ?_
      refine T_iret dX6_ask_101 rfl ?_
      refine ⟨_, rfl, hV2, hC2, _, rfl, Or.inr (Or.inr ⟨hc0, rfl, lb, by rw [ie, ic]; exact p3, ?_⟩)⟩
      unfold askV
      by_cases hF0 : lb (a 3 0) = FAR
      · rw [if_pos hF0, if_pos hF0]
      · rw [if_neg hF0, if_neg hF0, if_neg m12.2.2.2.2.2.1, if_pos rfl]
    · skip
      refine T_ild1 dX6_ask_0 ?_
      refine T_ald0 dX6_ask_1 ?_
      refine T_getR (q := nw) dX6_ask_2 lf_X6_48 rfl rfl rfl ?_
      refine T_getN dX6_ask_5 lf_X6_106 (kT hnw) rfl hdn ?_
      refine T_invS2i (M' := mX6_isBelow) dX6_ask_8 ml_X6_64 imX6_isBelow (Nat.le_of_ble_eq_true rfl) rfl (Nat.le_of_ble_eq_true rfl) (c_X6_isBelow (by omega)) ?_
      refine T_ifeqB (tgt := 22) dX6_ask_11 (by decide) (fun h11 => by rw [k1] at h11; cases h11) (fun h11 => ?_)
      refine T_ild2 dX6_ask_14 ?_
      refine T_iconst (v := nI 2) dX6_ask_15 (by decide) ?_
      refine T_invS2i (M' := mX6_isBelow) dX6_ask_16 ml_X6_64 imX6_isBelow (Nat.le_of_ble_eq_true rfl) rfl (Nat.le_of_ble_eq_true rfl) (c_X6_isBelow (by omega)) ?_
      refine T_ifneB (tgt := 24) dX6_ask_19 (by decide) (fun h19 => ?_) (fun h19 => by rw [k2] at h19; cases h19)
      refine T_ild3 dX6_ask_24 ?_
      refine T_bipush (v := -2) dX6_ask_25 (by decide) ?_
      refine T_clt (tgt := 36) dX6_ask_27 (by decide) (fun h27 => by exact absurd h27 (k_15 k hk).1) (fun h27 => ?_)
      refine T_ild3 dX6_ask_30 ?_
      refine T_bipush (v := nI 15) dX6_ask_31 (by decide) ?_
      refine T_cleN (tgt := 39) dX6_ask_33 (by decide) (by omega) (by omega) (fun h33 => ?_) (fun h33 => by exfalso; omega)
      refine T_ald0 dX6_ask_39 ?_
      refine T_getR (q := 13) dX6_ask_40 lf_X6_34 rfl rfl rfl ?_
      refine T_ald0 dX6_ask_43 ?_
      refine T_getR (q := nw) dX6_ask_44 lf_X6_48 rfl rfl rfl ?_
      refine T_ild1 dX6_ask_47 ?_
      refine T_ild2 dX6_ask_48 ?_
      refine T_invV3 (M' := mX1_planForDish) dX6_ask_49 ml_X6_167 imX1_planForDish rfl (Nat.le_of_ble_eq_true rfl) rfl (Nat.le_of_ble_eq_true rfl) rfl (Nat.le_of_ble_eq_true rfl) (c_X1_planForDish hnw hV hW he) (fun r σ' hq => ?_)
      obtain ⟨rfl, S2, lb, rfl, p1, p2, p3, p4, p5⟩ := hq
      have hV2 : TV S2 nw a := hV.cong (fun q h1 h2 _ => p1 q (by simp <;> omega))
      have hC2 : FC S S2 := ⟨fun q hq => p1 q (by simp <;> omega), by rw [p1 0 (by simp)], by rw [p1 0 (by simp)]⟩
      refine T_ild3 dX6_ask_52 ?_
      refine T_bipush (v := -2) dX6_ask_53 (by decide) ?_
      refine T_cne (tgt := 70) dX6_ask_55 (by decide) (fun h55 => ?_) (fun h55 => by exact absurd h55 (k_15 k hk).2.2.1)
      refine T_ild3 dX6_ask_70 ?_
      refine T_iconst (v := -1) dX6_ask_71 (by decide) ?_
      refine T_cne (tgt := 89) dX6_ask_72 (by decide) (fun h72 => ?_) (fun h72 => by exact absurd h72 (k_15 k hk).2.2.2.1)
      refine T_ald0 dX6_ask_89 ?_
      refine T_getR (q := 13) dX6_ask_90 lf_X6_34 rfl rfl rfl ?_
      refine T_ald0 dX6_ask_93 ?_
      refine T_getR (q := nw) dX6_ask_94 lf_X6_48 rfl rfl rfl ?_
      refine T_ild3 dX6_ask_97 ?_
      refine T_invV2i (M' := mX1_requestAt) dX6_ask_98 ml_X6_177 imX1_requestAt rfl (Nat.le_of_ble_eq_true rfl) rfl (Nat.le_of_ble_eq_true rfl) rfl (Nat.le_of_ble_eq_true rfl) (c_X1_requestAt hnw hV2 hW (wt := fun i => 1000 * miN a i + 1) (mf := mfA a) (fun i hi => p5 i hi) (fun i hi => by have h1 := wgu i hi; have h2 := minN_le (k := a 5 i) (m := a 6 i) (so := a 2 0); show 1000 * miN a i + 1 ≤ 20000; unfold miN; omega) (fun b r h1 h2 => by unfold mfA; rw [if_pos h1]) p2 p4 (big_D hW) p3 hk) ?_
      refine T_iret dX6_ask_101 rfl ?_
      refine ⟨_, rfl, hV2, hC2, _, rfl, Or.inr (Or.inr ⟨hc0, zr_k hk, lb, by rw [ie, ic]; exact p3, ?_⟩)⟩
      unfold askV
      rw [if_neg (k_15 k hk).2.2.1, if_neg (k_15 k hk).2.2.2.1, ix_n (by omega)]
theorem zt_k {k : Nat} (h : k < 16) : zt (nI k) = true := by unfold zt; rw [blw_n h, Bool.or_true]
set_option maxRecDepth 20000 in
theorem c_X6_treaty {S : Nat → Nat → Int32} {L : Nat → Nat → Int64} {nw sp cd : Nat} {d : Nat} (hnw : nw = 19 ∨ nw = 28) {a : Nat → Nat → Nat} (hV : TV S nw a) (hWF : WFA a) {z : Int32} : TT mX6_treaty (d + 6) 0 [some (.ref 0), some (.int (z))] [] (S, L, (nw, sp, cd)) (fun r σ' => ∃ S', σ' = (S', L, (nw, sp, cd)) ∧ TV S' nw a ∧ FC S S' ∧ ∃ v, r = some (.int v) ∧ TreP 1000 FAR a z v) := by
  obtain ⟨hg, hdn, hso, hbd, hrn, hgu, hdi, hre⟩ := id hV
  obtain ⟨b8, b6, b3, b64, br8⟩ := hWF.b
  rcases z_cases z with hz | hz | rfl | rfl | ⟨k, hk, rfl⟩
  · have hz : z < -1 := Int32.lt_trans hz m12.2.2.2.2.2.2.2
    refine T_ild1 dX6_treaty_0 ?_
    refine T_iconst (v := -1) dX6_treaty_1 (by decide) ?_
    refine T_clt (tgt := 11) dX6_treaty_2 (by decide) (fun h2 => ?_) (fun h2 => by exact absurd hz h2)
    refine T_bipush (v := -2) dX6_treaty_11 (by decide) ?_
    refine T_iret dX6_treaty_13 rfl ?_
    refine ⟨_, rfl, hV, FC_r, _, rfl, Or.inl ⟨zt_lo hz, rfl⟩⟩
  · skip
    refine T_ild1 dX6_treaty_0 ?_
    refine T_iconst (v := -1) dX6_treaty_1 (by decide) ?_
    refine T_clt (tgt := 11) dX6_treaty_2 (by decide) (fun h2 => ?_) (fun h2 => ?_)
    · refine T_bipush (v := -2) dX6_treaty_11 (by decide) ?_
      refine T_iret dX6_treaty_13 rfl ?_
      refine ⟨_, rfl, hV, FC_r, _, rfl, Or.inl ⟨zt_hi hz.2, rfl⟩⟩
    · refine T_ild1 dX6_treaty_5 ?_
      refine T_bipush (v := nI 15) dX6_treaty_6 (by decide) ?_
      refine T_cle (tgt := 14) dX6_treaty_8 (by decide) (fun h8 => by exact absurd h8 hz.2) (fun h8 => ?_)
      refine T_bipush (v := -2) dX6_treaty_11 (by decide) ?_
      refine T_iret dX6_treaty_13 rfl ?_
      refine ⟨_, rfl, hV, FC_r, _, rfl, Or.inl ⟨zt_hi hz.2, rfl⟩⟩
  · have hz : (-2 : Int32) < -1 := m12.2.2.2.2.2.2.2
    refine T_ild1 dX6_treaty_0 ?_
    refine T_iconst (v := -1) dX6_treaty_1 (by decide) ?_
    refine T_clt (tgt := 11) dX6_treaty_2 (by decide) (fun h2 => ?_) (fun h2 => by exact absurd hz h2)
    refine T_bipush (v := -2) dX6_treaty_11 (by decide) ?_
    refine T_iret dX6_treaty_13 rfl ?_
    refine ⟨_, rfl, hV, FC_r, _, rfl, Or.inl ⟨zt_lo hz, rfl⟩⟩
  · skip
    refine T_ild1 dX6_treaty_0 ?_
    refine T_iconst (v := -1) dX6_treaty_1 (by decide) ?_
    refine T_clt (tgt := 11) dX6_treaty_2 (by decide) (fun h2 => by exact absurd h2 m12.2.2.2.2.2.2.1) (fun h2 => ?_)
    refine T_ild1 dX6_treaty_5 ?_
    refine T_bipush (v := nI 15) dX6_treaty_6 (by decide) ?_
    refine T_cle (tgt := 14) dX6_treaty_8 (by decide) (fun h8 => ?_) (fun h8 => by exact absurd m12.2.2.2.2.1 h8)
    refine T_ald0 dX6_treaty_14 ?_
    refine T_getR (q := nw) dX6_treaty_15 lf_X6_48 rfl rfl rfl ?_
    refine T_invV0i (M' := mX4_isLaid) dX6_treaty_18 ml_X6_125 imX4_isLaid (kT hnw) (Nat.le_of_ble_eq_true rfl) rfl (Nat.le_of_ble_eq_true rfl) rfl (Nat.le_of_ble_eq_true rfl) (c_X4_isLaid hnw hg b8) ?_
    refine T_ifneB (tgt := 27) dX6_treaty_21 (by decide) (fun h21 => ?_) (fun h21 => ?_)
    · have h0 : 0 < a 0 0 := of_decide_eq_true h21
      have hW := hWF.g h0
      obtain ⟨w3, w8, wd1, wd6, wso, wb, wbs, wbp, wne, wrn, wgu, wdi, wre⟩ := id hW
      refine T_ald0 dX6_treaty_27 ?_
      refine T_getR (q := 13) dX6_treaty_28 lf_X6_34 rfl rfl rfl ?_
      refine T_ald0 dX6_treaty_31 ?_
      refine T_getR (q := nw) dX6_treaty_32 lf_X6_48 rfl rfl rfl ?_
      refine T_invV1 (M' := mX1_planForTreaty) dX6_treaty_35 ml_X6_181 imX1_planForTreaty rfl (Nat.le_of_ble_eq_true rfl) rfl (Nat.le_of_ble_eq_true rfl) rfl (Nat.le_of_ble_eq_true rfl) (c_X1_planForTreaty hnw hV hW) (fun r σ' hq => ?_)
      obtain ⟨rfl, S2, lb, rfl, p1, p2, p3, p4, p5⟩ := hq
      have hV2 : TV S2 nw a := hV.cong (fun q h1 h2 _ => p1 q (by simp <;> omega))
      have hC2 : FC S S2 := ⟨fun q hq => p1 q (by simp <;> omega), by rw [p1 0 (by simp)], by rw [p1 0 (by simp)]⟩
      refine T_ild1 dX6_treaty_38 ?_
      refine T_iconst (v := -1) dX6_treaty_39 (by decide) ?_
      refine T_cne (tgt := 57) dX6_treaty_40 (by decide) (fun h40 => by exact absurd rfl h40) (fun h40 => ?_)
      refine T_ald0 dX6_treaty_43 ?_
      refine T_getR (q := 13) dX6_treaty_44 lf_X6_34 rfl rfl rfl ?_
      refine T_ald0 dX6_treaty_47 ?_
      refine T_getR (q := nw) dX6_treaty_48 lf_X6_48 rfl rfl rfl ?_
      refine T_invV1i (M' := mX1_requests) dX6_treaty_51 ml_X6_174 imX1_requests rfl (Nat.le_of_ble_eq_true rfl) rfl (Nat.le_of_ble_eq_true rfl) rfl (Nat.le_of_ble_eq_true rfl) (c_X1_requests hnw hV2 hW p2 p4) ?_
      refine T_goto (tgt := 69) dX6_treaty_54 (by decide) ?_
      refine T_iret dX6_treaty_69 rfl ?_
      refine ⟨_, rfl, hV2, hC2, _, rfl, Or.inr (Or.inr ⟨rfl, by omega, lb, p3, ?_⟩)⟩
      unfold askV
      by_cases hF0 : lb (a 3 0) = FAR
      · rw [if_pos hF0, if_pos hF0]
      · rw [if_neg hF0, if_neg hF0, if_neg m12.2.2.2.2.2.1, if_pos rfl]
    · refine T_bipush (v := -3) dX6_treaty_24 (by decide) ?_
      refine T_iret dX6_treaty_26 rfl ?_
      refine ⟨_, rfl, hV, FC_r, _, rfl, Or.inr (Or.inl ⟨rfl, by have := of_decide_eq_false h21; omega, rfl⟩)⟩
  · skip
    refine T_ild1 dX6_treaty_0 ?_
    refine T_iconst (v := -1) dX6_treaty_1 (by decide) ?_
    refine T_clt (tgt := 11) dX6_treaty_2 (by decide) (fun h2 => by exact absurd h2 (k_15 k hk).2.2.2.2) (fun h2 => ?_)
    refine T_ild1 dX6_treaty_5 ?_
    refine T_bipush (v := nI 15) dX6_treaty_6 (by decide) ?_
    refine T_cleN (tgt := 14) dX6_treaty_8 (by decide) (by omega) (by omega) (fun h8 => ?_) (fun h8 => by exfalso; omega)
    refine T_ald0 dX6_treaty_14 ?_
    refine T_getR (q := nw) dX6_treaty_15 lf_X6_48 rfl rfl rfl ?_
    refine T_invV0i (M' := mX4_isLaid) dX6_treaty_18 ml_X6_125 imX4_isLaid (kT hnw) (Nat.le_of_ble_eq_true rfl) rfl (Nat.le_of_ble_eq_true rfl) rfl (Nat.le_of_ble_eq_true rfl) (c_X4_isLaid hnw hg b8) ?_
    refine T_ifneB (tgt := 27) dX6_treaty_21 (by decide) (fun h21 => ?_) (fun h21 => ?_)
    · have h0 : 0 < a 0 0 := of_decide_eq_true h21
      have hW := hWF.g h0
      obtain ⟨w3, w8, wd1, wd6, wso, wb, wbs, wbp, wne, wrn, wgu, wdi, wre⟩ := id hW
      refine T_ald0 dX6_treaty_27 ?_
      refine T_getR (q := 13) dX6_treaty_28 lf_X6_34 rfl rfl rfl ?_
      refine T_ald0 dX6_treaty_31 ?_
      refine T_getR (q := nw) dX6_treaty_32 lf_X6_48 rfl rfl rfl ?_
      refine T_invV1 (M' := mX1_planForTreaty) dX6_treaty_35 ml_X6_181 imX1_planForTreaty rfl (Nat.le_of_ble_eq_true rfl) rfl (Nat.le_of_ble_eq_true rfl) rfl (Nat.le_of_ble_eq_true rfl) (c_X1_planForTreaty hnw hV hW) (fun r σ' hq => ?_)
      obtain ⟨rfl, S2, lb, rfl, p1, p2, p3, p4, p5⟩ := hq
      have hV2 : TV S2 nw a := hV.cong (fun q h1 h2 _ => p1 q (by simp <;> omega))
      have hC2 : FC S S2 := ⟨fun q hq => p1 q (by simp <;> omega), by rw [p1 0 (by simp)], by rw [p1 0 (by simp)]⟩
      refine T_ild1 dX6_treaty_38 ?_
      refine T_iconst (v := -1) dX6_treaty_39 (by decide) ?_
      refine T_cne (tgt := 57) dX6_treaty_40 (by decide) (fun h40 => ?_) (fun h40 => by exact absurd h40 (k_15 k hk).2.2.2.1)
      refine T_ald0 dX6_treaty_57 ?_
      refine T_getR (q := 13) dX6_treaty_58 lf_X6_34 rfl rfl rfl ?_
      refine T_ald0 dX6_treaty_61 ?_
      refine T_getR (q := nw) dX6_treaty_62 lf_X6_48 rfl rfl rfl ?_
      refine T_ild1 dX6_treaty_65 ?_
      refine T_invV2i (M' := mX1_requestAt) dX6_treaty_66 ml_X6_177 imX1_requestAt rfl (Nat.le_of_ble_eq_true rfl) rfl (Nat.le_of_ble_eq_true rfl) rfl (Nat.le_of_ble_eq_true rfl) (c_X1_requestAt hnw hV2 hW (wt := fun i => 0 * miN a i + 1) (mf := fun _ _ => 0) (fun i hi => p5 i hi) (fun i hi => by have h1 := wgu i hi; have h2 := minN_le (k := a 5 i) (m := a 6 i) (so := a 2 0); show 0 * miN a i + 1 ≤ 20000; unfold miN; omega) (fun b r h1 h2 => by simp) p2 p4 big_T p3 hk) ?_
      refine T_iret dX6_treaty_69 rfl ?_
      refine ⟨_, rfl, hV2, hC2, _, rfl, Or.inr (Or.inr ⟨zt_k hk, by omega, lb, p3, ?_⟩)⟩
      unfold askV
      rw [if_neg (k_15 k hk).2.2.1, if_neg (k_15 k hk).2.2.2.1, ix_n (by omega)]
    · refine T_bipush (v := -3) dX6_treaty_24 (by decide) ?_
      refine T_iret dX6_treaty_26 rfl ?_
      refine ⟨_, rfl, hV, FC_r, _, rfl, Or.inr (Or.inl ⟨zt_k hk, by have := of_decide_eq_false h21; omega, rfl⟩)⟩
