/-! rows of TT: fields, arrays, returns, calls -/
def cC (ci : Nat) : String := match ci with
  | 0 => RX0 | 1 => RX1 | 2 => RX2 | 3 => RX3 | 4 => RX4 | 5 => RX5 | 6 => RX6 | _ => RX7
def cT (ci : Nat) : u_T := match ci with
  | 0 => TX0 | 1 => TX1 | 2 => TX2 | 3 => TX3 | 4 => TX4 | 5 => TX5 | 6 => TX6 | _ => TX7
def cTy (ci : Nat) : Nat → FieldType := match ci with
  | 0 => tyX0 | 1 => tyX1 | 2 => tyX2 | 3 => tyX3 | 4 => tyX4 | 5 => tyX5 | 6 => tyX6 | _ => tyX7
theorem c_get {ci : Nat} (h : ci < 8) : vwCl[ci]? = some (cC ci, cT ci, nF ci) := by
  match ci, h with
  | 0, _ => rfl | 1, _ => rfl | 2, _ => rfl | 3, _ => rfl | 4, _ => rfl | 5, _ => rfl | 6, _ => rfl | 7, _ => rfl
  | k + 8, h => exact absurd h (by omega)
theorem c_in {ci : Nat} (h : ci < 8) : ∀ w ∈ u_ws (cC ci) (cT ci) (nF ci), w ∈ lU := by
  match ci, h with
  | 0, _ => exact inX0 | 1, _ => exact inX1 | 2, _ => exact inX2 | 3, _ => exact inX3 | 4, _ => exact inX4 | 5, _ => exact inX5 | 6, _ => exact inX6 | 7, _ => exact inX7
  | k + 8, h => exact absurd h (by omega)
theorem c_ty {ci : Nat} (h : ci < 8) : ∀ k, k < nF ci → parseFieldDescriptor (cT ci k).2.2.1 = some (cTy ci k) := by
  match ci, h with
  | 0, _ => exact tyX0_ok | 1, _ => exact tyX1_ok | 2, _ => exact tyX2_ok | 3, _ => exact tyX3_ok | 4, _ => exact tyX4_ok | 5, _ => exact tyX5_ok | 6, _ => exact tyX6_ok | 7, _ => exact tyX7_ok
  | k + 8, h => exact absurd h (by omega)
theorem c_nm {ci : Nat} (h : ci < 8) : ∀ a, a < nF ci → ∀ b, b < nF ci → a ≠ b → (cT ci a).2.1 ≠ (cT ci b).2.1 := by
  match ci, h with
  | 0, _ => exact nmX0 | 1, _ => exact nmX1 | 2, _ => exact nmX2 | 3, _ => exact nmX3 | 4, _ => exact nmX4 | 5, _ => exact nmX5 | 6, _ => exact nmX6 | 7, _ => exact nmX7
  | k + 8, h => exact absurd h (by omega)
def FL (own : String) (idx ci k : Nat) : Prop := ci < 8 ∧ k < nF ci ∧ Cond.fieldLink own idx (cT ci k).1 (cT ci k).2.1 (cT ci k).2.2.1 ∈ lU
def FLN (own : String) (idx ci k : Nat) : Prop := ci < 8 ∧ k < nF ci ∧ Cond.fieldLinkNest own idx (cT ci k).1 (cT ci k).2.1 (cT ci k).2.2.1 RX6 ∈ nwL
theorem ln_le (p : Nat) : ln p ≤ 256 := by
  unfold ln
  rw [List.getD_eq_getElem?_getD]
  cases h : lnL[p]? with
  | none => exact Nat.zero_le _
  | some v =>
    have hm := List.mem_of_getElem? h
    have : ∀ w ∈ lnL, w ≤ 256 := by decide +kernel
    exact this v hm
theorem nest_on {w : Cond} (h : isNest w = true) : w.onTables = true := by
  cases w <;> first | rfl | (simp [isNest] at h)
theorem nw_on {w : Cond} (h : w ∈ nwL) : w.onTables = true := nest_on (List.mem_filter.mp h).2
theorem nw_warm {s U : State} (hW : s.WarmedH U.vm) (h : ∀ w ∈ nwL, va_Nw w s) : ∀ w ∈ nwL, va_Nw w U := by
  intro w hw
  have h1 := h w hw
  have h2 := (List.mem_filter.mp hw).2
  cases w <;> first | exact va_Nw.warmF hW h1 | exact va_Nw.warmM hW h1 | (simp [isNest] at h2)
section THEAP
variable {M : MD} {d pc : Nat} {lo : List (Option Value)} {st : List Value} {S : Nat → Nat → Int32} {L : Nat → Nat → Int64} {R : Nat × Nat × Nat} {σ : SG} {Q : Option Value → SG → Prop}
theorem obj_at {ad : Nat → Nat} {cI cJ cO : ClassId} {p ci : Nat} (hk : kd p = ci) (hc : ci < 8) : (wl ad cI cJ cO σ)[p]? = some (ad p, .inr (ci, fvs ad σ p ci)) := by
  rw [wl_get (kd_lt hk (by omega)), cell_obj hk hc]
theorem T_getI {p ci k idx : Nat} (hd : decode M.2.1 pc = .ok (.getfield idx, 3)) (hf : FL M.1.cls idx ci k) (hk : kd p = ci) (hr : isR ci k = false) (kk : TT M d (pc + 3) lo (.int (S p k) :: st) (S, L, R) Q) : TT M d pc lo (.ref p :: st) (S, L, R) Q := by
  intro l p' e s m args below meth c G ad cI cJ cO C H locs ls hP hS hl
  have C0 := C
  obtain ⟨hx, hb, hml, hown, hts, hrt, hlk, hK, hN, hinj⟩ := C
  exact va_get hx hb hts (c_in hf.1) hown hK hP p (obj_at hk hf.1) (c_get hf.1) k hf.2.1 (hts _ hf.2.2) (fun _ h => h) (v := .int (S p k)) (by rw [fvs_get hf.2.1]; simp [fv, hr]) hd (kk l p' e s m args below meth c G ad cI cJ cO C0 H locs ls hP hS hl)
theorem T_getR {p ci k idx q : Nat} (hd : decode M.2.1 pc = .ok (.getfield idx, 3)) (hf : FL M.1.cls idx ci k) (hk : kd p = ci) (hr : isR ci k = true) (hq : rf R p k = q) (kk : TT M d (pc + 3) lo (.ref q :: st) (S, L, R) Q) : TT M d pc lo (.ref p :: st) (S, L, R) Q := by
  intro l p' e s m args below meth c G ad cI cJ cO C H locs ls hP hS hl
  have C0 := C
  obtain ⟨hx, hb, hml, hown, hts, hrt, hlk, hK, hN, hinj⟩ := C
  exact va_get hx hb hts (c_in hf.1) hown hK hP p (obj_at hk hf.1) (c_get hf.1) k hf.2.1 (hts _ hf.2.2) (fun _ h => h) (v := .ref (ad q)) (by rw [fvs_get hf.2.1]; simp [fv, hr, hq]) hd (kk l p' e s m args below meth c G ad cI cJ cO C0 H locs ls hP hS hl)
theorem T_getIN {p ci k idx : Nat} (hd : decode M.2.1 pc = .ok (.getfield idx, 3)) (hf : FLN M.1.cls idx ci k) (hk : kd p = ci) (hr : isR ci k = false) (kk : TT M d (pc + 3) lo (.int (S p k) :: st) (S, L, R) Q) : TT M d pc lo (.ref p :: st) (S, L, R) Q := by
  intro l p' e s m args below meth c G ad cI cJ cO C H locs ls hP hS hl
  have C0 := C
  obtain ⟨hx, hb, hml, hown, hts, hrt, hlk, hK, hN, hinj⟩ := C
  exact va_getN hx hb hts (c_in hf.1) hown hK hP p (obj_at hk hf.1) (c_get hf.1) k hf.2.1 (va_Nw.use (nw_on hf.2.2) (hN _ hf.2.2)) (fun _ h => h) (v := .int (S p k)) (by rw [fvs_get hf.2.1]; simp [fv, hr]) hd (kk l p' e s m args below meth c G ad cI cJ cO C0 H locs ls hP hS hl)
theorem set_fld {ad : Nat → Nat} {cI cJ cO : ClassId} {p ci k : Nat} {x : Int32} (hk : kd p = ci) (hc : ci < 8) (hf : k < nF ci) (hr : isR ci k = false) : (wl ad cI cJ cO (S, L, R)).set p (ad p, .inr (ci, (fvs ad (S, L, R) p ci).set k (.int x))) = wl ad cI cJ cO (uI S p k x, L, R) := by
  refine wl_set (kd_lt hk (by omega)) ?_ (fun q _ hqp => cell_off (uI_p hqp))
  rw [cell_obj hk hc, fvs_set hf]
  · simp [fv, hr, uI]
  · intro j _ hj
    simp [fv, uI, hj]
theorem T_put {p ci k idx : Nat} {x : Int32} {ty : FieldType} (hd : decode M.2.1 pc = .ok (.putfield idx, 3)) (hf : FL M.1.cls idx ci k) (hk : kd p = ci) (hr : isR ci k = false) (hfin : (cT ci k).2.2.2 = false) (hty : parseFieldDescriptor (cT ci k).2.2.1 = some ty) (hn : narrow ty (.int x) = .int x) (hft : fits ty (.int x) = true) (kk : TT M d (pc + 3) lo st (uI S p k x, L, R) Q) : TT M d pc lo (.int x :: .ref p :: st) (S, L, R) Q := by
  intro l p' e s m args below meth c G ad cI cJ cO C H locs ls hP hS hl
  have C0 := C
  obtain ⟨hx, hb, hml, hown, hts, hrt, hlk, hK, hN, hinj⟩ := C
  refine va_put hx hb hts (c_in hf.1) (cTy ci) (c_ty hf.1) (c_nm hf.1) hown hK hP (wl_D hinj) hS p (obj_at hk hf.1) (c_get hf.1) k hf.2.1 (hts _ hf.2.2) (fun _ h => h) hfin (v := .int x) hty hn hft (by simp [fvs, hf.2.1]) hd (fun H1 locs1 h1 h2 h3 => ?_)
  rw [set_fld hk hf.1 hf.2.1 hr] at h1
  exact kk l p' e s m args below meth c G ad cI cJ cO C0 H1 locs1 ls h1 h3 hl
theorem T_putI {p ci k idx : Nat} {x : Int32} (hd : decode M.2.1 pc = .ok (.putfield idx, 3)) (hf : FL M.1.cls idx ci k) (hk : kd p = ci) (hr : isR ci k = false) (hds : (cT ci k).2.2.1 = "I") (hfin : (cT ci k).2.2.2 = false) (kk : TT M d (pc + 3) lo st (uI S p k x, L, R) Q) : TT M d pc lo (.int x :: .ref p :: st) (S, L, R) Q :=
  T_put (ty := .int) hd hf hk hr hfin (by rw [hds]; decide) rfl rfl kk
theorem T_putZ {p ci k idx : Nat} {x : Int32} (hd : decode M.2.1 pc = .ok (.putfield idx, 3)) (hf : FL M.1.cls idx ci k) (hk : kd p = ci) (hr : isR ci k = false) (hds : (cT ci k).2.2.1 = "Z") (hfin : (cT ci k).2.2.2 = false) (hx : x = 0 ∨ x = 1) (kk : TT M d (pc + 3) lo st (uI S p k x, L, R) Q) : TT M d pc lo (.int x :: .ref p :: st) (S, L, R) Q :=
  T_put (ty := .boolean) hd hf hk hr hfin (by rw [hds]; decide) (by rcases hx with rfl | rfl <;> decide) (by rcases hx with rfl | rfl <;> decide) kk
theorem cell_offR {ad : Nat → Nat} {cI cJ cO : ClassId} {R' : Nat × Nat × Nat} {q : Nat} (h : ∀ k, rf R' q k = rf R q k) : cellE ad cI cJ cO (S, L, R') q = cellE ad cI cJ cO (S, L, R) q := by
  unfold cellE fvs
  have h2 : ∀ ci, fv ad (S, L, R') q ci = fv ad (S, L, R) q ci := by intro ci; funext k; simp only [fv, h]
  simp only [h2]
theorem T_putR {p ci k idx q : Nat} {R' : Nat × Nat × Nat} {ty : FieldType} (hd : decode M.2.1 pc = .ok (.putfield idx, 3)) (hf : FL M.1.cls idx ci k) (hk : kd p = ci) (hr : isR ci k = true) (hfin : (cT ci k).2.2.2 = false) (hty : parseFieldDescriptor (cT ci k).2.2.1 = some ty) (hn : ∀ a, narrow ty (.ref a) = .ref a) (hft : ∀ a, fits ty (.ref a) = true) (h1 : rf R' p k = q) (h2 : ∀ j, isR ci j = true → j ≠ k → rf R' p j = rf R p j) (h3 : ∀ a, a ≠ p → ∀ j, rf R' a j = rf R a j) (kk : TT M d (pc + 3) lo st (S, L, R') Q) : TT M d pc lo (.ref q :: .ref p :: st) (S, L, R) Q := by
  intro l p' e s m args below meth c G ad cI cJ cO C H locs ls hP hS hl
  have C0 := C
  obtain ⟨hx, hb, hml, hown, hts, hrt, hlk, hK, hN, hinj⟩ := C
  refine va_put hx hb hts (c_in hf.1) (cTy ci) (c_ty hf.1) (c_nm hf.1) hown hK hP (wl_D hinj) hS p (obj_at hk hf.1) (c_get hf.1) k hf.2.1 (hts _ hf.2.2) (fun _ h => h) hfin (v := .ref (ad q)) hty (hn _) (hft _) (by simp [fvs, hf.2.1]) hd (fun H1 locs1 g1 g2 g3 => ?_)
  have e1 : (wl ad cI cJ cO (S, L, R)).set p (ad p, .inr (ci, (fvs ad (S, L, R) p ci).set k (.ref (ad q)))) = wl ad cI cJ cO (S, L, R') := by
    have h8 : ci < 8 := hf.1
    refine wl_set (kd_lt hk (by omega)) ?_ (fun a _ hap => cell_offR (h3 a hap))
    rw [cell_obj hk hf.1, fvs_set hf.2.1]
    · simp [fv, hr, h1]
    · intro j _ hj
      cases hj2 : isR ci j with
      | true => simp [fv, h2 j hj2 hj]
      | false => simp [fv, hj2]
  rw [e1] at g1
  exact kk l p' e s m args below meth c G ad cI cJ cO C0 H1 locs1 ls g1 g3 hl
theorem T_putNow {idx q : Nat} (hd : decode M.2.1 pc = .ok (.putfield idx, 3)) (hf : FL M.1.cls idx 6 5) (kk : TT M d (pc + 3) lo st (S, L, (q, R.2.1, R.2.2)) Q) : TT M d pc lo (.ref q :: .ref 0 :: st) (S, L, R) Q :=
  T_putR (ty := .object "SaltBorder$Table") hd hf rfl rfl rfl (by decide +kernel) (fun _ => rfl) (fun _ => rfl) rfl (fun j _ hj => by simp [rf, hj]) (fun a ha j => by simp [rf, ha]) kk
theorem T_putSpare {idx q : Nat} (hd : decode M.2.1 pc = .ok (.putfield idx, 3)) (hf : FL M.1.cls idx 6 6) (kk : TT M d (pc + 3) lo st (S, L, (R.1, q, R.2.2)) Q) : TT M d pc lo (.ref q :: .ref 0 :: st) (S, L, R) Q :=
  T_putR (ty := .object "SaltBorder$Table") hd hf rfl rfl rfl (by decide +kernel) (fun _ => rfl) (fun _ => rfl) rfl (fun j _ hj => by simp [rf, hj]) (fun a ha j => by simp [rf, ha]) kk
theorem T_putCodes {idx q : Nat} (hd : decode M.2.1 pc = .ok (.putfield idx, 3)) (hf : FL M.1.cls idx 5 0) (kk : TT M d (pc + 3) lo st (S, L, (R.1, R.2.1, q)) Q) : TT M d pc lo (.ref q :: .ref 10 :: st) (S, L, R) Q := by
  refine T_putR (p := 10) (ty := .array .int) hd hf rfl rfl rfl (by decide +kernel) (fun _ => rfl) (fun _ => rfl) rfl (fun j h0 hj => ?_) (fun a ha j => ?_) kk
  · have : j = 0 := by simpa [isR, isRL] using h0
    exact absurd this hj
  · unfold rf; split <;> simp_all
end THEAP
