/-! rows of TT: arrays, returns, calls; Met out of TT -/
section TARR
variable {M : MD} {d pc : Nat} {lo : List (Option Value)} {st : List Value} {S : Nat → Nat → Int32} {L : Nat → Nat → Int64} {R : Nat × Nat × Nat} {σ : SG} {Q : Option Value → SG → Prop}
theorem int_at {ad : Nat → Nat} {cI cJ cO : ClassId} {p : Nat} (hk : kd p = 8) : (wl ad cI cJ cO (S, L, R))[p]? = some (ad p, .inl (cI, ln p, .inl (S p))) := by
  rw [wl_get (kd_lt hk (by omega)), cell_int hk]
theorem long_at {ad : Nat → Nat} {cI cJ cO : ClassId} {p : Nat} (hk : kd p = 9) : (wl ad cI cJ cO (S, L, R))[p]? = some (ad p, .inl (cJ, ln p, .inr (.inl (L p)))) := by
  rw [wl_get (kd_lt hk (by omega)), cell_long hk]
theorem in_ln {p j : Nat} {i : Int32} (hj : j < ln p) (hi : i = nI j) : vp_in i (ln p) := by
  rw [hi]; exact vp_in_nI hj (by have := ln_le p; omega)
theorem cl_ln {p j : Nat} {i : Int32} (hj : j < ln p) (hi : i = nI j) : i.toNatClampNeg = j := by
  rw [hi]; exact nI_clamp (by have := ln_le p; omega)
theorem T_iald {p j : Nat} {i : Int32} (hd : decode M.2.1 pc = .ok (.iaload, 1)) (hk : kd p = 8) (hj : j < ln p) (hi : i = nI j) (kk : TT M d (pc + 1) lo (.int (S p j) :: st) (S, L, R) Q) : TT M d pc lo (.int i :: .ref p :: st) (S, L, R) Q := by
  intro l p' e s m args below meth c G ad cI cJ cO C H locs ls hP hS hl
  have C0 := C
  obtain ⟨hx, hb, hml, hown, hts, hrt, hlk, hK, hN, hinj⟩ := C
  have h := kk l p' e s m args below meth c G ad cI cJ cO C0 H locs ls hP hS hl
  refine va_iald hx hb hK hP p 0 (int_at hk) rfl (in_ln hj hi) hd ?_
  rw [cl_ln hj hi]; exact h
theorem T_lald {p j : Nat} {i : Int32} (hd : decode M.2.1 pc = .ok (.laload, 1)) (hk : kd p = 9) (hj : j < ln p) (hi : i = nI j) (kk : TT M d (pc + 1) lo (.long (L p j) :: st) (S, L, R) Q) : TT M d pc lo (.int i :: .ref p :: st) (S, L, R) Q := by
  intro l p' e s m args below meth c G ad cI cJ cO C H locs ls hP hS hl
  have C0 := C
  obtain ⟨hx, hb, hml, hown, hts, hrt, hlk, hK, hN, hinj⟩ := C
  have h := kk l p' e s m args below meth c G ad cI cJ cO C0 H locs ls hP hS hl
  refine va_lald hx hb hK hP p 1 (long_at hk) rfl (in_ln hj hi) hd ?_
  rw [cl_ln hj hi]; exact h
theorem T_aald {j : Nat} {i : Int32} (hd : decode M.2.1 pc = .ok (.aaload, 1)) (hj : j < 4) (hi : i = nI j) (kk : TT M d (pc + 1) lo (.ref (2 + j) :: st) σ Q) : TT M d pc lo (.int i :: .ref 1 :: st) σ Q := by
  intro l p' e s m args below meth c G ad cI cJ cO C H locs ls hP hS hl
  have C0 := C
  obtain ⟨hx, hb, hml, hown, hts, hrt, hlk, hK, hN, hinj⟩ := C
  have h := kk l p' e s m args below meth c G ad cI cJ cO C0 H locs ls hP hS hl
  have ha : (wl ad cI cJ cO σ)[1]? = some (ad 1, .inl (cO, 4, .inr (.inr (.inr (.inr (fun i => some (ad (2 + i)))))))) := by
    rw [wl_get (by decide), cell_sh rfl]
  refine va_aldq hx hb hK hP 1 2 ha rfl (by rw [hi]; exact vp_in_nI hj (by decide)) hd ?_
  rw [hi, nI_clamp (by omega)]; exact h
theorem T_iast {p j : Nat} {i x : Int32} (hd : decode M.2.1 pc = .ok (.iastore, 1)) (hk : kd p = 8) (hj : j < ln p) (hi : i = nI j) (kk : TT M d (pc + 1) lo st (uI S p j x, L, R) Q) : TT M d pc lo (.int x :: .int i :: .ref p :: st) (S, L, R) Q := by
  intro l p' e s m args below meth c G ad cI cJ cO C H locs ls hP hS hl
  have C0 := C
  obtain ⟨hx, hb, hml, hown, hts, hrt, hlk, hK, hN, hinj⟩ := C
  refine va_iast hx hb hK hP (wl_D hinj) hS p 0 (int_at hk) rfl (in_ln hj hi) hd (fun H1 locs1 h1 h2 h3 => ?_)
  rw [cl_ln hj hi, wl_set (σ' := (uI S p j x, L, R)) (kd_lt hk (by omega)) (by rw [cell_int hk]; show Sum.inl (cI, ln p, Sum.inl (uI S p j x p)) = _; rw [uI_row]) (fun q _ hqp => cell_off (uI_p hqp))] at h1
  exact kk l p' e s m args below meth c G ad cI cJ cO C0 H1 locs1 ls h1 h3 hl
theorem T_last {p j : Nat} {i : Int32} {x : Int64} (hd : decode M.2.1 pc = .ok (.lastore, 1)) (hk : kd p = 9) (hj : j < ln p) (hi : i = nI j) (kk : TT M d (pc + 1) lo st (S, uL L p j x, R) Q) : TT M d pc lo (.long x :: .int i :: .ref p :: st) (S, L, R) Q := by
  intro l p' e s m args below meth c G ad cI cJ cO C H locs ls hP hS hl
  have C0 := C
  obtain ⟨hx, hb, hml, hown, hts, hrt, hlk, hK, hN, hinj⟩ := C
  refine va_last hx hb hK hP (wl_D hinj) hS p 1 (long_at hk) rfl (in_ln hj hi) hd (fun H1 locs1 h1 h2 h3 => ?_)
  rw [cl_ln hj hi, wl_set (σ' := (S, uL L p j x, R)) (kd_lt hk (by omega)) (by rw [cell_long hk]; show Sum.inl (cJ, ln p, Sum.inr (Sum.inl (uL L p j x p))) = _; rw [uL_row]) (fun q _ hqp => cell_offL (uL_p hqp))] at h1
  exact kk l p' e s m args below meth c G ad cI cJ cO C0 H1 locs1 ls h1 h3 hl
theorem T_alen {p : Nat} (hd : decode M.2.1 pc = .ok (.arraylength, 1)) (hk : kd p = 8) (kk : TT M d (pc + 1) lo (.int (nI (ln p)) :: st) (S, L, R) Q) : TT M d pc lo (.ref p :: st) (S, L, R) Q := by
  intro l p' e s m args below meth c G ad cI cJ cO C H locs ls hP hS hl
  have C0 := C
  obtain ⟨hx, hb, hml, hown, hts, hrt, hlk, hK, hN, hinj⟩ := C
  exact va_alen hx hb hK hP p 0 (int_at hk) (ty := .int) rfl rfl hd (kk l p' e s m args below meth c G ad cI cJ cO C0 H locs ls hP hS hl)
theorem T_alenL {p : Nat} (hd : decode M.2.1 pc = .ok (.arraylength, 1)) (hk : kd p = 9) (kk : TT M d (pc + 1) lo (.int (nI (ln p)) :: st) (S, L, R) Q) : TT M d pc lo (.ref p :: st) (S, L, R) Q := by
  intro l p' e s m args below meth c G ad cI cJ cO C H locs ls hP hS hl
  have C0 := C
  obtain ⟨hx, hb, hml, hown, hts, hrt, hlk, hK, hN, hinj⟩ := C
  exact va_alen hx hb hK hP p 1 (long_at hk) (ty := .long) rfl rfl hd (kk l p' e s m args below meth c G ad cI cJ cO C0 H locs ls hP hS hl)
def uR (S : Nat → Nat → Int32) (p : Nat) (f : Nat → Int32) : Nat → Nat → Int32 := fun a => if a = p then f else S a
def uRL (S : Nat → Nat → Int64) (p : Nat) (f : Nat → Int64) : Nat → Nat → Int64 := fun a => if a = p then f else S a
theorem nn_ge {k : Nat} (h : k < 2 ^ 31) : ¬ nI k < 0 := nI_pos h
theorem T_copyI {p q idx sp dp n : Nat} {xs xd xn : Int32} (hd : decode M.2.1 pc = .ok (.invokestatic idx, 3)) (hl0 : Cond.methodLink M.1.cls idx arraycopyName ∈ lU) (hkp : kd p = 8) (hkq : kd q = 8) (h1 : xs = nI sp) (h2 : xd = nI dp) (h3 : xn = nI n) (h4 : sp + n ≤ ln p) (h5 : dp + n ≤ ln q) (hst : (st.map fun v => v.category).sum ≤ 8) (kk : TT M (d + 1) (pc + 3) lo st (uR S q (va_cpy (S p) (S q) sp dp n), L, R) Q) : TT M (d + 1) pc lo (.int xn :: .int xd :: .ref q :: .int xs :: .ref p :: st) (S, L, R) Q := by
  intro l p' e s m args below meth c G ad cI cJ cO C H locs ls hP hS hl
  have C0 := C
  obtain ⟨hx, hb, hml, hown, hts, hrt, hlk, hK, hN, hinj⟩ := C
  have b1 := ln_le p
  have b2 := ln_le q
  have c1 : xs.toNatClampNeg = sp := by rw [h1]; exact nI_clamp (by omega)
  have c2 : xd.toNatClampNeg = dp := by rw [h2]; exact nI_clamp (by omega)
  have c3 : xn.toNatClampNeg = n := by rw [h3]; exact nI_clamp (by omega)
  refine va_copyi hx hb (by rw [hml, hl.1]) hown (hts _ hl0) (hts _ ac_native) (hts _ ac_static) (hts _ ac_initialized) hK hP (wl_D hinj) hS p q 0 0 (int_at hkp) (int_at hkq) rfl rfl rfl (by rw [h1]; exact nn_ge (by omega)) (by rw [h2]; exact nn_ge (by omega)) (by rw [h3]; exact nn_ge (by omega)) (by rw [c1, c3]; exact h4) (by rw [c2, c3]; exact h5) (fun _ _ => rfl) (by show 1 ≤ d + 1; omega) (by show _ + (7 + 11) ≤ 40 * (d + 1); rw [cv_sum]; omega) hd (fun H1 locs1 g1 g2 g3 => ?_)
  rw [c1, c2, c3, wl_set (σ' := (uR S q (va_cpy (S p) (S q) sp dp n), L, R)) (kd_lt hkq (by omega)) (by rw [cell_int hkq]; simp [uR]) (fun a _ hap => cell_off (by simp [uR, hap]))] at g1
  exact kk l p' e s m args below meth c G ad cI cJ cO C0 H1 locs1 ls g1 g3 hl
theorem T_copyL {p q idx sp dp n : Nat} {xs xd xn : Int32} (hd : decode M.2.1 pc = .ok (.invokestatic idx, 3)) (hl0 : Cond.methodLink M.1.cls idx arraycopyName ∈ lU) (hkp : kd p = 9) (hkq : kd q = 9) (h1 : xs = nI sp) (h2 : xd = nI dp) (h3 : xn = nI n) (h4 : sp + n ≤ ln p) (h5 : dp + n ≤ ln q) (hst : (st.map fun v => v.category).sum ≤ 8) (kk : TT M (d + 1) (pc + 3) lo st (S, uRL L q (va_cpy (L p) (L q) sp dp n), R) Q) : TT M (d + 1) pc lo (.int xn :: .int xd :: .ref q :: .int xs :: .ref p :: st) (S, L, R) Q := by
  intro l p' e s m args below meth c G ad cI cJ cO C H locs ls hP hS hl
  have C0 := C
  obtain ⟨hx, hb, hml, hown, hts, hrt, hlk, hK, hN, hinj⟩ := C
  have b1 := ln_le p
  have b2 := ln_le q
  have c1 : xs.toNatClampNeg = sp := by rw [h1]; exact nI_clamp (by omega)
  have c2 : xd.toNatClampNeg = dp := by rw [h2]; exact nI_clamp (by omega)
  have c3 : xn.toNatClampNeg = n := by rw [h3]; exact nI_clamp (by omega)
  refine va_copyl hx hb (by rw [hml, hl.1]) hown (hts _ hl0) (hts _ ac_native) (hts _ ac_static) (hts _ ac_initialized) hK hP (wl_D hinj) hS p q 1 1 (long_at hkp) (long_at hkq) rfl rfl rfl (by rw [h1]; exact nn_ge (by omega)) (by rw [h2]; exact nn_ge (by omega)) (by rw [h3]; exact nn_ge (by omega)) (by rw [c1, c3]; exact h4) (by rw [c2, c3]; exact h5) (fun _ _ => rfl) (by show 1 ≤ d + 1; omega) (by show _ + (7 + 11) ≤ 40 * (d + 1); rw [cv_sum]; omega) hd (fun H1 locs1 g1 g2 g3 => ?_)
  rw [c1, c2, c3, wl_set (σ' := (S, uRL L q (va_cpy (L p) (L q) sp dp n), R)) (kd_lt hkq (by omega)) (by rw [cell_long hkq]; simp [uRL]) (fun a _ hap => cell_offL (by simp [uRL, hap]))] at g1
  exact kk l p' e s m args below meth c G ad cI cJ cO C0 H1 locs1 ls g1 g3 hl
theorem T_max {idx : Nat} {x y : Int32} (hd : decode M.2.1 pc = .ok (.invokestatic idx, 3)) (hl0 : Cond.methodLink M.1.cls idx Lib.Math.max.name ∈ lU) (hst : (st.map fun v => v.category).sum ≤ 8) (kk : TT M (d + 1) (pc + 3) lo (.int (if x < y then y else x) :: st) σ Q) : TT M (d + 1) pc lo (.int y :: .int x :: st) σ Q := by
  intro l p' e s m args below meth c G ad cI cJ cO C H locs ls hP hS hl
  have C0 := C
  obtain ⟨hx, hb, hml, hown, hts, hrt, hlk, hK, hN, hinj⟩ := C
  exact va_mmax hx hb (by rw [hml, hl.1]) hown (hts _ hl0) (hts _ mm_max_st) (hts _ mm_max_ini) (hts _ mm_max_code) (by show 1 ≤ d + 1; omega) (by show _ + 13 ≤ 40 * (d + 1); rw [cv_sum]; omega) (Nat.le_refl 0) (Nat.le_refl 0) hd (kk l p' e s m args below meth c G ad cI cJ cO C0 H locs ls hP hS hl)
theorem T_min {idx : Nat} {x y : Int32} (hd : decode M.2.1 pc = .ok (.invokestatic idx, 3)) (hl0 : Cond.methodLink M.1.cls idx Lib.Math.min.name ∈ lU) (hst : (st.map fun v => v.category).sum ≤ 8) (kk : TT M (d + 1) (pc + 3) lo (.int (if y < x then y else x) :: st) σ Q) : TT M (d + 1) pc lo (.int y :: .int x :: st) σ Q := by
  intro l p' e s m args below meth c G ad cI cJ cO C H locs ls hP hS hl
  have C0 := C
  obtain ⟨hx, hb, hml, hown, hts, hrt, hlk, hK, hN, hinj⟩ := C
  exact va_mmin hx hb (by rw [hml, hl.1]) hown (hts _ hl0) (hts _ mm_min_st) (hts _ mm_min_ini) (hts _ mm_min_code) (by show 1 ≤ d + 1; omega) (by show _ + 13 ≤ 40 * (d + 1); rw [cv_sum]; omega) (Nat.le_refl 0) (Nat.le_refl 0) hd (kk l p' e s m args below meth c G ad cI cJ cO C0 H locs ls hP hS hl)
theorem T_zret {v : Int32} {ty : FieldType} (hd : decode M.2.1 pc = .ok (.ireturn, 1)) (hr : M.2.2.2 = some ty) (hn : narrow ty (.int v) = .int v) (hq : Q (some (.int v)) σ) : TT M d pc lo [.int v] σ Q := by
  intro l p' e s m args below meth c G ad cI cJ cO C H locs ls hP hS hl
  obtain ⟨hx, hb, hml, hown, hts, hrt, hlk, hK, hN, hinj⟩ := C
  exact W.zret hx hb (hrt.trans hr) hn (fun t ht hW => ⟨⟨some (.int v), σ, rfl, hq, by rw [ht]; exact hP, va_K.moved hW.alike hK, nw_warm hW hN⟩, hS.F ht⟩) hS.2.2 hd hlk
theorem T_iret {v : Int32} (hd : decode M.2.1 pc = .ok (.ireturn, 1)) (hr : M.2.2.2 = some .int) (hq : Q (some (.int v)) σ) : TT M d pc lo [.int v] σ Q := T_zret hd hr rfl hq
theorem T_bret {v : Int32} (hd : decode M.2.1 pc = .ok (.ireturn, 1)) (hr : M.2.2.2 = some .boolean) (hv : v = 0 ∨ v = 1) (hq : Q (some (.int v)) σ) : TT M d pc lo [.int v] σ Q := T_zret hd hr (by rcases hv with rfl | rfl <;> decide) hq
theorem T_lret {v : Int64} (hd : decode M.2.1 pc = .ok (.lreturn, 1)) (hr : M.2.2.2 = some .long) (hq : Q (some (.long v)) σ) : TT M d pc lo [.long v] σ Q := by
  intro l p' e s m args below meth c G ad cI cJ cO C H locs ls hP hS hl
  obtain ⟨hx, hb, hml, hown, hts, hrt, hlk, hK, hN, hinj⟩ := C
  exact W.lret hx hb (hrt.trans hr) (fun t ht hW => ⟨⟨some (.long v), σ, rfl, hq, by rw [ht]; exact hP, va_K.moved hW.alike hK, nw_warm hW hN⟩, hS.F ht⟩) hS.2.2 hd hlk
theorem T_vret (hd : decode M.2.1 pc = .ok (.return_, 1)) (hr : M.2.2.2 = none) (hq : Q none σ) : TT M d pc lo [] σ Q := by
  intro l p' e s m args below meth c G ad cI cJ cO C H locs ls hP hS hl
  obtain ⟨hx, hb, hml, hown, hts, hrt, hlk, hK, hN, hinj⟩ := C
  exact W.vret hx hb (hrt.trans hr) (fun t ht hW => ⟨⟨none, σ, rfl, hq, by rw [ht]; exact hP, va_K.moved hW.alike hK, nw_warm hW hN⟩, hS.F ht⟩) hS.2.2 hd hlk
end TARR
/-! calls -/
def entL : List Value → List (Option Value)
  | [] => []
  | v :: vs => if v.category = 2 then some v :: none :: entL vs else some v :: entL vs
theorem entL_mem {ad : Nat → Nat} : ∀ (vs : List Value) (b i : Nat) (v : Value), (entL vs)[i]? = some (some v) → (b + i, cv ad v) ∈ lv_args b (vs.map (cv ad))
  | [], b, i, v, h => by simp [entL] at h
  | w :: vs, b, i, v, h => by
    show (b + i, cv ad v) ∈ (b, cv ad w) :: lv_args (if (cv ad w).category = 2 then b + 2 else b + 1) (vs.map (cv ad))
    rw [cv_cat]
    unfold entL at h
    by_cases hc : w.category = 2
    · rw [if_pos hc] at h ⊢
      match i, h with
      | 0, h => cases h; exact List.mem_cons_self
      | 1, h => cases h
      | i + 2, h =>
        have := entL_mem (ad := ad) vs (b + 2) i v h
        rw [show b + (i + 2) = b + 2 + i by omega]
        exact List.mem_cons_of_mem _ this
    · rw [if_neg hc] at h ⊢
      match i, h with
      | 0, h => cases h; exact List.mem_cons_self
      | i + 1, h =>
        have := entL_mem (ad := ad) vs (b + 1) i v h
        rw [show b + (i + 1) = b + 1 + i by omega]
        exact List.mem_cons_of_mem _ this
theorem entL_len {ad : Nat → Nat} : ∀ vs : List Value, (lg_sl (vs.map (cv ad))).length = (entL vs).length
  | [] => rfl
  | w :: vs => by
    have ih := entL_len (ad := ad) vs
    unfold lg_sl at ih ⊢
    rw [List.map_cons, List.flatMap_cons, List.length_append, cv_cat]
    unfold entL
    by_cases hc : w.category = 2
    · rw [if_pos hc, if_pos hc]; simp only [List.length_cons, List.length_nil]; omega
    · rw [if_neg hc, if_neg hc]; simp only [List.length_cons, List.length_nil]; omega
def codeW (M : MD) : Cond := Cond.code M.1 M.2.1 M.2.2.1 M.2.2.2
theorem lo_pad {As : List Value} {n i : Nat} {v : Value} (h : (entL As ++ List.replicate n none)[i]? = some (some v)) : (entL As)[i]? = some (some v) := by
  rcases Nat.lt_or_ge i (entL As).length with q | q
  · rw [List.getElem?_append_left q] at h; exact h
  · rw [List.getElem?_append_right q] at h
    have := List.mem_of_getElem? h
    rw [List.mem_replicate] at this
    cases this.2
/-- a method's contract as the kit has it, out of TT at its entry -/
theorem TT.met {M : MD} {d : Nat} {As : List Value} {lo : List (Option Value)} {σ : SG} {Q : Option Value → SG → Prop} (hpl : plainName M.1.cls = true) (hlen : (entL As).length ≤ M.2.2.1) (hlo : lo = entL As ++ List.replicate (M.2.2.1 - (entL As).length) none) (h : TT M d 0 lo [] σ Q) (l : Launch) (G : va_G) (ad : Nat → Nat) (cI cJ cO : ClassId) (hinj : inj57 ad) : Met l M.1 (codeW M :: lU) (rmD d) (va_Pc (As.map (cv ad)) (WD G ad cI cJ cO σ)) (QQ G ad cI cJ cO Q) 0 0 (AD ad) := by
  refine Met.ofW (cc := M.2.1) (maxL := M.2.2.1) (ret := M.2.2.2) hpl rfl ?_
  intro p e s m args below meth c s₁ B hml hv
  obtain ⟨rfl, hP, hK, hN⟩ := hv
  have hts := atoms_spec (ws := codeW M :: lU) B.pre
  have hown : s.vm.findClass M.1.cls = some m.cls := findClass_of_methodNamed B.named
  have hl := lv_entry (As.map (cv ad)) (n := M.2.2.1) (by rw [entL_len]; exact hlen)
  rw [lg_entry_eq]
  generalize (lg_sl (As.map (cv ad)) ++ List.replicate (M.2.2.1 - (lg_sl (As.map (cv ad))).length) Slot.unset).toArray = ls at hl ⊢
  refine h l p e s m _ below meth c G ad cI cJ cO ⟨B.exec, B.bytes, hml, hown, fun w hw => hts w (List.mem_cons_of_mem _ hw), B.returns, B.notSynchronized, hK, hN, hinj⟩ s.heap [] ls hP va_S.rf ⟨hl.1, hl.2.1, fun i v hv => ?_⟩
  rw [hlo] at hv
  have := entL_mem (ad := ad) As 0 i v (lo_pad hv)
  rw [Nat.zero_add] at this
  exact hl.2.2 _ this
