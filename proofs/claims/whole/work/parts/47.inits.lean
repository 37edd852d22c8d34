/-! the constructors -/
theorem o_in : Cond.instanceMethod objectInit ∈ lU := mU 76 (by decide +kernel) rfl
theorem o_co : Cond.code objectInit ⟨#[0xb1]⟩ 1 none ∈ lU := mU 77 (by decide +kernel) rfl
theorem aoW : Cond.arrayOver (.object RX3) ∈ lw_tbl := List.mem_of_getElem? (i := 79) (by decide +kernel)
theorem iw_X6 : Cond.instanceMethod yX6_init ∈ lU := mU 73 (by decide +kernel) rfl
theorem cw_X6 : codeW mX6_init ∈ lU := mU 74 (by decide +kernel) rfl
theorem iw_X5 : Cond.instanceMethod yX5_init ∈ lU := mU 83 (by decide +kernel) rfl
theorem cw_X5 : codeW mX5_init ∈ lU := mU 84 (by decide +kernel) rfl
theorem iw_X0 : Cond.instanceMethod yX0_init ∈ lU := mU 104 (by decide +kernel) rfl
theorem cw_X0 : codeW mX0_init ∈ lU := mU 105 (by decide +kernel) rfl
theorem iw_X1 : Cond.instanceMethod yX1_init ∈ lU := mU 123 (by decide +kernel) rfl
theorem cw_X1 : codeW mX1_init ∈ lU := mU 124 (by decide +kernel) rfl
theorem iw_X2 : Cond.instanceMethod yX2_init ∈ lU := mU 136 (by decide +kernel) rfl
theorem cw_X2 : codeW mX2_init ∈ lU := mU 137 (by decide +kernel) rfl
theorem iw_X4 : Cond.instanceMethod yX4_init ∈ lU := mU 151 (by decide +kernel) rfl
theorem cw_X4 : codeW mX4_init ∈ lU := mU 152 (by decide +kernel) rfl
theorem iw_X3 : Cond.instanceMethod yX3_init ∈ lU := mU 213 (by decide +kernel) rfl
theorem cw_X3 : codeW mX3_init ∈ lU := mU 214 (by decide +kernel) rfl
theorem iw_X7 : Cond.instanceMethod yX7_init ∈ lU := mU 691 (by decide +kernel) rfl
theorem cw_X7 : codeW mX7_init ∈ lU := mU 692 (by decide +kernel) rfl
abbrev aI (cI : ClassId) (n : Nat) : va_E := .inl (cI, n, .inl (fun _ => 0))
abbrev aJ (cJ : ClassId) (n : Nat) : va_E := .inl (cJ, n, .inr (.inl (fun _ => 0)))
section NEWA
variable {p : Program} {l : Launch} {e : Env} {R : Room} {s : State} {m : MethodId} {args : Array Value} {below : List Frame} {meth : Method} {c : Code} {H H0 : Heap} {locs : List Loc} {cells slots : Nat} {Q : State → Prop} {pc : Nat} {ls : Array Slot} {rest : List Value} {cc : ByteArray} {G : va_G} {cI cJ cO : ClassId} {ws : va_W} {A : Nat → Prop}
theorem N_int (hexec : p.tables.exec = Jvm.exec) (hb : c.code = cc) (hts : ∀ w ∈ lU, w.before args s = true) (hK : va_K G vwCl (tysW cI cJ cO) s) (hP : va_P G vwCl ws H) (hD : va_D A ws) (hS : va_S A H0 H locs) (hA : ∀ q, H0.size ≤ q → A q) {N : Nat} (hN : N ≤ 256) (hcells : cells + 1 ≤ R.cells) (hslots : slots + N ≤ R.slots) (hdg : decode cc pc = .ok (.newarray .int, 2))
    (kk : ∀ (q : Nat) (H1 : Heap), va_P G vwCl (ws ++ [(q, aI cI N)]) H1 → va_D A (ws ++ [(q, aI cI N)]) → va_S A H0 H1 locs → W p l e R s m args below meth c H1 locs (cells + 1) (slots + N) Q (F0 m (pc + 2) ls (.ref q :: rest))) : W p l e R s m args below meth c H locs cells slots Q (F0 m pc ls (.int (nI N) :: rest)) := by
  refine va_newa (atype := .int) (ty := .int) (a0 := (N, .inl (fun _ => 0))) hexec hb (hts _ ak_int) rfl hK hP hD hS hA (fun cA => by rw [vp_cell_i]; rfl) (nI_pos (by omega)) (nI_clamp (by omega)) (by show N * 4 ≤ _; omega) hcells hslots hdg (fun q cA H1 hK1 hP1 hD1 hS1 => ?_)
  have h1 : va_RA s cA .int := (hK1.2 3 (cA, .int) rfl).2
  have h2 : va_RA s cI .int := (hK.2 0 (cI, .int) rfl).2
  have e1 : cA = cI := Option.some.inj ((show s.vm.findClass _ = some cA from h1).symm.trans h2)
  subst e1
  exact kk q H1 hP1 hD1 hS1
theorem N_long (hexec : p.tables.exec = Jvm.exec) (hb : c.code = cc) (hts : ∀ w ∈ lU, w.before args s = true) (hK : va_K G vwCl (tysW cI cJ cO) s) (hP : va_P G vwCl ws H) (hD : va_D A ws) (hS : va_S A H0 H locs) (hA : ∀ q, H0.size ≤ q → A q) {N : Nat} (hN : N ≤ 256) (hcells : cells + 1 ≤ R.cells) (hslots : slots + N ≤ R.slots) (hdg : decode cc pc = .ok (.newarray .long, 2))
    (kk : ∀ (q : Nat) (H1 : Heap), va_P G vwCl (ws ++ [(q, aJ cJ N)]) H1 → va_D A (ws ++ [(q, aJ cJ N)]) → va_S A H0 H1 locs → W p l e R s m args below meth c H1 locs (cells + 1) (slots + N) Q (F0 m (pc + 2) ls (.ref q :: rest))) : W p l e R s m args below meth c H locs cells slots Q (F0 m pc ls (.int (nI N) :: rest)) := by
  refine va_newa (atype := .long) (ty := .long) (a0 := (N, .inr (.inl (fun _ => 0)))) hexec hb (hts _ ak_long) rfl hK hP hD hS hA (fun cA => by first | rfl | (rw [vp_cell_l]; rfl)) (nI_pos (by omega)) (nI_clamp (by omega)) (by show N * 8 ≤ _; omega) hcells hslots hdg (fun q cA H1 hK1 hP1 hD1 hS1 => ?_)
  have h1 : va_RA s cA .long := (hK1.2 3 (cA, .long) rfl).2
  have h2 : va_RA s cJ .long := (hK.2 1 (cJ, .long) rfl).2
  have e1 : cA = cJ := Option.some.inj ((show s.vm.findClass _ = some cA from h1).symm.trans h2)
  subst e1
  exact kk q H1 hP1 hD1 hS1
theorem N_q {own : String} {index : Nat} (hexec : p.tables.exec = Jvm.exec) (hb : c.code = cc) (hown : s.vm.findClass own = some m.cls) (hclink : (Cond.classLink own index RX3).before args s = true) (hover : va_AO RX3 s) (hK : va_K G vwCl (tysW cI cJ cO) s) (hP : va_P G vwCl ws H) (hD : va_D A ws) (hS : va_S A H0 H locs) (hA : ∀ q, H0.size ≤ q → A q) {N : Nat} (hN : N ≤ 256) (hcells : cells + 1 ≤ R.cells) (hslots : slots + N ≤ R.slots) (hdg : decode cc pc = .ok (.anewarray index, 3))
    (kk : ∀ (q : Nat) (H1 : Heap), va_P G vwCl (ws ++ [(q, .inl (cO, N, .inr (.inr (.inr (.inr (fun _ => none))))))]) H1 → va_D A (ws ++ [(q, .inl (cO, N, .inr (.inr (.inr (.inr (fun _ => none))))))]) → va_S A H0 H1 locs → W p l e R s m args below meth c H1 locs (cells + 1) (slots + N) Q (F0 m (pc + 3) ls (.ref q :: rest))) : W p l e R s m args below meth c H locs cells slots Q (F0 m pc ls (.int (nI N) :: rest)) := by
  refine va_newq hexec hb hown hclink hover hK hP hD hS hA (nI_pos (by omega)) (nI_clamp (by omega)) (by omega) hcells hslots hdg (fun q cA H1 hK1 hP1 hD1 hS1 => ?_)
  obtain ⟨kA, comp, -, -, -, h1⟩ : va_RA s cA (.object RX3) := (hK1.2 3 (cA, .object RX3) rfl).2
  obtain ⟨kB, comp', -, -, -, h2⟩ : va_RA s cO (.object RX3) := (hK.2 2 (cO, .object RX3) rfl).2
  have e1 : cA = cO := Option.some.inj (h1.symm.trans h2)
  subst e1
  exact kk q H1 hP1 hD1 hS1
end NEWA
abbrev shX0 (cI cJ : ClassId) (h0 : Nat) (q : Nat → Nat) : va_W := [(h0, .inr (0, [.int 0, .int 0, .int 0]))]
set_option maxHeartbeats 4000000 in
set_option maxRecDepth 100000 in
theorem c_X0_init (l : Launch) (G : va_G) (cI cJ cO : ClassId) (h0 sz : Nat) : Met l yX0_init (codeW mX0_init :: lU) ({ frames := 1, cells := 0, slots := 0, locals := 12 }) (va_Pc [.ref h0] (fun U => U.heap.size = sz ∧ va_P G vwCl [(h0, .inr (0, [.int 0, .int 0, .int 0]))] U.heap ∧ va_D (fun _ => True) [(h0, .inr (0, [.int 0, .int 0, .int 0]))] ∧ va_K G vwCl (tysW cI cJ cO) U)) (va_Qv (fun u : va_W => ∃ q : Nat → Nat, u = shX0 cI cJ h0 q) (fun u t => va_P G vwCl u t.heap ∧ va_D (va_A [(h0, .inr (0, [.int 0, .int 0, .int 0]))] sz) u) (va_A [(h0, .inr (0, [.int 0, .int 0, .int 0]))] sz)) 0 0 (va_A [(h0, .inr (0, [.int 0, .int 0, .int 0]))] sz) := by
  refine Met.ofW (cc := cX0_init) (maxL := 1) (ret := none) (by decide) rfl ?_
  intro p e s m args below meth c s₁ B hml hv
  obtain ⟨rfl, hsz, hP, hD0, hK⟩ := hv
  have hx := B.exec
  have hb := B.bytes
  have hr := B.returns
  have hts0 := atoms_spec (ws := codeW mX0_init :: lU) B.pre
  have hts : ∀ w ∈ lU, w.before _ s = true := fun w hw => hts0 w (List.mem_cons_of_mem _ hw)
  have hown : s.vm.findClass RX0 = some m.cls := findClass_of_methodNamed B.named
  have hin : meth.name = "<init>" := (name_of_methodNamed B.named B.method).1
  subst hsz
  have hD := hD0.self (sz := s.heap.size)
  generalize hAe : va_A [(h0, .inr (0, [.int 0, .int 0, .int 0]))] s.heap.size = A at hD ⊢
  have hA : ∀ q : Nat, s.heap.size ≤ q → A q := fun q h => by rw [← hAe]; exact Or.inr h
  have hS : va_S A s.heap s.heap [] := va_S.rf
  have hP : va_P G vwCl [(h0, .inr (0, [.int 0, .int 0, .int 0]))] s.heap := hP
  have hl := lv_entry ([.ref h0]) (n := 1) (Nat.le_of_ble_eq_true rfl)
  rw [lg_entry_eq]
  generalize (lg_sl ([.ref h0]) ++ List.replicate (1 - (lg_sl ([.ref h0])).length) Slot.unset).toArray = ls at hl ⊢
  have hl : lv_has ls 1 [(0, .ref h0)] := hl
  refine lv_aload_n hx hb dX0_init_0 rfl (lv_at hl 0 rfl) ?_
  refine W.objInit hx hb hown (hts _ ml_X0_3) (hts _ o_in) (hts _ o_co) rfl (by rw [hml]; exact hl.1) rfl dX0_init_1 (Nat.le_of_ble_eq_true rfl) (Nat.le_of_ble_eq_true rfl) ?_
  refine W.eq (g2 := F0 m 4 ls []) rfl ?_
  refine W.widen (k := 0) (n := 0) (by decide) (by decide) ?_
  exact W.vret hx hb hr (fun t ht hW => ⟨⟨_, rfl, ⟨fun _ => 0, rfl⟩, by rw [ht]; exact hP, hD⟩, hS.F ht⟩) hS.2.2 dX0_init_4 B.notSynchronized
abbrev shX1 (cI cJ : ClassId) (h0 : Nat) (q : Nat → Nat) : va_W := [(h0, .inr (1, [.ref (q 0), .ref (q 1)])), ((q 0), aI cI 64), ((q 1), aI cI 8)]
set_option maxHeartbeats 4000000 in
set_option maxRecDepth 100000 in
theorem c_X1_init (l : Launch) (G : va_G) (cI cJ cO : ClassId) (h0 sz : Nat) : Met l yX1_init (codeW mX1_init :: lU) ({ frames := 1, cells := 2, slots := 72, locals := 12 }) (va_Pc [.ref h0] (fun U => U.heap.size = sz ∧ va_P G vwCl [(h0, .inr (1, [.null, .null]))] U.heap ∧ va_D (fun _ => True) [(h0, .inr (1, [.null, .null]))] ∧ va_K G vwCl (tysW cI cJ cO) U)) (va_Qv (fun u : va_W => ∃ q : Nat → Nat, u = shX1 cI cJ h0 q) (fun u t => va_P G vwCl u t.heap ∧ va_D (va_A [(h0, .inr (1, [.null, .null]))] sz) u) (va_A [(h0, .inr (1, [.null, .null]))] sz)) 2 72 (va_A [(h0, .inr (1, [.null, .null]))] sz) := by
  refine Met.ofW (cc := cX1_init) (maxL := 1) (ret := none) (by decide) rfl ?_
  intro p e s m args below meth c s₁ B hml hv
  obtain ⟨rfl, hsz, hP, hD0, hK⟩ := hv
  have hx := B.exec
  have hb := B.bytes
  have hr := B.returns
  have hts0 := atoms_spec (ws := codeW mX1_init :: lU) B.pre
  have hts : ∀ w ∈ lU, w.before _ s = true := fun w hw => hts0 w (List.mem_cons_of_mem _ hw)
  have hown : s.vm.findClass RX1 = some m.cls := findClass_of_methodNamed B.named
  have hin : meth.name = "<init>" := (name_of_methodNamed B.named B.method).1
  subst hsz
  have hD := hD0.self (sz := s.heap.size)
  generalize hAe : va_A [(h0, .inr (1, [.null, .null]))] s.heap.size = A at hD ⊢
  have hA : ∀ q : Nat, s.heap.size ≤ q → A q := fun q h => by rw [← hAe]; exact Or.inr h
  have hS : va_S A s.heap s.heap [] := va_S.rf
  have hP : va_P G vwCl [(h0, .inr (1, [.null, .null]))] s.heap := hP
  have hl := lv_entry ([.ref h0]) (n := 1) (Nat.le_of_ble_eq_true rfl)
  rw [lg_entry_eq]
  generalize (lg_sl ([.ref h0]) ++ List.replicate (1 - (lg_sl ([.ref h0])).length) Slot.unset).toArray = ls at hl ⊢
  have hl : lv_has ls 1 [(0, .ref h0)] := hl
  refine lv_aload_n hx hb dX1_init_0 rfl (lv_at hl 0 rfl) ?_
  refine W.objInit hx hb hown (hts _ ml_X1_3) (hts _ o_in) (hts _ o_co) rfl (by rw [hml]; exact hl.1) rfl dX1_init_1 (Nat.le_of_ble_eq_true rfl) (Nat.le_of_ble_eq_true rfl) ?_
  refine W.eq (g2 := F0 m 4 ls []) rfl ?_
  refine lv_aload_n hx hb dX1_init_4 rfl (lv_at hl 0 rfl) ?_
  refine lv_bipush (v := nI 64) hx hb dX1_init_5 (by decide) ?_
  refine N_int (N := 64) hx hb hts hK hP hD hS hA (by decide) (by decide) (by decide) dX1_init_7 (fun q0 H hP hD hS => ?_)
  have hP : va_P G vwCl [(h0, .inr (1, [.null, .null])), (q0, aI cI 64)] H := hP
  have hD : va_D A [(h0, .inr (1, [.null, .null])), (q0, aI cI 64)] := hD
  refine va_putF (D := G) (ci := 1) (v := .ref q0) (ty := .array .int) (C := RX1) (T := TX1) (N := 2) hx hb hts inX1 tyX1 tyX1_ok nmX1 hown hK hP hD hS 0 rfl rfl 0 (by decide) (hts _ fl_X1_9) (fun _ h9 => h9) rfl hin rfl (by decide +kernel) rfl rfl (Nat.le_of_ble_eq_true rfl) dX1_init_9 (fun H locs hP hD hS => ?_)
  have hP : va_P G vwCl [(h0, .inr (1, [.ref q0, .null])), (q0, aI cI 64)] H := hP
  have hD : va_D A [(h0, .inr (1, [.ref q0, .null])), (q0, aI cI 64)] := hD
  refine lv_aload_n hx hb dX1_init_12 rfl (lv_at hl 0 rfl) ?_
  refine lv_bipush (v := nI 8) hx hb dX1_init_13 (by decide) ?_
  refine N_int (N := 8) hx hb hts hK hP hD hS hA (by decide) (by decide) (by decide) dX1_init_15 (fun q1 H hP hD hS => ?_)
  have hP : va_P G vwCl [(h0, .inr (1, [.ref q0, .null])), (q0, aI cI 64), (q1, aI cI 8)] H := hP
  have hD : va_D A [(h0, .inr (1, [.ref q0, .null])), (q0, aI cI 64), (q1, aI cI 8)] := hD
  refine va_putF (D := G) (ci := 1) (v := .ref q1) (ty := .array .int) (C := RX1) (T := TX1) (N := 2) hx hb hts inX1 tyX1 tyX1_ok nmX1 hown hK hP hD hS 0 rfl rfl 1 (by decide) (hts _ fl_X1_15) (fun _ h9 => h9) rfl hin rfl (by decide +kernel) rfl rfl (Nat.le_of_ble_eq_true rfl) dX1_init_17 (fun H locs hP hD hS => ?_)
  have hP : va_P G vwCl [(h0, .inr (1, [.ref q0, .ref q1])), (q0, aI cI 64), (q1, aI cI 8)] H := hP
  have hD : va_D A [(h0, .inr (1, [.ref q0, .ref q1])), (q0, aI cI 64), (q1, aI cI 8)] := hD
  refine W.widen (k := 2) (n := 72) (by decide) (by decide) ?_
  exact W.vret hx hb hr (fun t ht hW => ⟨⟨_, rfl, ⟨fun k => [q0, q1].getD k 0, rfl⟩, by rw [ht]; exact hP, hD⟩, hS.F ht⟩) hS.2.2 dX1_init_20 B.notSynchronized
abbrev shX2 (cI cJ : ClassId) (h0 : Nat) (q : Nat → Nat) : va_W := [(h0, .inr (2, [.ref (q 0), .ref (q 1)])), ((q 0), aJ cJ 8), ((q 1), aJ cJ 8)]
set_option maxHeartbeats 4000000 in
set_option maxRecDepth 100000 in
theorem c_X2_init (l : Launch) (G : va_G) (cI cJ cO : ClassId) (h0 sz : Nat) : Met l yX2_init (codeW mX2_init :: lU) ({ frames := 1, cells := 2, slots := 16, locals := 12 }) (va_Pc [.ref h0] (fun U => U.heap.size = sz ∧ va_P G vwCl [(h0, .inr (2, [.null, .null]))] U.heap ∧ va_D (fun _ => True) [(h0, .inr (2, [.null, .null]))] ∧ va_K G vwCl (tysW cI cJ cO) U)) (va_Qv (fun u : va_W => ∃ q : Nat → Nat, u = shX2 cI cJ h0 q) (fun u t => va_P G vwCl u t.heap ∧ va_D (va_A [(h0, .inr (2, [.null, .null]))] sz) u) (va_A [(h0, .inr (2, [.null, .null]))] sz)) 2 16 (va_A [(h0, .inr (2, [.null, .null]))] sz) := by
  refine Met.ofW (cc := cX2_init) (maxL := 1) (ret := none) (by decide) rfl ?_
  intro p e s m args below meth c s₁ B hml hv
  obtain ⟨rfl, hsz, hP, hD0, hK⟩ := hv
  have hx := B.exec
  have hb := B.bytes
  have hr := B.returns
  have hts0 := atoms_spec (ws := codeW mX2_init :: lU) B.pre
  have hts : ∀ w ∈ lU, w.before _ s = true := fun w hw => hts0 w (List.mem_cons_of_mem _ hw)
  have hown : s.vm.findClass RX2 = some m.cls := findClass_of_methodNamed B.named
  have hin : meth.name = "<init>" := (name_of_methodNamed B.named B.method).1
  subst hsz
  have hD := hD0.self (sz := s.heap.size)
  generalize hAe : va_A [(h0, .inr (2, [.null, .null]))] s.heap.size = A at hD ⊢
  have hA : ∀ q : Nat, s.heap.size ≤ q → A q := fun q h => by rw [← hAe]; exact Or.inr h
  have hS : va_S A s.heap s.heap [] := va_S.rf
  have hP : va_P G vwCl [(h0, .inr (2, [.null, .null]))] s.heap := hP
  have hl := lv_entry ([.ref h0]) (n := 1) (Nat.le_of_ble_eq_true rfl)
  rw [lg_entry_eq]
  generalize (lg_sl ([.ref h0]) ++ List.replicate (1 - (lg_sl ([.ref h0])).length) Slot.unset).toArray = ls at hl ⊢
  have hl : lv_has ls 1 [(0, .ref h0)] := hl
  refine lv_aload_n hx hb dX2_init_0 rfl (lv_at hl 0 rfl) ?_
  refine W.objInit hx hb hown (hts _ ml_X2_3) (hts _ o_in) (hts _ o_co) rfl (by rw [hml]; exact hl.1) rfl dX2_init_1 (Nat.le_of_ble_eq_true rfl) (Nat.le_of_ble_eq_true rfl) ?_
  refine W.eq (g2 := F0 m 4 ls []) rfl ?_
  refine lv_aload_n hx hb dX2_init_4 rfl (lv_at hl 0 rfl) ?_
  refine lv_bipush (v := nI 8) hx hb dX2_init_5 (by decide) ?_
  refine N_long (N := 8) hx hb hts hK hP hD hS hA (by decide) (by decide) (by decide) dX2_init_7 (fun q0 H hP hD hS => ?_)
  have hP : va_P G vwCl [(h0, .inr (2, [.null, .null])), (q0, aJ cJ 8)] H := hP
  have hD : va_D A [(h0, .inr (2, [.null, .null])), (q0, aJ cJ 8)] := hD
  refine va_putF (D := G) (ci := 2) (v := .ref q0) (ty := .array .long) (C := RX2) (T := TX2) (N := 2) hx hb hts inX2 tyX2 tyX2_ok nmX2 hown hK hP hD hS 0 rfl rfl 0 (by decide) (hts _ fl_X2_9) (fun _ h9 => h9) rfl hin rfl (by decide +kernel) rfl rfl (Nat.le_of_ble_eq_true rfl) dX2_init_9 (fun H locs hP hD hS => ?_)
  have hP : va_P G vwCl [(h0, .inr (2, [.ref q0, .null])), (q0, aJ cJ 8)] H := hP
  have hD : va_D A [(h0, .inr (2, [.ref q0, .null])), (q0, aJ cJ 8)] := hD
  refine lv_aload_n hx hb dX2_init_12 rfl (lv_at hl 0 rfl) ?_
  refine lv_bipush (v := nI 8) hx hb dX2_init_13 (by decide) ?_
  refine N_long (N := 8) hx hb hts hK hP hD hS hA (by decide) (by decide) (by decide) dX2_init_15 (fun q1 H hP hD hS => ?_)
  have hP : va_P G vwCl [(h0, .inr (2, [.ref q0, .null])), (q0, aJ cJ 8), (q1, aJ cJ 8)] H := hP
  have hD : va_D A [(h0, .inr (2, [.ref q0, .null])), (q0, aJ cJ 8), (q1, aJ cJ 8)] := hD
  refine va_putF (D := G) (ci := 2) (v := .ref q1) (ty := .array .long) (C := RX2) (T := TX2) (N := 2) hx hb hts inX2 tyX2 tyX2_ok nmX2 hown hK hP hD hS 0 rfl rfl 1 (by decide) (hts _ fl_X2_15) (fun _ h9 => h9) rfl hin rfl (by decide +kernel) rfl rfl (Nat.le_of_ble_eq_true rfl) dX2_init_17 (fun H locs hP hD hS => ?_)
  have hP : va_P G vwCl [(h0, .inr (2, [.ref q0, .ref q1])), (q0, aJ cJ 8), (q1, aJ cJ 8)] H := hP
  have hD : va_D A [(h0, .inr (2, [.ref q0, .ref q1])), (q0, aJ cJ 8), (q1, aJ cJ 8)] := hD
  refine W.widen (k := 2) (n := 16) (by decide) (by decide) ?_
  exact W.vret hx hb hr (fun t ht hW => ⟨⟨_, rfl, ⟨fun k => [q0, q1].getD k 0, rfl⟩, by rw [ht]; exact hP, hD⟩, hS.F ht⟩) hS.2.2 dX2_init_20 B.notSynchronized
abbrev shX3 (cI cJ : ClassId) (h0 : Nat) (q : Nat → Nat) : va_W := [(h0, .inr (3, [.ref (q 0), .int 0, .int 0, .int 0])), ((q 0), aI cI 60)]
set_option maxHeartbeats 4000000 in
set_option maxRecDepth 100000 in
theorem c_X3_init (l : Launch) (G : va_G) (cI cJ cO : ClassId) (h0 sz : Nat) : Met l yX3_init (codeW mX3_init :: lU) ({ frames := 1, cells := 1, slots := 60, locals := 12 }) (va_Pc [.ref h0] (fun U => U.heap.size = sz ∧ va_P G vwCl [(h0, .inr (3, [.null, .int 0, .int 0, .int 0]))] U.heap ∧ va_D (fun _ => True) [(h0, .inr (3, [.null, .int 0, .int 0, .int 0]))] ∧ va_K G vwCl (tysW cI cJ cO) U)) (va_Qv (fun u : va_W => ∃ q : Nat → Nat, u = shX3 cI cJ h0 q) (fun u t => va_P G vwCl u t.heap ∧ va_D (va_A [(h0, .inr (3, [.null, .int 0, .int 0, .int 0]))] sz) u) (va_A [(h0, .inr (3, [.null, .int 0, .int 0, .int 0]))] sz)) 1 60 (va_A [(h0, .inr (3, [.null, .int 0, .int 0, .int 0]))] sz) := by
  refine Met.ofW (cc := cX3_init) (maxL := 1) (ret := none) (by decide) rfl ?_
  intro p e s m args below meth c s₁ B hml hv
  obtain ⟨rfl, hsz, hP, hD0, hK⟩ := hv
  have hx := B.exec
  have hb := B.bytes
  have hr := B.returns
  have hts0 := atoms_spec (ws := codeW mX3_init :: lU) B.pre
  have hts : ∀ w ∈ lU, w.before _ s = true := fun w hw => hts0 w (List.mem_cons_of_mem _ hw)
  have hown : s.vm.findClass RX3 = some m.cls := findClass_of_methodNamed B.named
  have hin : meth.name = "<init>" := (name_of_methodNamed B.named B.method).1
  subst hsz
  have hD := hD0.self (sz := s.heap.size)
  generalize hAe : va_A [(h0, .inr (3, [.null, .int 0, .int 0, .int 0]))] s.heap.size = A at hD ⊢
  have hA : ∀ q : Nat, s.heap.size ≤ q → A q := fun q h => by rw [← hAe]; exact Or.inr h
  have hS : va_S A s.heap s.heap [] := va_S.rf
  have hP : va_P G vwCl [(h0, .inr (3, [.null, .int 0, .int 0, .int 0]))] s.heap := hP
  have hl := lv_entry ([.ref h0]) (n := 1) (Nat.le_of_ble_eq_true rfl)
  rw [lg_entry_eq]
  generalize (lg_sl ([.ref h0]) ++ List.replicate (1 - (lg_sl ([.ref h0])).length) Slot.unset).toArray = ls at hl ⊢
  have hl : lv_has ls 1 [(0, .ref h0)] := hl
  refine lv_aload_n hx hb dX3_init_0 rfl (lv_at hl 0 rfl) ?_
  refine W.objInit hx hb hown (hts _ ml_X3_3) (hts _ o_in) (hts _ o_co) rfl (by rw [hml]; exact hl.1) rfl dX3_init_1 (Nat.le_of_ble_eq_true rfl) (Nat.le_of_ble_eq_true rfl) ?_
  refine W.eq (g2 := F0 m 4 ls []) rfl ?_
  refine lv_aload_n hx hb dX3_init_4 rfl (lv_at hl 0 rfl) ?_
  refine lv_bipush (v := nI 60) hx hb dX3_init_5 (by decide) ?_
  refine N_int (N := 60) hx hb hts hK hP hD hS hA (by decide) (by decide) (by decide) dX3_init_7 (fun q0 H hP hD hS => ?_)
  have hP : va_P G vwCl [(h0, .inr (3, [.null, .int 0, .int 0, .int 0])), (q0, aI cI 60)] H := hP
  have hD : va_D A [(h0, .inr (3, [.null, .int 0, .int 0, .int 0])), (q0, aI cI 60)] := hD
  refine va_putF (D := G) (ci := 3) (v := .ref q0) (ty := .array .int) (C := RX3) (T := TX3) (N := 4) hx hb hts inX3 tyX3 tyX3_ok nmX3 hown hK hP hD hS 0 rfl rfl 0 (by decide) (hts _ fl_X3_9) (fun _ h9 => h9) rfl hin rfl (by decide +kernel) rfl rfl (Nat.le_of_ble_eq_true rfl) dX3_init_9 (fun H locs hP hD hS => ?_)
  have hP : va_P G vwCl [(h0, .inr (3, [.ref q0, .int 0, .int 0, .int 0])), (q0, aI cI 60)] H := hP
  have hD : va_D A [(h0, .inr (3, [.ref q0, .int 0, .int 0, .int 0])), (q0, aI cI 60)] := hD
  refine W.widen (k := 1) (n := 60) (by decide) (by decide) ?_
  exact W.vret hx hb hr (fun t ht hW => ⟨⟨_, rfl, ⟨fun k => [q0].getD k 0, rfl⟩, by rw [ht]; exact hP, hD⟩, hS.F ht⟩) hS.2.2 dX3_init_12 B.notSynchronized
abbrev shX4 (cI cJ : ClassId) (h0 : Nat) (q : Nat → Nat) : va_W := [(h0, .inr (4, [.ref (q 0), .ref (q 1), .ref (q 2), .ref (q 3), .ref (q 4), .ref (q 5), .ref (q 6), .ref (q 7), .int 0, .int 0, .int 0, .int 0, .int 0])), ((q 0), aI cI 8), ((q 1), aI cI 8), ((q 2), aI cI 8), ((q 3), aI cI 8), ((q 4), aI cI 6), ((q 5), aI cI 6), ((q 6), aI cI 8), ((q 7), aI cI 8)]
set_option maxHeartbeats 4000000 in
set_option maxRecDepth 100000 in
theorem c_X4_init (l : Launch) (G : va_G) (cI cJ cO : ClassId) (h0 sz : Nat) : Met l yX4_init (codeW mX4_init :: lU) ({ frames := 1, cells := 8, slots := 60, locals := 12 }) (va_Pc [.ref h0] (fun U => U.heap.size = sz ∧ va_P G vwCl [(h0, .inr (4, [.null, .null, .null, .null, .null, .null, .null, .null, .int 0, .int 0, .int 0, .int 0, .int 0]))] U.heap ∧ va_D (fun _ => True) [(h0, .inr (4, [.null, .null, .null, .null, .null, .null, .null, .null, .int 0, .int 0, .int 0, .int 0, .int 0]))] ∧ va_K G vwCl (tysW cI cJ cO) U)) (va_Qv (fun u : va_W => ∃ q : Nat → Nat, u = shX4 cI cJ h0 q) (fun u t => va_P G vwCl u t.heap ∧ va_D (va_A [(h0, .inr (4, [.null, .null, .null, .null, .null, .null, .null, .null, .int 0, .int 0, .int 0, .int 0, .int 0]))] sz) u) (va_A [(h0, .inr (4, [.null, .null, .null, .null, .null, .null, .null, .null, .int 0, .int 0, .int 0, .int 0, .int 0]))] sz)) 8 60 (va_A [(h0, .inr (4, [.null, .null, .null, .null, .null, .null, .null, .null, .int 0, .int 0, .int 0, .int 0, .int 0]))] sz) := by
  refine Met.ofW (cc := cX4_init) (maxL := 1) (ret := none) (by decide) rfl ?_
  intro p e s m args below meth c s₁ B hml hv
  obtain ⟨rfl, hsz, hP, hD0, hK⟩ := hv
  have hx := B.exec
  have hb := B.bytes
  have hr := B.returns
  have hts0 := atoms_spec (ws := codeW mX4_init :: lU) B.pre
  have hts : ∀ w ∈ lU, w.before _ s = true := fun w hw => hts0 w (List.mem_cons_of_mem _ hw)
  have hown : s.vm.findClass RX4 = some m.cls := findClass_of_methodNamed B.named
  have hin : meth.name = "<init>" := (name_of_methodNamed B.named B.method).1
  subst hsz
  have hD := hD0.self (sz := s.heap.size)
  generalize hAe : va_A [(h0, .inr (4, [.null, .null, .null, .null, .null, .null, .null, .null, .int 0, .int 0, .int 0, .int 0, .int 0]))] s.heap.size = A at hD ⊢
  have hA : ∀ q : Nat, s.heap.size ≤ q → A q := fun q h => by rw [← hAe]; exact Or.inr h
  have hS : va_S A s.heap s.heap [] := va_S.rf
  have hP : va_P G vwCl [(h0, .inr (4, [.null, .null, .null, .null, .null, .null, .null, .null, .int 0, .int 0, .int 0, .int 0, .int 0]))] s.heap := hP
  have hl := lv_entry ([.ref h0]) (n := 1) (Nat.le_of_ble_eq_true rfl)
  rw [lg_entry_eq]
  generalize (lg_sl ([.ref h0]) ++ List.replicate (1 - (lg_sl ([.ref h0])).length) Slot.unset).toArray = ls at hl ⊢
  have hl : lv_has ls 1 [(0, .ref h0)] := hl
  refine lv_aload_n hx hb dX4_init_0 rfl (lv_at hl 0 rfl) ?_
  refine W.objInit hx hb hown (hts _ ml_X4_3) (hts _ o_in) (hts _ o_co) rfl (by rw [hml]; exact hl.1) rfl dX4_init_1 (Nat.le_of_ble_eq_true rfl) (Nat.le_of_ble_eq_true rfl) ?_
  refine W.eq (g2 := F0 m 4 ls []) rfl ?_
  refine lv_aload_n hx hb dX4_init_4 rfl (lv_at hl 0 rfl) ?_
  refine lv_bipush (v := nI 8) hx hb dX4_init_5 (by decide) ?_
  refine N_int (N := 8) hx hb hts hK hP hD hS hA (by decide) (by decide) (by decide) dX4_init_7 (fun q0 H hP hD hS => ?_)
  have hP : va_P G vwCl [(h0, .inr (4, [.null, .null, .null, .null, .null, .null, .null, .null, .int 0, .int 0, .int 0, .int 0, .int 0])), (q0, aI cI 8)] H := hP
  have hD : va_D A [(h0, .inr (4, [.null, .null, .null, .null, .null, .null, .null, .null, .int 0, .int 0, .int 0, .int 0, .int 0])), (q0, aI cI 8)] := hD
  refine va_putF (D := G) (ci := 4) (v := .ref q0) (ty := .array .int) (C := RX4) (T := TX4) (N := 13) hx hb hts inX4 tyX4 tyX4_ok nmX4 hown hK hP hD hS 0 rfl rfl 0 (by decide) (hts _ fl_X4_9) (fun _ h9 => h9) rfl hin rfl (by decide +kernel) rfl rfl (Nat.le_of_ble_eq_true rfl) dX4_init_9 (fun H locs hP hD hS => ?_)
  have hP : va_P G vwCl [(h0, .inr (4, [.ref q0, .null, .null, .null, .null, .null, .null, .null, .int 0, .int 0, .int 0, .int 0, .int 0])), (q0, aI cI 8)] H := hP
  have hD : va_D A [(h0, .inr (4, [.ref q0, .null, .null, .null, .null, .null, .null, .null, .int 0, .int 0, .int 0, .int 0, .int 0])), (q0, aI cI 8)] := hD
  refine lv_aload_n hx hb dX4_init_12 rfl (lv_at hl 0 rfl) ?_
  refine lv_bipush (v := nI 8) hx hb dX4_init_13 (by decide) ?_
  refine N_int (N := 8) hx hb hts hK hP hD hS hA (by decide) (by decide) (by decide) dX4_init_15 (fun q1 H hP hD hS => ?_)
  have hP : va_P G vwCl [(h0, .inr (4, [.ref q0, .null, .null, .null, .null, .null, .null, .null, .int 0, .int 0, .int 0, .int 0, .int 0])), (q0, aI cI 8), (q1, aI cI 8)] H := hP
  have hD : va_D A [(h0, .inr (4, [.ref q0, .null, .null, .null, .null, .null, .null, .null, .int 0, .int 0, .int 0, .int 0, .int 0])), (q0, aI cI 8), (q1, aI cI 8)] := hD
  refine va_putF (D := G) (ci := 4) (v := .ref q1) (ty := .array .int) (C := RX4) (T := TX4) (N := 13) hx hb hts inX4 tyX4 tyX4_ok nmX4 hown hK hP hD hS 0 rfl rfl 1 (by decide) (hts _ fl_X4_15) (fun _ h9 => h9) rfl hin rfl (by decide +kernel) rfl rfl (Nat.le_of_ble_eq_true rfl) dX4_init_17 (fun H locs hP hD hS => ?_)
  have hP : va_P G vwCl [(h0, .inr (4, [.ref q0, .ref q1, .null, .null, .null, .null, .null, .null, .int 0, .int 0, .int 0, .int 0, .int 0])), (q0, aI cI 8), (q1, aI cI 8)] H := hP
  have hD : va_D A [(h0, .inr (4, [.ref q0, .ref q1, .null, .null, .null, .null, .null, .null, .int 0, .int 0, .int 0, .int 0, .int 0])), (q0, aI cI 8), (q1, aI cI 8)] := hD
  refine lv_aload_n hx hb dX4_init_20 rfl (lv_at hl 0 rfl) ?_
  refine lv_bipush (v := nI 8) hx hb dX4_init_21 (by decide) ?_
  refine N_int (N := 8) hx hb hts hK hP hD hS hA (by decide) (by decide) (by decide) dX4_init_23 (fun q2 H hP hD hS => ?_)
  have hP : va_P G vwCl [(h0, .inr (4, [.ref q0, .ref q1, .null, .null, .null, .null, .null, .null, .int 0, .int 0, .int 0, .int 0, .int 0])), (q0, aI cI 8), (q1, aI cI 8), (q2, aI cI 8)] H := hP
  have hD : va_D A [(h0, .inr (4, [.ref q0, .ref q1, .null, .null, .null, .null, .null, .null, .int 0, .int 0, .int 0, .int 0, .int 0])), (q0, aI cI 8), (q1, aI cI 8), (q2, aI cI 8)] := hD
  refine va_putF (D := G) (ci := 4) (v := .ref q2) (ty := .array .int) (C := RX4) (T := TX4) (N := 13) hx hb hts inX4 tyX4 tyX4_ok nmX4 hown hK hP hD hS 0 rfl rfl 2 (by decide) (hts _ fl_X4_18) (fun _ h9 => h9) rfl hin rfl (by decide +kernel) rfl rfl (Nat.le_of_ble_eq_true rfl) dX4_init_25 (fun H locs hP hD hS => ?_)
  have hP : va_P G vwCl [(h0, .inr (4, [.ref q0, .ref q1, .ref q2, .null, .null, .null, .null, .null, .int 0, .int 0, .int 0, .int 0, .int 0])), (q0, aI cI 8), (q1, aI cI 8), (q2, aI cI 8)] H := hP
  have hD : va_D A [(h0, .inr (4, [.ref q0, .ref q1, .ref q2, .null, .null, .null, .null, .null, .int 0, .int 0, .int 0, .int 0, .int 0])), (q0, aI cI 8), (q1, aI cI 8), (q2, aI cI 8)] := hD
  refine lv_aload_n hx hb dX4_init_28 rfl (lv_at hl 0 rfl) ?_
  refine lv_bipush (v := nI 8) hx hb dX4_init_29 (by decide) ?_
  refine N_int (N := 8) hx hb hts hK hP hD hS hA (by decide) (by decide) (by decide) dX4_init_31 (fun q3 H hP hD hS => ?_)
  have hP : va_P G vwCl [(h0, .inr (4, [.ref q0, .ref q1, .ref q2, .null, .null, .null, .null, .null, .int 0, .int 0, .int 0, .int 0, .int 0])), (q0, aI cI 8), (q1, aI cI 8), (q2, aI cI 8), (q3, aI cI 8)] H := hP
  have hD : va_D A [(h0, .inr (4, [.ref q0, .ref q1, .ref q2, .null, .null, .null, .null, .null, .int 0, .int 0, .int 0, .int 0, .int 0])), (q0, aI cI 8), (q1, aI cI 8), (q2, aI cI 8), (q3, aI cI 8)] := hD
  refine va_putF (D := G) (ci := 4) (v := .ref q3) (ty := .array .int) (C := RX4) (T := TX4) (N := 13) hx hb hts inX4 tyX4 tyX4_ok nmX4 hown hK hP hD hS 0 rfl rfl 3 (by decide) (hts _ fl_X4_21) (fun _ h9 => h9) rfl hin rfl (by decide +kernel) rfl rfl (Nat.le_of_ble_eq_true rfl) dX4_init_33 (fun H locs hP hD hS => ?_)
  have hP : va_P G vwCl [(h0, .inr (4, [.ref q0, .ref q1, .ref q2, .ref q3, .null, .null, .null, .null, .int 0, .int 0, .int 0, .int 0, .int 0])), (q0, aI cI 8), (q1, aI cI 8), (q2, aI cI 8), (q3, aI cI 8)] H := hP
  have hD : va_D A [(h0, .inr (4, [.ref q0, .ref q1, .ref q2, .ref q3, .null, .null, .null, .null, .int 0, .int 0, .int 0, .int 0, .int 0])), (q0, aI cI 8), (q1, aI cI 8), (q2, aI cI 8), (q3, aI cI 8)] := hD
  refine lv_aload_n hx hb dX4_init_36 rfl (lv_at hl 0 rfl) ?_
  refine lv_bipush (v := nI 6) hx hb dX4_init_37 (by decide) ?_
  refine N_int (N := 6) hx hb hts hK hP hD hS hA (by decide) (by decide) (by decide) dX4_init_39 (fun q4 H hP hD hS => ?_)
  have hP : va_P G vwCl [(h0, .inr (4, [.ref q0, .ref q1, .ref q2, .ref q3, .null, .null, .null, .null, .int 0, .int 0, .int 0, .int 0, .int 0])), (q0, aI cI 8), (q1, aI cI 8), (q2, aI cI 8), (q3, aI cI 8), (q4, aI cI 6)] H := hP
  have hD : va_D A [(h0, .inr (4, [.ref q0, .ref q1, .ref q2, .ref q3, .null, .null, .null, .null, .int 0, .int 0, .int 0, .int 0, .int 0])), (q0, aI cI 8), (q1, aI cI 8), (q2, aI cI 8), (q3, aI cI 8), (q4, aI cI 6)] := hD
  refine va_putF (D := G) (ci := 4) (v := .ref q4) (ty := .array .int) (C := RX4) (T := TX4) (N := 13) hx hb hts inX4 tyX4 tyX4_ok nmX4 hown hK hP hD hS 0 rfl rfl 4 (by decide) (hts _ fl_X4_24) (fun _ h9 => h9) rfl hin rfl (by decide +kernel) rfl rfl (Nat.le_of_ble_eq_true rfl) dX4_init_41 (fun H locs hP hD hS => ?_)
  have hP : va_P G vwCl [(h0, .inr (4, [.ref q0, .ref q1, .ref q2, .ref q3, .ref q4, .null, .null, .null, .int 0, .int 0, .int 0, .int 0, .int 0])), (q0, aI cI 8), (q1, aI cI 8), (q2, aI cI 8), (q3, aI cI 8), (q4, aI cI 6)] H := hP
  have hD : va_D A [(h0, .inr (4, [.ref q0, .ref q1, .ref q2, .ref q3, .ref q4, .null, .null, .null, .int 0, .int 0, .int 0, .int 0, .int 0])), (q0, aI cI 8), (q1, aI cI 8), (q2, aI cI 8), (q3, aI cI 8), (q4, aI cI 6)] := hD
  refine lv_aload_n hx hb dX4_init_44 rfl (lv_at hl 0 rfl) ?_
  refine lv_bipush (v := nI 6) hx hb dX4_init_45 (by decide) ?_
  refine N_int (N := 6) hx hb hts hK hP hD hS hA (by decide) (by decide) (by decide) dX4_init_47 (fun q5 H hP hD hS => ?_)
  have hP : va_P G vwCl [(h0, .inr (4, [.ref q0, .ref q1, .ref q2, .ref q3, .ref q4, .null, .null, .null, .int 0, .int 0, .int 0, .int 0, .int 0])), (q0, aI cI 8), (q1, aI cI 8), (q2, aI cI 8), (q3, aI cI 8), (q4, aI cI 6), (q5, aI cI 6)] H := hP
  have hD : va_D A [(h0, .inr (4, [.ref q0, .ref q1, .ref q2, .ref q3, .ref q4, .null, .null, .null, .int 0, .int 0, .int 0, .int 0, .int 0])), (q0, aI cI 8), (q1, aI cI 8), (q2, aI cI 8), (q3, aI cI 8), (q4, aI cI 6), (q5, aI cI 6)] := hD
  refine va_putF (D := G) (ci := 4) (v := .ref q5) (ty := .array .int) (C := RX4) (T := TX4) (N := 13) hx hb hts inX4 tyX4 tyX4_ok nmX4 hown hK hP hD hS 0 rfl rfl 5 (by decide) (hts _ fl_X4_27) (fun _ h9 => h9) rfl hin rfl (by decide +kernel) rfl rfl (Nat.le_of_ble_eq_true rfl) dX4_init_49 (fun H locs hP hD hS => ?_)
  have hP : va_P G vwCl [(h0, .inr (4, [.ref q0, .ref q1, .ref q2, .ref q3, .ref q4, .ref q5, .null, .null, .int 0, .int 0, .int 0, .int 0, .int 0])), (q0, aI cI 8), (q1, aI cI 8), (q2, aI cI 8), (q3, aI cI 8), (q4, aI cI 6), (q5, aI cI 6)] H := hP
  have hD : va_D A [(h0, .inr (4, [.ref q0, .ref q1, .ref q2, .ref q3, .ref q4, .ref q5, .null, .null, .int 0, .int 0, .int 0, .int 0, .int 0])), (q0, aI cI 8), (q1, aI cI 8), (q2, aI cI 8), (q3, aI cI 8), (q4, aI cI 6), (q5, aI cI 6)] := hD
  refine lv_aload_n hx hb dX4_init_52 rfl (lv_at hl 0 rfl) ?_
  refine lv_bipush (v := nI 8) hx hb dX4_init_53 (by decide) ?_
  refine N_int (N := 8) hx hb hts hK hP hD hS hA (by decide) (by decide) (by decide) dX4_init_55 (fun q6 H hP hD hS => ?_)
  have hP : va_P G vwCl [(h0, .inr (4, [.ref q0, .ref q1, .ref q2, .ref q3, .ref q4, .ref q5, .null, .null, .int 0, .int 0, .int 0, .int 0, .int 0])), (q0, aI cI 8), (q1, aI cI 8), (q2, aI cI 8), (q3, aI cI 8), (q4, aI cI 6), (q5, aI cI 6), (q6, aI cI 8)] H := hP
  have hD : va_D A [(h0, .inr (4, [.ref q0, .ref q1, .ref q2, .ref q3, .ref q4, .ref q5, .null, .null, .int 0, .int 0, .int 0, .int 0, .int 0])), (q0, aI cI 8), (q1, aI cI 8), (q2, aI cI 8), (q3, aI cI 8), (q4, aI cI 6), (q5, aI cI 6), (q6, aI cI 8)] := hD
  refine va_putF (D := G) (ci := 4) (v := .ref q6) (ty := .array .int) (C := RX4) (T := TX4) (N := 13) hx hb hts inX4 tyX4 tyX4_ok nmX4 hown hK hP hD hS 0 rfl rfl 6 (by decide) (hts _ fl_X4_30) (fun _ h9 => h9) rfl hin rfl (by decide +kernel) rfl rfl (Nat.le_of_ble_eq_true rfl) dX4_init_57 (fun H locs hP hD hS => ?_)
  have hP : va_P G vwCl [(h0, .inr (4, [.ref q0, .ref q1, .ref q2, .ref q3, .ref q4, .ref q5, .ref q6, .null, .int 0, .int 0, .int 0, .int 0, .int 0])), (q0, aI cI 8), (q1, aI cI 8), (q2, aI cI 8), (q3, aI cI 8), (q4, aI cI 6), (q5, aI cI 6), (q6, aI cI 8)] H := hP
  have hD : va_D A [(h0, .inr (4, [.ref q0, .ref q1, .ref q2, .ref q3, .ref q4, .ref q5, .ref q6, .null, .int 0, .int 0, .int 0, .int 0, .int 0])), (q0, aI cI 8), (q1, aI cI 8), (q2, aI cI 8), (q3, aI cI 8), (q4, aI cI 6), (q5, aI cI 6), (q6, aI cI 8)] := hD
  refine lv_aload_n hx hb dX4_init_60 rfl (lv_at hl 0 rfl) ?_
  refine lv_bipush (v := nI 8) hx hb dX4_init_61 (by decide) ?_
  refine N_int (N := 8) hx hb hts hK hP hD hS hA (by decide) (by decide) (by decide) dX4_init_63 (fun q7 H hP hD hS => ?_)
  have hP : va_P G vwCl [(h0, .inr (4, [.ref q0, .ref q1, .ref q2, .ref q3, .ref q4, .ref q5, .ref q6, .null, .int 0, .int 0, .int 0, .int 0, .int 0])), (q0, aI cI 8), (q1, aI cI 8), (q2, aI cI 8), (q3, aI cI 8), (q4, aI cI 6), (q5, aI cI 6), (q6, aI cI 8), (q7, aI cI 8)] H := hP
  have hD : va_D A [(h0, .inr (4, [.ref q0, .ref q1, .ref q2, .ref q3, .ref q4, .ref q5, .ref q6, .null, .int 0, .int 0, .int 0, .int 0, .int 0])), (q0, aI cI 8), (q1, aI cI 8), (q2, aI cI 8), (q3, aI cI 8), (q4, aI cI 6), (q5, aI cI 6), (q6, aI cI 8), (q7, aI cI 8)] := hD
  refine va_putF (D := G) (ci := 4) (v := .ref q7) (ty := .array .int) (C := RX4) (T := TX4) (N := 13) hx hb hts inX4 tyX4 tyX4_ok nmX4 hown hK hP hD hS 0 rfl rfl 7 (by decide) (hts _ fl_X4_33) (fun _ h9 => h9) rfl hin rfl (by decide +kernel) rfl rfl (Nat.le_of_ble_eq_true rfl) dX4_init_65 (fun H locs hP hD hS => ?_)
  have hP : va_P G vwCl [(h0, .inr (4, [.ref q0, .ref q1, .ref q2, .ref q3, .ref q4, .ref q5, .ref q6, .ref q7, .int 0, .int 0, .int 0, .int 0, .int 0])), (q0, aI cI 8), (q1, aI cI 8), (q2, aI cI 8), (q3, aI cI 8), (q4, aI cI 6), (q5, aI cI 6), (q6, aI cI 8), (q7, aI cI 8)] H := hP
  have hD : va_D A [(h0, .inr (4, [.ref q0, .ref q1, .ref q2, .ref q3, .ref q4, .ref q5, .ref q6, .ref q7, .int 0, .int 0, .int 0, .int 0, .int 0])), (q0, aI cI 8), (q1, aI cI 8), (q2, aI cI 8), (q3, aI cI 8), (q4, aI cI 6), (q5, aI cI 6), (q6, aI cI 8), (q7, aI cI 8)] := hD
  refine W.widen (k := 8) (n := 60) (by decide) (by decide) ?_
  exact W.vret hx hb hr (fun t ht hW => ⟨⟨_, rfl, ⟨fun k => [q0, q1, q2, q3, q4, q5, q6, q7].getD k 0, rfl⟩, by rw [ht]; exact hP, hD⟩, hS.F ht⟩) hS.2.2 dX4_init_68 B.notSynchronized
abbrev shX5 (cI cJ : ClassId) (h0 : Nat) (q : Nat → Nat) : va_W := [(h0, .inr (5, [.ref (q 0), .int 0, .int 0, .int 0])), ((q 0), aI cI 0)]
set_option maxHeartbeats 4000000 in
set_option maxRecDepth 100000 in
theorem c_X5_init (l : Launch) (G : va_G) (cI cJ cO : ClassId) (h0 sz : Nat) : Met l yX5_init (codeW mX5_init :: lU) ({ frames := 1, cells := 1, slots := 0, locals := 12 }) (va_Pc [.ref h0] (fun U => U.heap.size = sz ∧ va_P G vwCl [(h0, .inr (5, [.null, .int 0, .int 0, .int 0]))] U.heap ∧ va_D (fun _ => True) [(h0, .inr (5, [.null, .int 0, .int 0, .int 0]))] ∧ va_K G vwCl (tysW cI cJ cO) U)) (va_Qv (fun u : va_W => ∃ q : Nat → Nat, u = shX5 cI cJ h0 q) (fun u t => va_P G vwCl u t.heap ∧ va_D (va_A [(h0, .inr (5, [.null, .int 0, .int 0, .int 0]))] sz) u) (va_A [(h0, .inr (5, [.null, .int 0, .int 0, .int 0]))] sz)) 1 0 (va_A [(h0, .inr (5, [.null, .int 0, .int 0, .int 0]))] sz) := by
  refine Met.ofW (cc := cX5_init) (maxL := 1) (ret := none) (by decide) rfl ?_
  intro p e s m args below meth c s₁ B hml hv
  obtain ⟨rfl, hsz, hP, hD0, hK⟩ := hv
  have hx := B.exec
  have hb := B.bytes
  have hr := B.returns
  have hts0 := atoms_spec (ws := codeW mX5_init :: lU) B.pre
  have hts : ∀ w ∈ lU, w.before _ s = true := fun w hw => hts0 w (List.mem_cons_of_mem _ hw)
  have hown : s.vm.findClass RX5 = some m.cls := findClass_of_methodNamed B.named
  have hin : meth.name = "<init>" := (name_of_methodNamed B.named B.method).1
  subst hsz
  have hD := hD0.self (sz := s.heap.size)
  generalize hAe : va_A [(h0, .inr (5, [.null, .int 0, .int 0, .int 0]))] s.heap.size = A at hD ⊢
  have hA : ∀ q : Nat, s.heap.size ≤ q → A q := fun q h => by rw [← hAe]; exact Or.inr h
  have hS : va_S A s.heap s.heap [] := va_S.rf
  have hP : va_P G vwCl [(h0, .inr (5, [.null, .int 0, .int 0, .int 0]))] s.heap := hP
  have hl := lv_entry ([.ref h0]) (n := 1) (Nat.le_of_ble_eq_true rfl)
  rw [lg_entry_eq]
  generalize (lg_sl ([.ref h0]) ++ List.replicate (1 - (lg_sl ([.ref h0])).length) Slot.unset).toArray = ls at hl ⊢
  have hl : lv_has ls 1 [(0, .ref h0)] := hl
  refine lv_aload_n hx hb dX5_init_0 rfl (lv_at hl 0 rfl) ?_
  refine W.objInit hx hb hown (hts _ ml_X5_3) (hts _ o_in) (hts _ o_co) rfl (by rw [hml]; exact hl.1) rfl dX5_init_1 (Nat.le_of_ble_eq_true rfl) (Nat.le_of_ble_eq_true rfl) ?_
  refine W.eq (g2 := F0 m 4 ls []) rfl ?_
  refine lv_aload_n hx hb dX5_init_4 rfl (lv_at hl 0 rfl) ?_
  refine lv_iconst (v := nI 0) hx hb dX5_init_5 (by decide) ?_
  refine N_int (N := 0) hx hb hts hK hP hD hS hA (by decide) (by decide) (by decide) dX5_init_6 (fun q0 H hP hD hS => ?_)
  have hP : va_P G vwCl [(h0, .inr (5, [.null, .int 0, .int 0, .int 0])), (q0, aI cI 0)] H := hP
  have hD : va_D A [(h0, .inr (5, [.null, .int 0, .int 0, .int 0])), (q0, aI cI 0)] := hD
  refine va_put (D := G) (ci := 5) (v := .ref q0) (ty := .array .int) (C := RX5) (T := TX5) (N := 4) hx hb hts inX5 tyX5 tyX5_ok nmX5 hown hK hP hD hS 0 rfl rfl 0 (by decide) (hts _ fl_X5_9) (fun _ h9 => h9) rfl (by decide +kernel) rfl rfl (Nat.le_of_ble_eq_true rfl) dX5_init_8 (fun H locs hP hD hS => ?_)
  have hP : va_P G vwCl [(h0, .inr (5, [.ref q0, .int 0, .int 0, .int 0])), (q0, aI cI 0)] H := hP
  have hD : va_D A [(h0, .inr (5, [.ref q0, .int 0, .int 0, .int 0])), (q0, aI cI 0)] := hD
  refine W.widen (k := 1) (n := 0) (by decide) (by decide) ?_
  exact W.vret hx hb hr (fun t ht hW => ⟨⟨_, rfl, ⟨fun k => [q0].getD k 0, rfl⟩, by rw [ht]; exact hP, hD⟩, hS.F ht⟩) hS.2.2 dX5_init_11 B.notSynchronized
