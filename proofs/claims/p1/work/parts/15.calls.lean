
set_option maxHeartbeats 4000000 in
set_option maxRecDepth 100000 in
theorem kX4_add_40 (l : Launch) (dC : Nat → ClassId) (dI : Nat → Nat → Nat) (g : Nat → Nat) (sz : Nat) (h0 : Nat) (x0 : Int32) (h1 : Nat) (x1 : Int32) (cc0 : ClassId) (f0 : Nat → Int32) (ex0 : (0 : Int) ≤ x0.toInt ∧ x0.toInt ≤ (127 : Int)) (ex1 : (0 : Int) ≤ x1.toInt ∧ x1.toInt ≤ (1 : Int)) : Met l yX4_add wbX4_add ({ frames := 0, cells := 0, slots := 0, locals := 0 }) (va_Pc [.ref h0, .int x0] (fun U => U.heap.size = sz ∧ va_P (dC, dI) vwCl [(h0, .inr (11, [.ref h1, .int x1])), (h1, .inl (cc0, 60, .inl f0))] U.heap ∧ va_K (dC, dI) vwCl [(cc0, .int)] U ∧ va_D (fun _ => True) [(h0, .inr (11, [.ref h1, .int x1])), (h1, .inl (cc0, 60, .inl f0))] ∧ ns_F g (va_A [(h0, .inr (11, [.ref h1, .int x1])), (h1, .inl (cc0, 60, .inl f0))] sz) U U.heap)) (va_Qv (fun _ : Unit => True) (fun _ t => va_P (dC, dI) vwCl [(h0, .inr (11, [.ref h1, .int (x1 + 1)])), (h1, .inl (cc0, 60, .inl (upd (f0) x1.toNatClampNeg x0)))] t.heap ∧ va_K (dC, dI) vwCl [(cc0, .int)] t ∧ va_D (va_A [(h0, .inr (11, [.ref h1, .int x1])), (h1, .inl (cc0, 60, .inl f0))] sz) [(h0, .inr (11, [.ref h1, .int (x1 + 1)])), (h1, .inl (cc0, 60, .inl (upd (f0) x1.toNatClampNeg x0)))]) (va_A [(h0, .inr (11, [.ref h1, .int x1])), (h1, .inl (cc0, 60, .inl f0))] sz)) 0 0 (va_A [(h0, .inr (11, [.ref h1, .int x1])), (h1, .inl (cc0, 60, .inl f0))] sz) := by
  refine Met.ofW (cc := cX4_add) (maxL := 2) (ret := none) (by decide) rfl ?_
  intro p e s m args below meth c s₁ B hml hv
  obtain ⟨rfl, hsz, hP, hK, hD0, hF⟩ := hv
  have hx := B.exec
  have hb := B.bytes
  have hr := B.returns
  have hts := atoms_spec (ws := wbX4_add) B.pre
  have hta : ∀ w ∈ wsALL, w.before _ s = true := fun w h => hts w (List.mem_cons_of_mem _ h)
  have hown : s.vm.findClass RX4 = some m.cls := findClass_of_methodNamed B.named
  have hlocks := B.notSynchronized
  subst hsz
  have hD := hD0.self (sz := s.heap.size)
  generalize hAe : va_A [(h0, .inr (11, [.ref h1, .int x1])), (h1, .inl (cc0, 60, .inl f0))] s.heap.size = A at hD hF ⊢
  have hA : ∀ q : Nat, s.heap.size ≤ q → A q := fun q h => by rw [← hAe]; exact Or.inr h
  have hS : va_S A s.heap s.heap [] := va_S.rf
  have hP : va_P (dC, dI) vwCl [(h0, .inr (11, [.ref h1, .int x1])), (h1, .inl (cc0, 60, .inl f0))] s.heap := hP
  have hl := lv_entry ([.ref h0, .int x0]) (n := 2) (Nat.le_of_ble_eq_true rfl)
  rw [lg_entry_eq]
  generalize (lg_sl ([.ref h0, .int x0]) ++ List.replicate (2 - (lg_sl ([.ref h0, .int x0])).length) Slot.unset).toArray = ls at hl ⊢
  have hl : lv_has ls 2 [(0, .ref h0), (1, .int x0)] := hl
  refine lv_aload_n hx hb dX4_add_0 rfl (lv_at hl 0 rfl) ?_
  refine va_get (D := (dC, dI)) (ci := 11) (v := .int x1) (C := RX4) (T := TX4) (N := 2) hx hb hta naX4 hown hK hP 0 rfl rfl 1 (by decide) (hta _ wm14) (fun _ h9 => h9) rfl dX4_add_1 ?_
  refine lv_if_lt (tgt := 39) hx hb dX4_add_4 (by decide) (fun c1 => absurd c1 (fun z => absurd (show x1.toInt < (0 : Int) from Int32.lt_iff_toInt_lt.mp z) (by omega))) (fun c1 => ?_)
  refine lv_aload_n hx hb dX4_add_7 rfl (lv_at hl 0 rfl) ?_
  refine va_get (D := (dC, dI)) (ci := 11) (v := .int x1) (C := RX4) (T := TX4) (N := 2) hx hb hta naX4 hown hK hP 0 rfl rfl 1 (by decide) (hta _ wm14) (fun _ h9 => h9) rfl dX4_add_8 ?_
  refine lv_aload_n hx hb dX4_add_11 rfl (lv_at hl 0 rfl) ?_
  refine va_get (D := (dC, dI)) (ci := 11) (v := .ref h1) (C := RX4) (T := TX4) (N := 2) hx hb hta naX4 hown hK hP 0 rfl rfl 0 (by decide) (hta _ wm16) (fun _ h9 => h9) rfl dX4_add_12 ?_
  refine va_alen (v := 60) hx hb hK hP 1 0 rfl rfl (show Int32.ofNat 60 = 60 by decide) dX4_add_15 ?_
  refine lv_icmp_ge (tgt := 39) hx hb dX4_add_16 (by decide) (fun c2 => absurd c2 (fun z => absurd (show (60 : Int) ≤ x1.toInt from Int32.le_iff_toInt_le.mp z) (by omega))) (fun c2 => ?_)
  refine lv_aload_n hx hb dX4_add_19 rfl (lv_at hl 0 rfl) ?_
  refine va_get (D := (dC, dI)) (ci := 11) (v := .ref h1) (C := RX4) (T := TX4) (N := 2) hx hb hta naX4 hown hK hP 0 rfl rfl 0 (by decide) (hta _ wm16) (fun _ h9 => h9) rfl dX4_add_20 ?_
  refine lv_aload_n hx hb dX4_add_23 rfl (lv_at hl 0 rfl) ?_
  refine va_get (D := (dC, dI)) (ci := 11) (v := .int x1) (C := RX4) (T := TX4) (N := 2) hx hb hta naX4 hown hK hP 0 rfl rfl 1 (by decide) (hta _ wm14) (fun _ h9 => h9) rfl dX4_add_24 ?_
  refine lv_iload_n hx hb dX4_add_27 rfl (lv_at hl 1 rfl) ?_
  refine va_iast hx hb hK hP hD hS 1 0 rfl rfl (vp_in_iff.mpr ⟨show (0 : Int) ≤ x1.toInt by omega, show x1.toInt < ((60 : Nat) : Int) by omega⟩) dX4_add_28 (fun H locs hP hD hS => ?_)
  have hP : va_P (dC, dI) vwCl [(h0, .inr (11, [.ref h1, .int x1])), (h1, .inl (cc0, 60, .inl (upd (f0) x1.toNatClampNeg x0)))] H := hP
  have hD : va_D A [(h0, .inr (11, [.ref h1, .int x1])), (h1, .inl (cc0, 60, .inl (upd (f0) x1.toNatClampNeg x0)))] := hD
  refine lv_aload_n hx hb dX4_add_29 rfl (lv_at hl 0 rfl) ?_
  refine lv_dup hx hb dX4_add_30 rfl ?_
  refine va_get (D := (dC, dI)) (ci := 11) (v := .int x1) (C := RX4) (T := TX4) (N := 2) hx hb hta naX4 hown hK hP 0 rfl rfl 1 (by decide) (hta _ wm14) (fun _ h9 => h9) rfl dX4_add_31 ?_
  refine lv_iconst (v := 1) hx hb dX4_add_34 (by decide) ?_
  refine lv_iadd hx hb dX4_add_35 ?_
  have r3 : (x1 + 1).toInt = x1.toInt + (1 : Int) := fb_addI (show (-2147483648 : Int) ≤ x1.toInt + (1 : Int) by omega) (show x1.toInt + (1 : Int) < (2147483648 : Int) by omega)
  refine va_put (D := (dC, dI)) (ci := 11) (v := .int (x1 + 1)) (ty := .int) (C := RX4) (T := TX4) (N := 2) hx hb hta naX4 tyX4 tyX4_ok nmX4 hown hK hP hD hS 0 rfl rfl 1 (by decide) (hta _ wm14) (fun _ h9 => h9) rfl (by decide +kernel) rfl rfl (Nat.le_of_ble_eq_true rfl) dX4_add_36 (fun H locs hP hD hS => ?_)
  have hP : va_P (dC, dI) vwCl [(h0, .inr (11, [.ref h1, .int (x1 + 1)])), (h1, .inl (cc0, 60, .inl (upd (f0) x1.toNatClampNeg x0)))] H := hP
  have hD : va_D A [(h0, .inr (11, [.ref h1, .int (x1 + 1)])), (h1, .inl (cc0, 60, .inl (upd (f0) x1.toNatClampNeg x0)))] := hD
  have hP9 := hP.sub (ws' := [(h0, .inr (11, [.ref h1, .int (x1 + 1)])), (h1, .inl (cc0, 60, .inl (upd (f0) x1.toNatClampNeg x0)))]) [0, 1] rfl
  have hD9 := hD.sub (ws' := [(h0, .inr (11, [.ref h1, .int (x1 + 1)])), (h1, .inl (cc0, 60, .inl (upd (f0) x1.toNatClampNeg x0)))]) [0, 1] (by decide) rfl
  have hK9 := hK.sub (tys' := [(cc0, .int)]) [0] rfl
  refine W.widen (k := 0) (n := 0) (Nat.le_of_ble_eq_true rfl) (Nat.le_of_ble_eq_true rfl) ?_
  exact W.vret hx hb hr (fun t ht hW => ⟨⟨(), rfl, trivial, by rw [ht]; exact hP9, va_K.moved hW.alike hK9, hD9⟩, hS.F ht⟩) hS.2.2 dX4_add_39
set_option maxHeartbeats 4000000 in
set_option maxRecDepth 100000 in
theorem kX4_add_42 (l : Launch) (dC : Nat → ClassId) (dI : Nat → Nat → Nat) (g : Nat → Nat) (sz : Nat) (h0 : Nat) (x0 : Int32) (h1 : Nat) (x1 : Int32) (cc0 : ClassId) (f0 : Nat → Int32) (ex0 : (0 : Int) ≤ x0.toInt ∧ x0.toInt ≤ (127 : Int)) (ex1 : (0 : Int) ≤ x1.toInt ∧ x1.toInt ≤ (3 : Int)) : Met l yX4_add wbX4_add ({ frames := 0, cells := 0, slots := 0, locals := 0 }) (va_Pc [.ref h0, .int x0] (fun U => U.heap.size = sz ∧ va_P (dC, dI) vwCl [(h0, .inr (11, [.ref h1, .int x1])), (h1, .inl (cc0, 60, .inl f0))] U.heap ∧ va_K (dC, dI) vwCl [(cc0, .int)] U ∧ va_D (fun _ => True) [(h0, .inr (11, [.ref h1, .int x1])), (h1, .inl (cc0, 60, .inl f0))] ∧ ns_F g (va_A [(h0, .inr (11, [.ref h1, .int x1])), (h1, .inl (cc0, 60, .inl f0))] sz) U U.heap)) (va_Qv (fun _ : Unit => True) (fun _ t => va_P (dC, dI) vwCl [(h0, .inr (11, [.ref h1, .int (x1 + 1)])), (h1, .inl (cc0, 60, .inl (upd (f0) x1.toNatClampNeg x0)))] t.heap ∧ va_K (dC, dI) vwCl [(cc0, .int)] t ∧ va_D (va_A [(h0, .inr (11, [.ref h1, .int x1])), (h1, .inl (cc0, 60, .inl f0))] sz) [(h0, .inr (11, [.ref h1, .int (x1 + 1)])), (h1, .inl (cc0, 60, .inl (upd (f0) x1.toNatClampNeg x0)))]) (va_A [(h0, .inr (11, [.ref h1, .int x1])), (h1, .inl (cc0, 60, .inl f0))] sz)) 0 0 (va_A [(h0, .inr (11, [.ref h1, .int x1])), (h1, .inl (cc0, 60, .inl f0))] sz) := by
  refine Met.ofW (cc := cX4_add) (maxL := 2) (ret := none) (by decide) rfl ?_
  intro p e s m args below meth c s₁ B hml hv
  obtain ⟨rfl, hsz, hP, hK, hD0, hF⟩ := hv
  have hx := B.exec
  have hb := B.bytes
  have hr := B.returns
  have hts := atoms_spec (ws := wbX4_add) B.pre
  have hta : ∀ w ∈ wsALL, w.before _ s = true := fun w h => hts w (List.mem_cons_of_mem _ h)
  have hown : s.vm.findClass RX4 = some m.cls := findClass_of_methodNamed B.named
  have hlocks := B.notSynchronized
  subst hsz
  have hD := hD0.self (sz := s.heap.size)
  generalize hAe : va_A [(h0, .inr (11, [.ref h1, .int x1])), (h1, .inl (cc0, 60, .inl f0))] s.heap.size = A at hD hF ⊢
  have hA : ∀ q : Nat, s.heap.size ≤ q → A q := fun q h => by rw [← hAe]; exact Or.inr h
  have hS : va_S A s.heap s.heap [] := va_S.rf
  have hP : va_P (dC, dI) vwCl [(h0, .inr (11, [.ref h1, .int x1])), (h1, .inl (cc0, 60, .inl f0))] s.heap := hP
  have hl := lv_entry ([.ref h0, .int x0]) (n := 2) (Nat.le_of_ble_eq_true rfl)
  rw [lg_entry_eq]
  generalize (lg_sl ([.ref h0, .int x0]) ++ List.replicate (2 - (lg_sl ([.ref h0, .int x0])).length) Slot.unset).toArray = ls at hl ⊢
  have hl : lv_has ls 2 [(0, .ref h0), (1, .int x0)] := hl
  refine lv_aload_n hx hb dX4_add_0 rfl (lv_at hl 0 rfl) ?_
  refine va_get (D := (dC, dI)) (ci := 11) (v := .int x1) (C := RX4) (T := TX4) (N := 2) hx hb hta naX4 hown hK hP 0 rfl rfl 1 (by decide) (hta _ wm14) (fun _ h9 => h9) rfl dX4_add_1 ?_
  refine lv_if_lt (tgt := 39) hx hb dX4_add_4 (by decide) (fun c1 => absurd c1 (fun z => absurd (show x1.toInt < (0 : Int) from Int32.lt_iff_toInt_lt.mp z) (by omega))) (fun c1 => ?_)
  refine lv_aload_n hx hb dX4_add_7 rfl (lv_at hl 0 rfl) ?_
  refine va_get (D := (dC, dI)) (ci := 11) (v := .int x1) (C := RX4) (T := TX4) (N := 2) hx hb hta naX4 hown hK hP 0 rfl rfl 1 (by decide) (hta _ wm14) (fun _ h9 => h9) rfl dX4_add_8 ?_
  refine lv_aload_n hx hb dX4_add_11 rfl (lv_at hl 0 rfl) ?_
  refine va_get (D := (dC, dI)) (ci := 11) (v := .ref h1) (C := RX4) (T := TX4) (N := 2) hx hb hta naX4 hown hK hP 0 rfl rfl 0 (by decide) (hta _ wm16) (fun _ h9 => h9) rfl dX4_add_12 ?_
  refine va_alen (v := 60) hx hb hK hP 1 0 rfl rfl (show Int32.ofNat 60 = 60 by decide) dX4_add_15 ?_
  refine lv_icmp_ge (tgt := 39) hx hb dX4_add_16 (by decide) (fun c2 => absurd c2 (fun z => absurd (show (60 : Int) ≤ x1.toInt from Int32.le_iff_toInt_le.mp z) (by omega))) (fun c2 => ?_)
  refine lv_aload_n hx hb dX4_add_19 rfl (lv_at hl 0 rfl) ?_
  refine va_get (D := (dC, dI)) (ci := 11) (v := .ref h1) (C := RX4) (T := TX4) (N := 2) hx hb hta naX4 hown hK hP 0 rfl rfl 0 (by decide) (hta _ wm16) (fun _ h9 => h9) rfl dX4_add_20 ?_
  refine lv_aload_n hx hb dX4_add_23 rfl (lv_at hl 0 rfl) ?_
  refine va_get (D := (dC, dI)) (ci := 11) (v := .int x1) (C := RX4) (T := TX4) (N := 2) hx hb hta naX4 hown hK hP 0 rfl rfl 1 (by decide) (hta _ wm14) (fun _ h9 => h9) rfl dX4_add_24 ?_
  refine lv_iload_n hx hb dX4_add_27 rfl (lv_at hl 1 rfl) ?_
  refine va_iast hx hb hK hP hD hS 1 0 rfl rfl (vp_in_iff.mpr ⟨show (0 : Int) ≤ x1.toInt by omega, show x1.toInt < ((60 : Nat) : Int) by omega⟩) dX4_add_28 (fun H locs hP hD hS => ?_)
  have hP : va_P (dC, dI) vwCl [(h0, .inr (11, [.ref h1, .int x1])), (h1, .inl (cc0, 60, .inl (upd (f0) x1.toNatClampNeg x0)))] H := hP
  have hD : va_D A [(h0, .inr (11, [.ref h1, .int x1])), (h1, .inl (cc0, 60, .inl (upd (f0) x1.toNatClampNeg x0)))] := hD
  refine lv_aload_n hx hb dX4_add_29 rfl (lv_at hl 0 rfl) ?_
  refine lv_dup hx hb dX4_add_30 rfl ?_
  refine va_get (D := (dC, dI)) (ci := 11) (v := .int x1) (C := RX4) (T := TX4) (N := 2) hx hb hta naX4 hown hK hP 0 rfl rfl 1 (by decide) (hta _ wm14) (fun _ h9 => h9) rfl dX4_add_31 ?_
  refine lv_iconst (v := 1) hx hb dX4_add_34 (by decide) ?_
  refine lv_iadd hx hb dX4_add_35 ?_
  have r3 : (x1 + 1).toInt = x1.toInt + (1 : Int) := fb_addI (show (-2147483648 : Int) ≤ x1.toInt + (1 : Int) by omega) (show x1.toInt + (1 : Int) < (2147483648 : Int) by omega)
  refine va_put (D := (dC, dI)) (ci := 11) (v := .int (x1 + 1)) (ty := .int) (C := RX4) (T := TX4) (N := 2) hx hb hta naX4 tyX4 tyX4_ok nmX4 hown hK hP hD hS 0 rfl rfl 1 (by decide) (hta _ wm14) (fun _ h9 => h9) rfl (by decide +kernel) rfl rfl (Nat.le_of_ble_eq_true rfl) dX4_add_36 (fun H locs hP hD hS => ?_)
  have hP : va_P (dC, dI) vwCl [(h0, .inr (11, [.ref h1, .int (x1 + 1)])), (h1, .inl (cc0, 60, .inl (upd (f0) x1.toNatClampNeg x0)))] H := hP
  have hD : va_D A [(h0, .inr (11, [.ref h1, .int (x1 + 1)])), (h1, .inl (cc0, 60, .inl (upd (f0) x1.toNatClampNeg x0)))] := hD
  have hP9 := hP.sub (ws' := [(h0, .inr (11, [.ref h1, .int (x1 + 1)])), (h1, .inl (cc0, 60, .inl (upd (f0) x1.toNatClampNeg x0)))]) [0, 1] rfl
  have hD9 := hD.sub (ws' := [(h0, .inr (11, [.ref h1, .int (x1 + 1)])), (h1, .inl (cc0, 60, .inl (upd (f0) x1.toNatClampNeg x0)))]) [0, 1] (by decide) rfl
  have hK9 := hK.sub (tys' := [(cc0, .int)]) [0] rfl
  refine W.widen (k := 0) (n := 0) (Nat.le_of_ble_eq_true rfl) (Nat.le_of_ble_eq_true rfl) ?_
  exact W.vret hx hb hr (fun t ht hW => ⟨⟨(), rfl, trivial, by rw [ht]; exact hP9, va_K.moved hW.alike hK9, hD9⟩, hS.F ht⟩) hS.2.2 dX4_add_39
set_option maxHeartbeats 4000000 in
set_option maxRecDepth 100000 in
theorem kX4_add_21 (l : Launch) (dC : Nat → ClassId) (dI : Nat → Nat → Nat) (g : Nat → Nat) (sz : Nat) (h0 : Nat) (x0 : Int32) (h1 : Nat) (cc0 : ClassId) (f0 : Nat → Int32) (ex0 : (1 : Int) ≤ x0.toInt ∧ x0.toInt ≤ (4 : Int)) : Met l yX4_add wbX4_add ({ frames := 0, cells := 0, slots := 0, locals := 0 }) (va_Pc [.ref h0, .int x0] (fun U => U.heap.size = sz ∧ va_P (dC, dI) vwCl [(h0, .inr (11, [.ref h1, .int 0])), (h1, .inl (cc0, 4960, .inl f0))] U.heap ∧ va_K (dC, dI) vwCl [(cc0, .int)] U ∧ va_D (fun _ => True) [(h0, .inr (11, [.ref h1, .int 0])), (h1, .inl (cc0, 4960, .inl f0))] ∧ ns_F g (va_A [(h0, .inr (11, [.ref h1, .int 0])), (h1, .inl (cc0, 4960, .inl f0))] sz) U U.heap)) (va_Qv (fun _ : Unit => True) (fun _ t => va_P (dC, dI) vwCl [(h0, .inr (11, [.ref h1, .int 1])), (h1, .inl (cc0, 4960, .inl (upd (f0) 0 x0)))] t.heap ∧ va_K (dC, dI) vwCl [(cc0, .int)] t ∧ va_D (va_A [(h0, .inr (11, [.ref h1, .int 0])), (h1, .inl (cc0, 4960, .inl f0))] sz) [(h0, .inr (11, [.ref h1, .int 1])), (h1, .inl (cc0, 4960, .inl (upd (f0) 0 x0)))]) (va_A [(h0, .inr (11, [.ref h1, .int 0])), (h1, .inl (cc0, 4960, .inl f0))] sz)) 0 0 (va_A [(h0, .inr (11, [.ref h1, .int 0])), (h1, .inl (cc0, 4960, .inl f0))] sz) := by
  refine Met.ofW (cc := cX4_add) (maxL := 2) (ret := none) (by decide) rfl ?_
  intro p e s m args below meth c s₁ B hml hv
  obtain ⟨rfl, hsz, hP, hK, hD0, hF⟩ := hv
  have hx := B.exec
  have hb := B.bytes
  have hr := B.returns
  have hts := atoms_spec (ws := wbX4_add) B.pre
  have hta : ∀ w ∈ wsALL, w.before _ s = true := fun w h => hts w (List.mem_cons_of_mem _ h)
  have hown : s.vm.findClass RX4 = some m.cls := findClass_of_methodNamed B.named
  have hlocks := B.notSynchronized
  subst hsz
  have hD := hD0.self (sz := s.heap.size)
  generalize hAe : va_A [(h0, .inr (11, [.ref h1, .int 0])), (h1, .inl (cc0, 4960, .inl f0))] s.heap.size = A at hD hF ⊢
  have hA : ∀ q : Nat, s.heap.size ≤ q → A q := fun q h => by rw [← hAe]; exact Or.inr h
  have hS : va_S A s.heap s.heap [] := va_S.rf
  have hP : va_P (dC, dI) vwCl [(h0, .inr (11, [.ref h1, .int 0])), (h1, .inl (cc0, 4960, .inl f0))] s.heap := hP
  have hl := lv_entry ([.ref h0, .int x0]) (n := 2) (Nat.le_of_ble_eq_true rfl)
  rw [lg_entry_eq]
  generalize (lg_sl ([.ref h0, .int x0]) ++ List.replicate (2 - (lg_sl ([.ref h0, .int x0])).length) Slot.unset).toArray = ls at hl ⊢
  have hl : lv_has ls 2 [(0, .ref h0), (1, .int x0)] := hl
  refine lv_aload_n hx hb dX4_add_0 rfl (lv_at hl 0 rfl) ?_
  refine va_get (D := (dC, dI)) (ci := 11) (v := .int 0) (C := RX4) (T := TX4) (N := 2) hx hb hta naX4 hown hK hP 0 rfl rfl 1 (by decide) (hta _ wm14) (fun _ h9 => h9) rfl dX4_add_1 ?_
  refine lv_if_lt (tgt := 39) hx hb dX4_add_4 (by decide) (fun c1 => absurd c1 (by decide)) (fun c1 => ?_)
  refine lv_aload_n hx hb dX4_add_7 rfl (lv_at hl 0 rfl) ?_
  refine va_get (D := (dC, dI)) (ci := 11) (v := .int 0) (C := RX4) (T := TX4) (N := 2) hx hb hta naX4 hown hK hP 0 rfl rfl 1 (by decide) (hta _ wm14) (fun _ h9 => h9) rfl dX4_add_8 ?_
  refine lv_aload_n hx hb dX4_add_11 rfl (lv_at hl 0 rfl) ?_
  refine va_get (D := (dC, dI)) (ci := 11) (v := .ref h1) (C := RX4) (T := TX4) (N := 2) hx hb hta naX4 hown hK hP 0 rfl rfl 0 (by decide) (hta _ wm16) (fun _ h9 => h9) rfl dX4_add_12 ?_
  refine va_alen (v := 4960) hx hb hK hP 1 0 rfl rfl (show Int32.ofNat 4960 = 4960 by decide) dX4_add_15 ?_
  refine lv_icmp_ge (tgt := 39) hx hb dX4_add_16 (by decide) (fun c2 => absurd c2 (by decide)) (fun c2 => ?_)
  refine lv_aload_n hx hb dX4_add_19 rfl (lv_at hl 0 rfl) ?_
  refine va_get (D := (dC, dI)) (ci := 11) (v := .ref h1) (C := RX4) (T := TX4) (N := 2) hx hb hta naX4 hown hK hP 0 rfl rfl 0 (by decide) (hta _ wm16) (fun _ h9 => h9) rfl dX4_add_20 ?_
  refine lv_aload_n hx hb dX4_add_23 rfl (lv_at hl 0 rfl) ?_
  refine va_get (D := (dC, dI)) (ci := 11) (v := .int 0) (C := RX4) (T := TX4) (N := 2) hx hb hta naX4 hown hK hP 0 rfl rfl 1 (by decide) (hta _ wm14) (fun _ h9 => h9) rfl dX4_add_24 ?_
  refine lv_iload_n hx hb dX4_add_27 rfl (lv_at hl 1 rfl) ?_
  refine va_iast hx hb hK hP hD hS 1 0 rfl rfl (vp_in_nI (n := 0) (by decide) (by decide)) dX4_add_28 (fun H locs hP hD hS => ?_)
  have hP : va_P (dC, dI) vwCl [(h0, .inr (11, [.ref h1, .int 0])), (h1, .inl (cc0, 4960, .inl (upd (f0) 0 x0)))] H := hP
  have hD : va_D A [(h0, .inr (11, [.ref h1, .int 0])), (h1, .inl (cc0, 4960, .inl (upd (f0) 0 x0)))] := hD
  refine lv_aload_n hx hb dX4_add_29 rfl (lv_at hl 0 rfl) ?_
  refine lv_dup hx hb dX4_add_30 rfl ?_
  refine va_get (D := (dC, dI)) (ci := 11) (v := .int 0) (C := RX4) (T := TX4) (N := 2) hx hb hta naX4 hown hK hP 0 rfl rfl 1 (by decide) (hta _ wm14) (fun _ h9 => h9) rfl dX4_add_31 ?_
  refine lv_iconst (v := 1) hx hb dX4_add_34 (by decide) ?_
  refine lv_iadd hx hb dX4_add_35 ?_
  refine lv_topi (fun y3 ey3 => ?_)
  obtain rfl : y3 = 1 := ey3.trans (by decide)
  refine va_put (D := (dC, dI)) (ci := 11) (v := .int 1) (ty := .int) (C := RX4) (T := TX4) (N := 2) hx hb hta naX4 tyX4 tyX4_ok nmX4 hown hK hP hD hS 0 rfl rfl 1 (by decide) (hta _ wm14) (fun _ h9 => h9) rfl (by decide +kernel) rfl rfl (Nat.le_of_ble_eq_true rfl) dX4_add_36 (fun H locs hP hD hS => ?_)
  have hP : va_P (dC, dI) vwCl [(h0, .inr (11, [.ref h1, .int 1])), (h1, .inl (cc0, 4960, .inl (upd (f0) 0 x0)))] H := hP
  have hD : va_D A [(h0, .inr (11, [.ref h1, .int 1])), (h1, .inl (cc0, 4960, .inl (upd (f0) 0 x0)))] := hD
  have hP9 := hP.sub (ws' := [(h0, .inr (11, [.ref h1, .int 1])), (h1, .inl (cc0, 4960, .inl (upd (f0) 0 x0)))]) [0, 1] rfl
  have hD9 := hD.sub (ws' := [(h0, .inr (11, [.ref h1, .int 1])), (h1, .inl (cc0, 4960, .inl (upd (f0) 0 x0)))]) [0, 1] (by decide) rfl
  have hK9 := hK.sub (tys' := [(cc0, .int)]) [0] rfl
  refine W.widen (k := 0) (n := 0) (Nat.le_of_ble_eq_true rfl) (Nat.le_of_ble_eq_true rfl) ?_
  exact W.vret hx hb hr (fun t ht hW => ⟨⟨(), rfl, trivial, by rw [ht]; exact hP9, va_K.moved hW.alike hK9, hD9⟩, hS.F ht⟩) hS.2.2 dX4_add_39
set_option maxHeartbeats 4000000 in
set_option maxRecDepth 100000 in
theorem kX4_add_34 (l : Launch) (dC : Nat → ClassId) (dI : Nat → Nat → Nat) (g : Nat → Nat) (sz : Nat) (h0 : Nat) (x0 : Int32) (h1 : Nat) (cc0 : ClassId) (f0 : Nat → Int32) (ex0 : (-1 : Int) ≤ x0.toInt ∧ x0.toInt ≤ (21 : Int)) : Met l yX4_add wbX4_add ({ frames := 0, cells := 0, slots := 0, locals := 0 }) (va_Pc [.ref h0, .int x0] (fun U => U.heap.size = sz ∧ va_P (dC, dI) vwCl [(h0, .inr (11, [.ref h1, .int 3])), (h1, .inl (cc0, 6, .inl f0))] U.heap ∧ va_K (dC, dI) vwCl [(cc0, .int)] U ∧ va_D (fun _ => True) [(h0, .inr (11, [.ref h1, .int 3])), (h1, .inl (cc0, 6, .inl f0))] ∧ ns_F g (va_A [(h0, .inr (11, [.ref h1, .int 3])), (h1, .inl (cc0, 6, .inl f0))] sz) U U.heap)) (va_Qv (fun _ : Unit => True) (fun _ t => va_P (dC, dI) vwCl [(h0, .inr (11, [.ref h1, .int 4])), (h1, .inl (cc0, 6, .inl (upd (f0) 3 x0)))] t.heap ∧ va_K (dC, dI) vwCl [(cc0, .int)] t ∧ va_D (va_A [(h0, .inr (11, [.ref h1, .int 3])), (h1, .inl (cc0, 6, .inl f0))] sz) [(h0, .inr (11, [.ref h1, .int 4])), (h1, .inl (cc0, 6, .inl (upd (f0) 3 x0)))]) (va_A [(h0, .inr (11, [.ref h1, .int 3])), (h1, .inl (cc0, 6, .inl f0))] sz)) 0 0 (va_A [(h0, .inr (11, [.ref h1, .int 3])), (h1, .inl (cc0, 6, .inl f0))] sz) := by
  refine Met.ofW (cc := cX4_add) (maxL := 2) (ret := none) (by decide) rfl ?_
  intro p e s m args below meth c s₁ B hml hv
  obtain ⟨rfl, hsz, hP, hK, hD0, hF⟩ := hv
  have hx := B.exec
  have hb := B.bytes
  have hr := B.returns
  have hts := atoms_spec (ws := wbX4_add) B.pre
  have hta : ∀ w ∈ wsALL, w.before _ s = true := fun w h => hts w (List.mem_cons_of_mem _ h)
  have hown : s.vm.findClass RX4 = some m.cls := findClass_of_methodNamed B.named
  have hlocks := B.notSynchronized
  subst hsz
  have hD := hD0.self (sz := s.heap.size)
  generalize hAe : va_A [(h0, .inr (11, [.ref h1, .int 3])), (h1, .inl (cc0, 6, .inl f0))] s.heap.size = A at hD hF ⊢
  have hA : ∀ q : Nat, s.heap.size ≤ q → A q := fun q h => by rw [← hAe]; exact Or.inr h
  have hS : va_S A s.heap s.heap [] := va_S.rf
  have hP : va_P (dC, dI) vwCl [(h0, .inr (11, [.ref h1, .int 3])), (h1, .inl (cc0, 6, .inl f0))] s.heap := hP
  have hl := lv_entry ([.ref h0, .int x0]) (n := 2) (Nat.le_of_ble_eq_true rfl)
  rw [lg_entry_eq]
  generalize (lg_sl ([.ref h0, .int x0]) ++ List.replicate (2 - (lg_sl ([.ref h0, .int x0])).length) Slot.unset).toArray = ls at hl ⊢
  have hl : lv_has ls 2 [(0, .ref h0), (1, .int x0)] := hl
  refine lv_aload_n hx hb dX4_add_0 rfl (lv_at hl 0 rfl) ?_
  refine va_get (D := (dC, dI)) (ci := 11) (v := .int 3) (C := RX4) (T := TX4) (N := 2) hx hb hta naX4 hown hK hP 0 rfl rfl 1 (by decide) (hta _ wm14) (fun _ h9 => h9) rfl dX4_add_1 ?_
  refine lv_if_lt (tgt := 39) hx hb dX4_add_4 (by decide) (fun c1 => absurd c1 (by decide)) (fun c1 => ?_)
  refine lv_aload_n hx hb dX4_add_7 rfl (lv_at hl 0 rfl) ?_
  refine va_get (D := (dC, dI)) (ci := 11) (v := .int 3) (C := RX4) (T := TX4) (N := 2) hx hb hta naX4 hown hK hP 0 rfl rfl 1 (by decide) (hta _ wm14) (fun _ h9 => h9) rfl dX4_add_8 ?_
  refine lv_aload_n hx hb dX4_add_11 rfl (lv_at hl 0 rfl) ?_
  refine va_get (D := (dC, dI)) (ci := 11) (v := .ref h1) (C := RX4) (T := TX4) (N := 2) hx hb hta naX4 hown hK hP 0 rfl rfl 0 (by decide) (hta _ wm16) (fun _ h9 => h9) rfl dX4_add_12 ?_
  refine va_alen (v := 6) hx hb hK hP 1 0 rfl rfl (show Int32.ofNat 6 = 6 by decide) dX4_add_15 ?_
  refine lv_icmp_ge (tgt := 39) hx hb dX4_add_16 (by decide) (fun c2 => absurd c2 (by decide)) (fun c2 => ?_)
  refine lv_aload_n hx hb dX4_add_19 rfl (lv_at hl 0 rfl) ?_
  refine va_get (D := (dC, dI)) (ci := 11) (v := .ref h1) (C := RX4) (T := TX4) (N := 2) hx hb hta naX4 hown hK hP 0 rfl rfl 0 (by decide) (hta _ wm16) (fun _ h9 => h9) rfl dX4_add_20 ?_
  refine lv_aload_n hx hb dX4_add_23 rfl (lv_at hl 0 rfl) ?_
  refine va_get (D := (dC, dI)) (ci := 11) (v := .int 3) (C := RX4) (T := TX4) (N := 2) hx hb hta naX4 hown hK hP 0 rfl rfl 1 (by decide) (hta _ wm14) (fun _ h9 => h9) rfl dX4_add_24 ?_
  refine lv_iload_n hx hb dX4_add_27 rfl (lv_at hl 1 rfl) ?_
  refine va_iast hx hb hK hP hD hS 1 0 rfl rfl (vp_in_nI (n := 3) (by decide) (by decide)) dX4_add_28 (fun H locs hP hD hS => ?_)
  have hP : va_P (dC, dI) vwCl [(h0, .inr (11, [.ref h1, .int 3])), (h1, .inl (cc0, 6, .inl (upd (f0) 3 x0)))] H := hP
  have hD : va_D A [(h0, .inr (11, [.ref h1, .int 3])), (h1, .inl (cc0, 6, .inl (upd (f0) 3 x0)))] := hD
  refine lv_aload_n hx hb dX4_add_29 rfl (lv_at hl 0 rfl) ?_
  refine lv_dup hx hb dX4_add_30 rfl ?_
  refine va_get (D := (dC, dI)) (ci := 11) (v := .int 3) (C := RX4) (T := TX4) (N := 2) hx hb hta naX4 hown hK hP 0 rfl rfl 1 (by decide) (hta _ wm14) (fun _ h9 => h9) rfl dX4_add_31 ?_
  refine lv_iconst (v := 1) hx hb dX4_add_34 (by decide) ?_
  refine lv_iadd hx hb dX4_add_35 ?_
  refine lv_topi (fun y3 ey3 => ?_)
  obtain rfl : y3 = 4 := ey3.trans (by decide)
  refine va_put (D := (dC, dI)) (ci := 11) (v := .int 4) (ty := .int) (C := RX4) (T := TX4) (N := 2) hx hb hta naX4 tyX4 tyX4_ok nmX4 hown hK hP hD hS 0 rfl rfl 1 (by decide) (hta _ wm14) (fun _ h9 => h9) rfl (by decide +kernel) rfl rfl (Nat.le_of_ble_eq_true rfl) dX4_add_36 (fun H locs hP hD hS => ?_)
  have hP : va_P (dC, dI) vwCl [(h0, .inr (11, [.ref h1, .int 4])), (h1, .inl (cc0, 6, .inl (upd (f0) 3 x0)))] H := hP
  have hD : va_D A [(h0, .inr (11, [.ref h1, .int 4])), (h1, .inl (cc0, 6, .inl (upd (f0) 3 x0)))] := hD
  have hP9 := hP.sub (ws' := [(h0, .inr (11, [.ref h1, .int 4])), (h1, .inl (cc0, 6, .inl (upd (f0) 3 x0)))]) [0, 1] rfl
  have hD9 := hD.sub (ws' := [(h0, .inr (11, [.ref h1, .int 4])), (h1, .inl (cc0, 6, .inl (upd (f0) 3 x0)))]) [0, 1] (by decide) rfl
  have hK9 := hK.sub (tys' := [(cc0, .int)]) [0] rfl
  refine W.widen (k := 0) (n := 0) (Nat.le_of_ble_eq_true rfl) (Nat.le_of_ble_eq_true rfl) ?_
  exact W.vret hx hb hr (fun t ht hW => ⟨⟨(), rfl, trivial, by rw [ht]; exact hP9, va_K.moved hW.alike hK9, hD9⟩, hS.F ht⟩) hS.2.2 dX4_add_39
set_option maxHeartbeats 4000000 in
set_option maxRecDepth 100000 in
theorem kX4_add_24 (l : Launch) (dC : Nat → ClassId) (dI : Nat → Nat → Nat) (g : Nat → Nat) (sz : Nat) (h0 : Nat) (x0 : Int32) (h1 : Nat) (cc0 : ClassId) (f0 : Nat → Int32) : Met l yX4_add wbX4_add ({ frames := 0, cells := 0, slots := 0, locals := 0 }) (va_Pc [.ref h0, .int x0] (fun U => U.heap.size = sz ∧ va_P (dC, dI) vwCl [(h0, .inr (11, [.ref h1, .int 2])), (h1, .inl (cc0, 6, .inl f0))] U.heap ∧ va_K (dC, dI) vwCl [(cc0, .int)] U ∧ va_D (fun _ => True) [(h0, .inr (11, [.ref h1, .int 2])), (h1, .inl (cc0, 6, .inl f0))] ∧ ns_F g (va_A [(h0, .inr (11, [.ref h1, .int 2])), (h1, .inl (cc0, 6, .inl f0))] sz) U U.heap)) (va_Qv (fun _ : Unit => True) (fun _ t => va_P (dC, dI) vwCl [(h0, .inr (11, [.ref h1, .int 3])), (h1, .inl (cc0, 6, .inl (upd (f0) 2 x0)))] t.heap ∧ va_K (dC, dI) vwCl [(cc0, .int)] t ∧ va_D (va_A [(h0, .inr (11, [.ref h1, .int 2])), (h1, .inl (cc0, 6, .inl f0))] sz) [(h0, .inr (11, [.ref h1, .int 3])), (h1, .inl (cc0, 6, .inl (upd (f0) 2 x0)))]) (va_A [(h0, .inr (11, [.ref h1, .int 2])), (h1, .inl (cc0, 6, .inl f0))] sz)) 0 0 (va_A [(h0, .inr (11, [.ref h1, .int 2])), (h1, .inl (cc0, 6, .inl f0))] sz) := by
  refine Met.ofW (cc := cX4_add) (maxL := 2) (ret := none) (by decide) rfl ?_
  intro p e s m args below meth c s₁ B hml hv
  obtain ⟨rfl, hsz, hP, hK, hD0, hF⟩ := hv
  have hx := B.exec
  have hb := B.bytes
  have hr := B.returns
  have hts := atoms_spec (ws := wbX4_add) B.pre
  have hta : ∀ w ∈ wsALL, w.before _ s = true := fun w h => hts w (List.mem_cons_of_mem _ h)
  have hown : s.vm.findClass RX4 = some m.cls := findClass_of_methodNamed B.named
  have hlocks := B.notSynchronized
  subst hsz
  have hD := hD0.self (sz := s.heap.size)
  generalize hAe : va_A [(h0, .inr (11, [.ref h1, .int 2])), (h1, .inl (cc0, 6, .inl f0))] s.heap.size = A at hD hF ⊢
  have hA : ∀ q : Nat, s.heap.size ≤ q → A q := fun q h => by rw [← hAe]; exact Or.inr h
  have hS : va_S A s.heap s.heap [] := va_S.rf
  have hP : va_P (dC, dI) vwCl [(h0, .inr (11, [.ref h1, .int 2])), (h1, .inl (cc0, 6, .inl f0))] s.heap := hP
  have hl := lv_entry ([.ref h0, .int x0]) (n := 2) (Nat.le_of_ble_eq_true rfl)
  rw [lg_entry_eq]
  generalize (lg_sl ([.ref h0, .int x0]) ++ List.replicate (2 - (lg_sl ([.ref h0, .int x0])).length) Slot.unset).toArray = ls at hl ⊢
  have hl : lv_has ls 2 [(0, .ref h0), (1, .int x0)] := hl
  refine lv_aload_n hx hb dX4_add_0 rfl (lv_at hl 0 rfl) ?_
  refine va_get (D := (dC, dI)) (ci := 11) (v := .int 2) (C := RX4) (T := TX4) (N := 2) hx hb hta naX4 hown hK hP 0 rfl rfl 1 (by decide) (hta _ wm14) (fun _ h9 => h9) rfl dX4_add_1 ?_
  refine lv_if_lt (tgt := 39) hx hb dX4_add_4 (by decide) (fun c1 => absurd c1 (by decide)) (fun c1 => ?_)
  refine lv_aload_n hx hb dX4_add_7 rfl (lv_at hl 0 rfl) ?_
  refine va_get (D := (dC, dI)) (ci := 11) (v := .int 2) (C := RX4) (T := TX4) (N := 2) hx hb hta naX4 hown hK hP 0 rfl rfl 1 (by decide) (hta _ wm14) (fun _ h9 => h9) rfl dX4_add_8 ?_
  refine lv_aload_n hx hb dX4_add_11 rfl (lv_at hl 0 rfl) ?_
  refine va_get (D := (dC, dI)) (ci := 11) (v := .ref h1) (C := RX4) (T := TX4) (N := 2) hx hb hta naX4 hown hK hP 0 rfl rfl 0 (by decide) (hta _ wm16) (fun _ h9 => h9) rfl dX4_add_12 ?_
  refine va_alen (v := 6) hx hb hK hP 1 0 rfl rfl (show Int32.ofNat 6 = 6 by decide) dX4_add_15 ?_
  refine lv_icmp_ge (tgt := 39) hx hb dX4_add_16 (by decide) (fun c2 => absurd c2 (by decide)) (fun c2 => ?_)
  refine lv_aload_n hx hb dX4_add_19 rfl (lv_at hl 0 rfl) ?_
  refine va_get (D := (dC, dI)) (ci := 11) (v := .ref h1) (C := RX4) (T := TX4) (N := 2) hx hb hta naX4 hown hK hP 0 rfl rfl 0 (by decide) (hta _ wm16) (fun _ h9 => h9) rfl dX4_add_20 ?_
  refine lv_aload_n hx hb dX4_add_23 rfl (lv_at hl 0 rfl) ?_
  refine va_get (D := (dC, dI)) (ci := 11) (v := .int 2) (C := RX4) (T := TX4) (N := 2) hx hb hta naX4 hown hK hP 0 rfl rfl 1 (by decide) (hta _ wm14) (fun _ h9 => h9) rfl dX4_add_24 ?_
  refine lv_iload_n hx hb dX4_add_27 rfl (lv_at hl 1 rfl) ?_
  refine va_iast hx hb hK hP hD hS 1 0 rfl rfl (vp_in_nI (n := 2) (by decide) (by decide)) dX4_add_28 (fun H locs hP hD hS => ?_)
  have hP : va_P (dC, dI) vwCl [(h0, .inr (11, [.ref h1, .int 2])), (h1, .inl (cc0, 6, .inl (upd (f0) 2 x0)))] H := hP
  have hD : va_D A [(h0, .inr (11, [.ref h1, .int 2])), (h1, .inl (cc0, 6, .inl (upd (f0) 2 x0)))] := hD
  refine lv_aload_n hx hb dX4_add_29 rfl (lv_at hl 0 rfl) ?_
  refine lv_dup hx hb dX4_add_30 rfl ?_
  refine va_get (D := (dC, dI)) (ci := 11) (v := .int 2) (C := RX4) (T := TX4) (N := 2) hx hb hta naX4 hown hK hP 0 rfl rfl 1 (by decide) (hta _ wm14) (fun _ h9 => h9) rfl dX4_add_31 ?_
  refine lv_iconst (v := 1) hx hb dX4_add_34 (by decide) ?_
  refine lv_iadd hx hb dX4_add_35 ?_
  refine lv_topi (fun y3 ey3 => ?_)
  obtain rfl : y3 = 3 := ey3.trans (by decide)
  refine va_put (D := (dC, dI)) (ci := 11) (v := .int 3) (ty := .int) (C := RX4) (T := TX4) (N := 2) hx hb hta naX4 tyX4 tyX4_ok nmX4 hown hK hP hD hS 0 rfl rfl 1 (by decide) (hta _ wm14) (fun _ h9 => h9) rfl (by decide +kernel) rfl rfl (Nat.le_of_ble_eq_true rfl) dX4_add_36 (fun H locs hP hD hS => ?_)
  have hP : va_P (dC, dI) vwCl [(h0, .inr (11, [.ref h1, .int 3])), (h1, .inl (cc0, 6, .inl (upd (f0) 2 x0)))] H := hP
  have hD : va_D A [(h0, .inr (11, [.ref h1, .int 3])), (h1, .inl (cc0, 6, .inl (upd (f0) 2 x0)))] := hD
  have hP9 := hP.sub (ws' := [(h0, .inr (11, [.ref h1, .int 3])), (h1, .inl (cc0, 6, .inl (upd (f0) 2 x0)))]) [0, 1] rfl
  have hD9 := hD.sub (ws' := [(h0, .inr (11, [.ref h1, .int 3])), (h1, .inl (cc0, 6, .inl (upd (f0) 2 x0)))]) [0, 1] (by decide) rfl
  have hK9 := hK.sub (tys' := [(cc0, .int)]) [0] rfl
  refine W.widen (k := 0) (n := 0) (Nat.le_of_ble_eq_true rfl) (Nat.le_of_ble_eq_true rfl) ?_
  exact W.vret hx hb hr (fun t ht hW => ⟨⟨(), rfl, trivial, by rw [ht]; exact hP9, va_K.moved hW.alike hK9, hD9⟩, hS.F ht⟩) hS.2.2 dX4_add_39
set_option maxHeartbeats 4000000 in
set_option maxRecDepth 100000 in
theorem kX4_get_29 (l : Launch) (dC : Nat → ClassId) (dI : Nat → Nat → Nat) (g : Nat → Nat) (sz : Nat) (h0 : Nat) (h1 : Nat) (cc0 : ClassId) (x0 : Int32) (x1 : Int32) (x2 : Int32) (x3 : Int32) (x4 : Int32) (x5 : Int32) (ex0 : (-1 : Int) ≤ x0.toInt ∧ x0.toInt ≤ (21 : Int)) (ex1 : (-1 : Int) ≤ x1.toInt ∧ x1.toInt ≤ (21 : Int)) (ex2 : (-1 : Int) ≤ x2.toInt ∧ x2.toInt ≤ (21 : Int)) (ex3 : (-1 : Int) ≤ x3.toInt ∧ x3.toInt ≤ (21 : Int)) (ex4 : (-1 : Int) ≤ x4.toInt ∧ x4.toInt ≤ (21 : Int)) (ex5 : (22 : Int) ≤ x5.toInt ∧ x5.toInt ≤ (2147483647 : Int)) : Met l yX4_get wbX4_get ({ frames := 0, cells := 0, slots := 0, locals := 0 }) (va_Pc [.ref h0, .int 1] (fun U => U.heap.size = sz ∧ va_P (dC, dI) vwCl [(h0, .inr (11, [.ref h1, .int 6])), (h1, .inl (cc0, 6, .inl (upd (upd (upd (upd (upd (upd (fun _ => 0) 0 x0) 1 x1) 2 x2) 3 x3) 4 x4) 5 x5)))] U.heap ∧ va_K (dC, dI) vwCl [(cc0, .int)] U ∧ va_D (fun _ => True) [(h0, .inr (11, [.ref h1, .int 6])), (h1, .inl (cc0, 6, .inl (upd (upd (upd (upd (upd (upd (fun _ => 0) 0 x0) 1 x1) 2 x2) 3 x3) 4 x4) 5 x5)))] ∧ ns_F g (va_A [(h0, .inr (11, [.ref h1, .int 6])), (h1, .inl (cc0, 6, .inl (upd (upd (upd (upd (upd (upd (fun _ => 0) 0 x0) 1 x1) 2 x2) 3 x3) 4 x4) 5 x5)))] sz) U U.heap)) (va_Qi (fun (r : Int32) (_ : Unit) => r = x1) (fun _ t => va_P (dC, dI) vwCl [(h0, .inr (11, [.ref h1, .int 6])), (h1, .inl (cc0, 6, .inl (upd (upd (upd (upd (upd (upd (fun _ => 0) 0 x0) 1 x1) 2 x2) 3 x3) 4 x4) 5 x5)))] t.heap ∧ va_K (dC, dI) vwCl [(cc0, .int)] t ∧ va_D (va_A [(h0, .inr (11, [.ref h1, .int 6])), (h1, .inl (cc0, 6, .inl (upd (upd (upd (upd (upd (upd (fun _ => 0) 0 x0) 1 x1) 2 x2) 3 x3) 4 x4) 5 x5)))] sz) [(h0, .inr (11, [.ref h1, .int 6])), (h1, .inl (cc0, 6, .inl (upd (upd (upd (upd (upd (upd (fun _ => 0) 0 x0) 1 x1) 2 x2) 3 x3) 4 x4) 5 x5)))]) (va_A [(h0, .inr (11, [.ref h1, .int 6])), (h1, .inl (cc0, 6, .inl (upd (upd (upd (upd (upd (upd (fun _ => 0) 0 x0) 1 x1) 2 x2) 3 x3) 4 x4) 5 x5)))] sz)) 0 0 (va_A [(h0, .inr (11, [.ref h1, .int 6])), (h1, .inl (cc0, 6, .inl (upd (upd (upd (upd (upd (upd (fun _ => 0) 0 x0) 1 x1) 2 x2) 3 x3) 4 x4) 5 x5)))] sz) := by
  refine Met.ofW (cc := cX4_get) (maxL := 2) (ret := (some .int)) (by decide) rfl ?_
  intro p e s m args below meth c s₁ B hml hv
  obtain ⟨rfl, hsz, hP, hK, hD0, hF⟩ := hv
  have hx := B.exec
  have hb := B.bytes
  have hr := B.returns
  have hts := atoms_spec (ws := wbX4_get) B.pre
  have hta : ∀ w ∈ wsALL, w.before _ s = true := fun w h => hts w (List.mem_cons_of_mem _ h)
  have hown : s.vm.findClass RX4 = some m.cls := findClass_of_methodNamed B.named
  have hlocks := B.notSynchronized
  subst hsz
  have hD := hD0.self (sz := s.heap.size)
  generalize hAe : va_A [(h0, .inr (11, [.ref h1, .int 6])), (h1, .inl (cc0, 6, .inl (upd (upd (upd (upd (upd (upd (fun _ => 0) 0 x0) 1 x1) 2 x2) 3 x3) 4 x4) 5 x5)))] s.heap.size = A at hD hF ⊢
  have hA : ∀ q : Nat, s.heap.size ≤ q → A q := fun q h => by rw [← hAe]; exact Or.inr h
  have hS : va_S A s.heap s.heap [] := va_S.rf
  have hP : va_P (dC, dI) vwCl [(h0, .inr (11, [.ref h1, .int 6])), (h1, .inl (cc0, 6, .inl (upd (upd (upd (upd (upd (upd (fun _ => 0) 0 x0) 1 x1) 2 x2) 3 x3) 4 x4) 5 x5)))] s.heap := hP
  have hl := lv_entry ([.ref h0, .int 1]) (n := 2) (Nat.le_of_ble_eq_true rfl)
  rw [lg_entry_eq]
  generalize (lg_sl ([.ref h0, .int 1]) ++ List.replicate (2 - (lg_sl ([.ref h0, .int 1])).length) Slot.unset).toArray = ls at hl ⊢
  have hl : lv_has ls 2 [(0, .ref h0), (1, .int 1)] := hl
  refine lv_iload_n hx hb dX4_get_0 rfl (lv_at hl 1 rfl) ?_
  refine lv_if_lt (tgt := 30) hx hb dX4_get_1 (by decide) (fun c1 => absurd c1 (by decide)) (fun c1 => ?_)
  refine lv_iload_n hx hb dX4_get_4 rfl (lv_at hl 1 rfl) ?_
  refine lv_aload_n hx hb dX4_get_5 rfl (lv_at hl 0 rfl) ?_
  refine va_get (D := (dC, dI)) (ci := 11) (v := .int 6) (C := RX4) (T := TX4) (N := 2) hx hb hta naX4 hown hK hP 0 rfl rfl 1 (by decide) (hta _ wm14) (fun _ h9 => h9) rfl dX4_get_6 ?_
  refine lv_icmp_ge (tgt := 30) hx hb dX4_get_9 (by decide) (fun c2 => absurd c2 (by decide)) (fun c2 => ?_)
  refine lv_iload_n hx hb dX4_get_12 rfl (lv_at hl 1 rfl) ?_
  refine lv_aload_n hx hb dX4_get_13 rfl (lv_at hl 0 rfl) ?_
  refine va_get (D := (dC, dI)) (ci := 11) (v := .ref h1) (C := RX4) (T := TX4) (N := 2) hx hb hta naX4 hown hK hP 0 rfl rfl 0 (by decide) (hta _ wm16) (fun _ h9 => h9) rfl dX4_get_14 ?_
  refine va_alen (v := 6) hx hb hK hP 1 0 rfl rfl (show Int32.ofNat 6 = 6 by decide) dX4_get_17 ?_
  refine lv_icmp_ge (tgt := 30) hx hb dX4_get_18 (by decide) (fun c3 => absurd c3 (by decide)) (fun c3 => ?_)
  refine lv_aload_n hx hb dX4_get_21 rfl (lv_at hl 0 rfl) ?_
  refine va_get (D := (dC, dI)) (ci := 11) (v := .ref h1) (C := RX4) (T := TX4) (N := 2) hx hb hta naX4 hown hK hP 0 rfl rfl 0 (by decide) (hta _ wm16) (fun _ h9 => h9) rfl dX4_get_22 ?_
  refine lv_iload_n hx hb dX4_get_25 rfl (lv_at hl 1 rfl) ?_
  refine va_iald hx hb hK hP 1 0 rfl rfl (vp_in_nI (n := 1) (by decide) (by decide)) dX4_get_26 ?_
  refine lv_topi (fun y4 ey4 => ?_)
  obtain rfl : x1 = y4 := ey4.symm
  refine lv_goto (tgt := 31) hx hb dX4_get_27 (by decide) ?_
  have hP9 := hP.sub (ws' := [(h0, .inr (11, [.ref h1, .int 6])), (h1, .inl (cc0, 6, .inl (upd (upd (upd (upd (upd (upd (fun _ => 0) 0 x0) 1 x1) 2 x2) 3 x3) 4 x4) 5 x5)))]) [0, 1] rfl
  have hD9 := hD.sub (ws' := [(h0, .inr (11, [.ref h1, .int 6])), (h1, .inl (cc0, 6, .inl (upd (upd (upd (upd (upd (upd (fun _ => 0) 0 x0) 1 x1) 2 x2) 3 x3) 4 x4) 5 x5)))]) [0, 1] (by decide) rfl
  have hK9 := hK.sub (tys' := [(cc0, .int)]) [0] rfl
  refine W.widen (k := 0) (n := 0) (Nat.le_of_ble_eq_true rfl) (Nat.le_of_ble_eq_true rfl) ?_
  exact W.iret (v := x1) hx hb hr (fun t ht hW => ⟨⟨_, (), rfl, rfl, by rw [ht]; exact hP9, va_K.moved hW.alike hK9, hD9⟩, hS.F ht⟩) hS.2.2 dX4_get_31
set_option maxHeartbeats 4000000 in
set_option maxRecDepth 100000 in
theorem kX4_get_14 (l : Launch) (dC : Nat → ClassId) (dI : Nat → Nat → Nat) (g : Nat → Nat) (sz : Nat) (h0 : Nat) (h1 : Nat) (cc0 : ClassId) (x0 : Int32) (x1 : Int32) (x2 : Int32) (x3 : Int32) (x4 : Int32) (x5 : Int32) (ex0 : (-1 : Int) ≤ x0.toInt ∧ x0.toInt ≤ (21 : Int)) (ex1 : (-1 : Int) ≤ x1.toInt ∧ x1.toInt ≤ (21 : Int)) (ex2 : (-1 : Int) ≤ x2.toInt ∧ x2.toInt ≤ (21 : Int)) (ex3 : (-1 : Int) ≤ x3.toInt ∧ x3.toInt ≤ (21 : Int)) (ex4 : (-2147483648 : Int) ≤ x4.toInt ∧ x4.toInt ≤ (-2 : Int)) : Met l yX4_get wbX4_get ({ frames := 0, cells := 0, slots := 0, locals := 0 }) (va_Pc [.ref h0, .int 3] (fun U => U.heap.size = sz ∧ va_P (dC, dI) vwCl [(h0, .inr (11, [.ref h1, .int 6])), (h1, .inl (cc0, 6, .inl (upd (upd (upd (upd (upd (upd (fun _ => 0) 0 x0) 1 x1) 2 x2) 3 x3) 4 x4) 5 x5)))] U.heap ∧ va_K (dC, dI) vwCl [(cc0, .int)] U ∧ va_D (fun _ => True) [(h0, .inr (11, [.ref h1, .int 6])), (h1, .inl (cc0, 6, .inl (upd (upd (upd (upd (upd (upd (fun _ => 0) 0 x0) 1 x1) 2 x2) 3 x3) 4 x4) 5 x5)))] ∧ ns_F g (va_A [(h0, .inr (11, [.ref h1, .int 6])), (h1, .inl (cc0, 6, .inl (upd (upd (upd (upd (upd (upd (fun _ => 0) 0 x0) 1 x1) 2 x2) 3 x3) 4 x4) 5 x5)))] sz) U U.heap)) (va_Qi (fun (r : Int32) (_ : Unit) => r = x3) (fun _ t => va_P (dC, dI) vwCl [(h0, .inr (11, [.ref h1, .int 6])), (h1, .inl (cc0, 6, .inl (upd (upd (upd (upd (upd (upd (fun _ => 0) 0 x0) 1 x1) 2 x2) 3 x3) 4 x4) 5 x5)))] t.heap ∧ va_K (dC, dI) vwCl [(cc0, .int)] t ∧ va_D (va_A [(h0, .inr (11, [.ref h1, .int 6])), (h1, .inl (cc0, 6, .inl (upd (upd (upd (upd (upd (upd (fun _ => 0) 0 x0) 1 x1) 2 x2) 3 x3) 4 x4) 5 x5)))] sz) [(h0, .inr (11, [.ref h1, .int 6])), (h1, .inl (cc0, 6, .inl (upd (upd (upd (upd (upd (upd (fun _ => 0) 0 x0) 1 x1) 2 x2) 3 x3) 4 x4) 5 x5)))]) (va_A [(h0, .inr (11, [.ref h1, .int 6])), (h1, .inl (cc0, 6, .inl (upd (upd (upd (upd (upd (upd (fun _ => 0) 0 x0) 1 x1) 2 x2) 3 x3) 4 x4) 5 x5)))] sz)) 0 0 (va_A [(h0, .inr (11, [.ref h1, .int 6])), (h1, .inl (cc0, 6, .inl (upd (upd (upd (upd (upd (upd (fun _ => 0) 0 x0) 1 x1) 2 x2) 3 x3) 4 x4) 5 x5)))] sz) := by
  refine Met.ofW (cc := cX4_get) (maxL := 2) (ret := (some .int)) (by decide) rfl ?_
  intro p e s m args below meth c s₁ B hml hv
  obtain ⟨rfl, hsz, hP, hK, hD0, hF⟩ := hv
  have hx := B.exec
  have hb := B.bytes
  have hr := B.returns
  have hts := atoms_spec (ws := wbX4_get) B.pre
  have hta : ∀ w ∈ wsALL, w.before _ s = true := fun w h => hts w (List.mem_cons_of_mem _ h)
  have hown : s.vm.findClass RX4 = some m.cls := findClass_of_methodNamed B.named
  have hlocks := B.notSynchronized
  subst hsz
  have hD := hD0.self (sz := s.heap.size)
  generalize hAe : va_A [(h0, .inr (11, [.ref h1, .int 6])), (h1, .inl (cc0, 6, .inl (upd (upd (upd (upd (upd (upd (fun _ => 0) 0 x0) 1 x1) 2 x2) 3 x3) 4 x4) 5 x5)))] s.heap.size = A at hD hF ⊢
  have hA : ∀ q : Nat, s.heap.size ≤ q → A q := fun q h => by rw [← hAe]; exact Or.inr h
  have hS : va_S A s.heap s.heap [] := va_S.rf
  have hP : va_P (dC, dI) vwCl [(h0, .inr (11, [.ref h1, .int 6])), (h1, .inl (cc0, 6, .inl (upd (upd (upd (upd (upd (upd (fun _ => 0) 0 x0) 1 x1) 2 x2) 3 x3) 4 x4) 5 x5)))] s.heap := hP
  have hl := lv_entry ([.ref h0, .int 3]) (n := 2) (Nat.le_of_ble_eq_true rfl)
  rw [lg_entry_eq]
  generalize (lg_sl ([.ref h0, .int 3]) ++ List.replicate (2 - (lg_sl ([.ref h0, .int 3])).length) Slot.unset).toArray = ls at hl ⊢
  have hl : lv_has ls 2 [(0, .ref h0), (1, .int 3)] := hl
  refine lv_iload_n hx hb dX4_get_0 rfl (lv_at hl 1 rfl) ?_
  refine lv_if_lt (tgt := 30) hx hb dX4_get_1 (by decide) (fun c1 => absurd c1 (by decide)) (fun c1 => ?_)
  refine lv_iload_n hx hb dX4_get_4 rfl (lv_at hl 1 rfl) ?_
  refine lv_aload_n hx hb dX4_get_5 rfl (lv_at hl 0 rfl) ?_
  refine va_get (D := (dC, dI)) (ci := 11) (v := .int 6) (C := RX4) (T := TX4) (N := 2) hx hb hta naX4 hown hK hP 0 rfl rfl 1 (by decide) (hta _ wm14) (fun _ h9 => h9) rfl dX4_get_6 ?_
  refine lv_icmp_ge (tgt := 30) hx hb dX4_get_9 (by decide) (fun c2 => absurd c2 (by decide)) (fun c2 => ?_)
  refine lv_iload_n hx hb dX4_get_12 rfl (lv_at hl 1 rfl) ?_
  refine lv_aload_n hx hb dX4_get_13 rfl (lv_at hl 0 rfl) ?_
  refine va_get (D := (dC, dI)) (ci := 11) (v := .ref h1) (C := RX4) (T := TX4) (N := 2) hx hb hta naX4 hown hK hP 0 rfl rfl 0 (by decide) (hta _ wm16) (fun _ h9 => h9) rfl dX4_get_14 ?_
  refine va_alen (v := 6) hx hb hK hP 1 0 rfl rfl (show Int32.ofNat 6 = 6 by decide) dX4_get_17 ?_
  refine lv_icmp_ge (tgt := 30) hx hb dX4_get_18 (by decide) (fun c3 => absurd c3 (by decide)) (fun c3 => ?_)
  refine lv_aload_n hx hb dX4_get_21 rfl (lv_at hl 0 rfl) ?_
  refine va_get (D := (dC, dI)) (ci := 11) (v := .ref h1) (C := RX4) (T := TX4) (N := 2) hx hb hta naX4 hown hK hP 0 rfl rfl 0 (by decide) (hta _ wm16) (fun _ h9 => h9) rfl dX4_get_22 ?_
  refine lv_iload_n hx hb dX4_get_25 rfl (lv_at hl 1 rfl) ?_
  refine va_iald hx hb hK hP 1 0 rfl rfl (vp_in_nI (n := 3) (by decide) (by decide)) dX4_get_26 ?_
  refine lv_topi (fun y4 ey4 => ?_)
  obtain rfl : x3 = y4 := ey4.symm
  refine lv_goto (tgt := 31) hx hb dX4_get_27 (by decide) ?_
  have hP9 := hP.sub (ws' := [(h0, .inr (11, [.ref h1, .int 6])), (h1, .inl (cc0, 6, .inl (upd (upd (upd (upd (upd (upd (fun _ => 0) 0 x0) 1 x1) 2 x2) 3 x3) 4 x4) 5 x5)))]) [0, 1] rfl
  have hD9 := hD.sub (ws' := [(h0, .inr (11, [.ref h1, .int 6])), (h1, .inl (cc0, 6, .inl (upd (upd (upd (upd (upd (upd (fun _ => 0) 0 x0) 1 x1) 2 x2) 3 x3) 4 x4) 5 x5)))]) [0, 1] (by decide) rfl
  have hK9 := hK.sub (tys' := [(cc0, .int)]) [0] rfl
  refine W.widen (k := 0) (n := 0) (Nat.le_of_ble_eq_true rfl) (Nat.le_of_ble_eq_true rfl) ?_
  exact W.iret (v := x3) hx hb hr (fun t ht hW => ⟨⟨_, (), rfl, rfl, by rw [ht]; exact hP9, va_K.moved hW.alike hK9, hD9⟩, hS.F ht⟩) hS.2.2 dX4_get_31
set_option maxHeartbeats 4000000 in
set_option maxRecDepth 100000 in
theorem kX4_get_42 (l : Launch) (dC : Nat → ClassId) (dI : Nat → Nat → Nat) (g : Nat → Nat) (sz : Nat) (h0 : Nat) (h1 : Nat) (cc0 : ClassId) (x0 : Int32) (x1 : Int32) (x2 : Int32) (x3 : Int32) (x4 : Int32) (x5 : Int32) (ex0 : (-1 : Int) ≤ x0.toInt ∧ x0.toInt ≤ (21 : Int)) (ex1 : (-1 : Int) ≤ x1.toInt ∧ x1.toInt ≤ (21 : Int)) (ex2 : (-1 : Int) ≤ x2.toInt ∧ x2.toInt ≤ (21 : Int)) (ex3 : (22 : Int) ≤ x3.toInt ∧ x3.toInt ≤ (2147483647 : Int)) : Met l yX4_get wbX4_get ({ frames := 0, cells := 0, slots := 0, locals := 0 }) (va_Pc [.ref h0, .int 3] (fun U => U.heap.size = sz ∧ va_P (dC, dI) vwCl [(h0, .inr (11, [.ref h1, .int 6])), (h1, .inl (cc0, 6, .inl (upd (upd (upd (upd (upd (upd (fun _ => 0) 0 x0) 1 x1) 2 x2) 3 x3) 4 x4) 5 x5)))] U.heap ∧ va_K (dC, dI) vwCl [(cc0, .int)] U ∧ va_D (fun _ => True) [(h0, .inr (11, [.ref h1, .int 6])), (h1, .inl (cc0, 6, .inl (upd (upd (upd (upd (upd (upd (fun _ => 0) 0 x0) 1 x1) 2 x2) 3 x3) 4 x4) 5 x5)))] ∧ ns_F g (va_A [(h0, .inr (11, [.ref h1, .int 6])), (h1, .inl (cc0, 6, .inl (upd (upd (upd (upd (upd (upd (fun _ => 0) 0 x0) 1 x1) 2 x2) 3 x3) 4 x4) 5 x5)))] sz) U U.heap)) (va_Qi (fun (r : Int32) (_ : Unit) => r = x3) (fun _ t => va_P (dC, dI) vwCl [(h0, .inr (11, [.ref h1, .int 6])), (h1, .inl (cc0, 6, .inl (upd (upd (upd (upd (upd (upd (fun _ => 0) 0 x0) 1 x1) 2 x2) 3 x3) 4 x4) 5 x5)))] t.heap ∧ va_K (dC, dI) vwCl [(cc0, .int)] t ∧ va_D (va_A [(h0, .inr (11, [.ref h1, .int 6])), (h1, .inl (cc0, 6, .inl (upd (upd (upd (upd (upd (upd (fun _ => 0) 0 x0) 1 x1) 2 x2) 3 x3) 4 x4) 5 x5)))] sz) [(h0, .inr (11, [.ref h1, .int 6])), (h1, .inl (cc0, 6, .inl (upd (upd (upd (upd (upd (upd (fun _ => 0) 0 x0) 1 x1) 2 x2) 3 x3) 4 x4) 5 x5)))]) (va_A [(h0, .inr (11, [.ref h1, .int 6])), (h1, .inl (cc0, 6, .inl (upd (upd (upd (upd (upd (upd (fun _ => 0) 0 x0) 1 x1) 2 x2) 3 x3) 4 x4) 5 x5)))] sz)) 0 0 (va_A [(h0, .inr (11, [.ref h1, .int 6])), (h1, .inl (cc0, 6, .inl (upd (upd (upd (upd (upd (upd (fun _ => 0) 0 x0) 1 x1) 2 x2) 3 x3) 4 x4) 5 x5)))] sz) := by
  refine Met.ofW (cc := cX4_get) (maxL := 2) (ret := (some .int)) (by decide) rfl ?_
  intro p e s m args below meth c s₁ B hml hv
  obtain ⟨rfl, hsz, hP, hK, hD0, hF⟩ := hv
  have hx := B.exec
  have hb := B.bytes
  have hr := B.returns
  have hts := atoms_spec (ws := wbX4_get) B.pre
  have hta : ∀ w ∈ wsALL, w.before _ s = true := fun w h => hts w (List.mem_cons_of_mem _ h)
  have hown : s.vm.findClass RX4 = some m.cls := findClass_of_methodNamed B.named
  have hlocks := B.notSynchronized
  subst hsz
  have hD := hD0.self (sz := s.heap.size)
  generalize hAe : va_A [(h0, .inr (11, [.ref h1, .int 6])), (h1, .inl (cc0, 6, .inl (upd (upd (upd (upd (upd (upd (fun _ => 0) 0 x0) 1 x1) 2 x2) 3 x3) 4 x4) 5 x5)))] s.heap.size = A at hD hF ⊢
  have hA : ∀ q : Nat, s.heap.size ≤ q → A q := fun q h => by rw [← hAe]; exact Or.inr h
  have hS : va_S A s.heap s.heap [] := va_S.rf
  have hP : va_P (dC, dI) vwCl [(h0, .inr (11, [.ref h1, .int 6])), (h1, .inl (cc0, 6, .inl (upd (upd (upd (upd (upd (upd (fun _ => 0) 0 x0) 1 x1) 2 x2) 3 x3) 4 x4) 5 x5)))] s.heap := hP
  have hl := lv_entry ([.ref h0, .int 3]) (n := 2) (Nat.le_of_ble_eq_true rfl)
  rw [lg_entry_eq]
  generalize (lg_sl ([.ref h0, .int 3]) ++ List.replicate (2 - (lg_sl ([.ref h0, .int 3])).length) Slot.unset).toArray = ls at hl ⊢
  have hl : lv_has ls 2 [(0, .ref h0), (1, .int 3)] := hl
  refine lv_iload_n hx hb dX4_get_0 rfl (lv_at hl 1 rfl) ?_
  refine lv_if_lt (tgt := 30) hx hb dX4_get_1 (by decide) (fun c1 => absurd c1 (by decide)) (fun c1 => ?_)
  refine lv_iload_n hx hb dX4_get_4 rfl (lv_at hl 1 rfl) ?_
  refine lv_aload_n hx hb dX4_get_5 rfl (lv_at hl 0 rfl) ?_
  refine va_get (D := (dC, dI)) (ci := 11) (v := .int 6) (C := RX4) (T := TX4) (N := 2) hx hb hta naX4 hown hK hP 0 rfl rfl 1 (by decide) (hta _ wm14) (fun _ h9 => h9) rfl dX4_get_6 ?_
  refine lv_icmp_ge (tgt := 30) hx hb dX4_get_9 (by decide) (fun c2 => absurd c2 (by decide)) (fun c2 => ?_)
  refine lv_iload_n hx hb dX4_get_12 rfl (lv_at hl 1 rfl) ?_
  refine lv_aload_n hx hb dX4_get_13 rfl (lv_at hl 0 rfl) ?_
  refine va_get (D := (dC, dI)) (ci := 11) (v := .ref h1) (C := RX4) (T := TX4) (N := 2) hx hb hta naX4 hown hK hP 0 rfl rfl 0 (by decide) (hta _ wm16) (fun _ h9 => h9) rfl dX4_get_14 ?_
  refine va_alen (v := 6) hx hb hK hP 1 0 rfl rfl (show Int32.ofNat 6 = 6 by decide) dX4_get_17 ?_
  refine lv_icmp_ge (tgt := 30) hx hb dX4_get_18 (by decide) (fun c3 => absurd c3 (by decide)) (fun c3 => ?_)
  refine lv_aload_n hx hb dX4_get_21 rfl (lv_at hl 0 rfl) ?_
  refine va_get (D := (dC, dI)) (ci := 11) (v := .ref h1) (C := RX4) (T := TX4) (N := 2) hx hb hta naX4 hown hK hP 0 rfl rfl 0 (by decide) (hta _ wm16) (fun _ h9 => h9) rfl dX4_get_22 ?_
  refine lv_iload_n hx hb dX4_get_25 rfl (lv_at hl 1 rfl) ?_
  refine va_iald hx hb hK hP 1 0 rfl rfl (vp_in_nI (n := 3) (by decide) (by decide)) dX4_get_26 ?_
  refine lv_topi (fun y4 ey4 => ?_)
  obtain rfl : x3 = y4 := ey4.symm
  refine lv_goto (tgt := 31) hx hb dX4_get_27 (by decide) ?_
  have hP9 := hP.sub (ws' := [(h0, .inr (11, [.ref h1, .int 6])), (h1, .inl (cc0, 6, .inl (upd (upd (upd (upd (upd (upd (fun _ => 0) 0 x0) 1 x1) 2 x2) 3 x3) 4 x4) 5 x5)))]) [0, 1] rfl
  have hD9 := hD.sub (ws' := [(h0, .inr (11, [.ref h1, .int 6])), (h1, .inl (cc0, 6, .inl (upd (upd (upd (upd (upd (upd (fun _ => 0) 0 x0) 1 x1) 2 x2) 3 x3) 4 x4) 5 x5)))]) [0, 1] (by decide) rfl
  have hK9 := hK.sub (tys' := [(cc0, .int)]) [0] rfl
  refine W.widen (k := 0) (n := 0) (Nat.le_of_ble_eq_true rfl) (Nat.le_of_ble_eq_true rfl) ?_
  exact W.iret (v := x3) hx hb hr (fun t ht hW => ⟨⟨_, (), rfl, rfl, by rw [ht]; exact hP9, va_K.moved hW.alike hK9, hD9⟩, hS.F ht⟩) hS.2.2 dX4_get_31
set_option maxHeartbeats 4000000 in
set_option maxRecDepth 100000 in
theorem kX9_lengthAfter_14 (l : Launch) (dC : Nat → ClassId) (dI : Nat → Nat → Nat) (g : Nat → Nat) (sz : Nat) (x0 : Int32) (x1 : Int32) (ex0 : (0 : Int) ≤ x0.toInt ∧ x0.toInt ≤ (3 : Int)) (ex1 : (20 : Int) ≤ x1.toInt ∧ x1.toInt ≤ (21 : Int)) : Met l yX9_lengthAfter wbX9_lengthAfter ({ frames := 0, cells := 0, slots := 0, locals := 0 }) (va_Pc [.int x0, .int x1] (fun U => U.heap.size = sz ∧ va_P (dC, dI) vwCl [] U.heap ∧ va_K (dC, dI) vwCl [] U ∧ va_D (fun _ => True) [] ∧ ns_F g (va_A [] sz) U U.heap)) (va_Qi (fun (r : Int32) (_ : Unit) => r = (ns_len x0 x1)) (fun _ t => va_P (dC, dI) vwCl [] t.heap ∧ va_K (dC, dI) vwCl [] t ∧ va_D (va_A [] sz) []) (va_A [] sz)) 0 0 (va_A [] sz) := by
  refine Met.ofW (cc := cX9_lengthAfter) (maxL := 2) (ret := (some .int)) (by decide) rfl ?_
  intro p e s m args below meth c s₁ B hml hv
  obtain ⟨rfl, hsz, hP, hK, hD0, hF⟩ := hv
  have hx := B.exec
  have hb := B.bytes
  have hr := B.returns
  have hts := atoms_spec (ws := wbX9_lengthAfter) B.pre
  have hta : ∀ w ∈ wsALL, w.before _ s = true := fun w h => hts w (List.mem_cons_of_mem _ h)
  have hown : s.vm.findClass RX9 = some m.cls := findClass_of_methodNamed B.named
  have hlocks := B.notSynchronized
  subst hsz
  have hD := hD0.self (sz := s.heap.size)
  generalize hAe : va_A [] s.heap.size = A at hD hF ⊢
  have hA : ∀ q : Nat, s.heap.size ≤ q → A q := fun q h => by rw [← hAe]; exact Or.inr h
  have hS : va_S A s.heap s.heap [] := va_S.rf
  have hP : va_P (dC, dI) vwCl [] s.heap := hP
  have hl := lv_entry ([.int x0, .int x1]) (n := 2) (Nat.le_of_ble_eq_true rfl)
  rw [lg_entry_eq]
  generalize (lg_sl ([.int x0, .int x1]) ++ List.replicate (2 - (lg_sl ([.int x0, .int x1])).length) Slot.unset).toArray = ls at hl ⊢
  have hl : lv_has ls 2 [(0, .int x0), (1, .int x1)] := hl
  refine lv_iload_n hx hb dX9_lengthAfter_0 rfl (lv_at hl 1 rfl) ?_
  refine lv_iconst (v := (-1)) hx hb dX9_lengthAfter_1 (by decide) ?_
  refine lv_icmp_ne (tgt := 7) hx hb dX9_lengthAfter_2 (by decide) (fun c1 => ?_) (fun c1 => absurd c1 (fun z => absurd (show x1.toInt = (-1 : Int) from congrArg Int32.toInt z) (by omega)))
  refine lv_iload_n hx hb dX9_lengthAfter_7 rfl (lv_at hl 1 rfl) ?_
  refine lv_bipush (v := 21) hx hb dX9_lengthAfter_8 (by decide) ?_
  refine lv_icmp_ne (tgt := 15) hx hb dX9_lengthAfter_10 (by decide) (fun c2 => ?_) (fun c2 => ?_)
  · have ec2 : ¬ x1.toInt = (21 : Int) := fun z => c2 (Int32.toInt_inj.mp z)
    refine lv_iload_n hx hb dX9_lengthAfter_15 rfl (lv_at hl 1 rfl) ?_
    refine lv_bipush (v := 20) hx hb dX9_lengthAfter_16 (by decide) ?_
    refine lv_icmp_ne (tgt := 33) hx hb dX9_lengthAfter_18 (by decide) (fun c3 => absurd (show x1 = (20 : Int32) from Int32.toInt_inj.mp (show x1.toInt = (20 : Int) by omega)) c3) (fun c3 => ?_)
    refine lv_iload_n hx hb dX9_lengthAfter_21 rfl (lv_at hl 0 rfl) ?_
    refine lv_if_le (tgt := 31) hx hb dX9_lengthAfter_22 (by decide) (fun c4 => ?_) (fun c4 => ?_)
    · have ec4 : x0.toInt ≤ (0 : Int) := Int32.le_iff_toInt_le.mp c4
      refine lv_iconst (v := 0) hx hb dX9_lengthAfter_31 (by decide) ?_
      have hP9 := hP.sub (ws' := []) [] rfl
      have hD9 := hD.sub (ws' := []) [] (by decide) rfl
      have hK9 := hK.sub (tys' := []) [] rfl
      refine W.widen (k := 0) (n := 0) (Nat.le_of_ble_eq_true rfl) (Nat.le_of_ble_eq_true rfl) ?_
      have hz9 : 0 = (ns_len x0 x1) := (by unfold ns_len; (repeat' split) <;> first | rfl | (exfalso; omega))
      exact W.iret (v := 0) hx hb hr (fun t ht hW => ⟨⟨_, (), rfl, hz9, by rw [ht]; exact hP9, va_K.moved hW.alike hK9, hD9⟩, hS.F ht⟩) hS.2.2 dX9_lengthAfter_32
    · have ec4 : ¬ x0.toInt ≤ (0 : Int) := fun z => c4 (Int32.le_iff_toInt_le.mpr z)
      refine lv_iload_n hx hb dX9_lengthAfter_25 rfl (lv_at hl 0 rfl) ?_
      refine lv_iconst (v := 1) hx hb dX9_lengthAfter_26 (by decide) ?_
      refine lv_isub hx hb dX9_lengthAfter_27 ?_
      have r5 : (x0 - 1).toInt = x0.toInt - (1 : Int) := fb_subI (show (-2147483648 : Int) ≤ x0.toInt - (1 : Int) by omega) (show x0.toInt - (1 : Int) < (2147483648 : Int) by omega)
      refine lv_goto (tgt := 32) hx hb dX9_lengthAfter_28 (by decide) ?_
      have hP9 := hP.sub (ws' := []) [] rfl
      have hD9 := hD.sub (ws' := []) [] (by decide) rfl
      have hK9 := hK.sub (tys' := []) [] rfl
      refine W.widen (k := 0) (n := 0) (Nat.le_of_ble_eq_true rfl) (Nat.le_of_ble_eq_true rfl) ?_
      have hz9 : (x0 - 1) = (ns_len x0 x1) := (by unfold ns_len; (repeat' split) <;> first | rfl | (exfalso; omega))
      exact W.iret (v := (x0 - 1)) hx hb hr (fun t ht hW => ⟨⟨_, (), rfl, hz9, by rw [ht]; exact hP9, va_K.moved hW.alike hK9, hD9⟩, hS.F ht⟩) hS.2.2 dX9_lengthAfter_32
  · have ec2 : x1.toInt = (21 : Int) := congrArg Int32.toInt c2
    refine lv_iconst (v := 0) hx hb dX9_lengthAfter_13 (by decide) ?_
    have hP9 := hP.sub (ws' := []) [] rfl
    have hD9 := hD.sub (ws' := []) [] (by decide) rfl
    have hK9 := hK.sub (tys' := []) [] rfl
    refine W.widen (k := 0) (n := 0) (Nat.le_of_ble_eq_true rfl) (Nat.le_of_ble_eq_true rfl) ?_
    have hz9 : 0 = (ns_len x0 x1) := (by unfold ns_len; (repeat' split) <;> first | rfl | (exfalso; omega))
    exact W.iret (v := 0) hx hb hr (fun t ht hW => ⟨⟨_, (), rfl, hz9, by rw [ht]; exact hP9, va_K.moved hW.alike hK9, hD9⟩, hS.F ht⟩) hS.2.2 dX9_lengthAfter_14
set_option maxHeartbeats 4000000 in
set_option maxRecDepth 100000 in
theorem kX4_init_6 (l : Launch) (dC : Nat → ClassId) (dI : Nat → Nat → Nat) (g : Nat → Nat) (sz : Nat) (h0 : Nat) (v0 : Value) (v1 : Value) : Met l yX4_init wbX4_init ({ frames := 1, cells := 1, slots := 61, locals := 12 }) (va_Pc [.ref h0, .int 61] (fun U => U.heap.size = sz ∧ va_P (dC, dI) vwCl [(h0, .inr (11, [v0, v1]))] U.heap ∧ va_K (dC, dI) vwCl [] U ∧ va_D (fun _ => True) [(h0, .inr (11, [v0, v1]))] ∧ ns_F g (va_A [(h0, .inr (11, [v0, v1]))] sz) U U.heap)) (va_Qv (fun _ : Unit => True) (fun _ t => ∃ k0 : Nat, ∃ kc1 : ClassId, va_P (dC, dI) vwCl [(h0, .inr (11, [.ref k0, .int 0])), (k0, .inl (kc1, 61, .inl (fun _ => 0)))] t.heap ∧ va_K (dC, dI) vwCl [(kc1, .int)] t ∧ va_D (va_A [(h0, .inr (11, [v0, v1]))] sz) [(h0, .inr (11, [.ref k0, .int 0])), (k0, .inl (kc1, 61, .inl (fun _ => 0)))]) (va_A [(h0, .inr (11, [v0, v1]))] sz)) 1 61 (va_A [(h0, .inr (11, [v0, v1]))] sz) := by
  refine Met.ofW (cc := cX4_init) (maxL := 2) (ret := none) (by decide) rfl ?_
  intro p e s m args below meth c s₁ B hml hv
  obtain ⟨rfl, hsz, hP, hK, hD0, hF⟩ := hv
  have hx := B.exec
  have hb := B.bytes
  have hr := B.returns
  have hts := atoms_spec (ws := wbX4_init) B.pre
  have hta : ∀ w ∈ wsALL, w.before _ s = true := fun w h => hts w (List.mem_cons_of_mem _ h)
  have hown : s.vm.findClass RX4 = some m.cls := findClass_of_methodNamed B.named
  have hlocks := B.notSynchronized
  have hin : meth.name = "<init>" := (name_of_methodNamed B.named B.method).1
  subst hsz
  have hD := hD0.self (sz := s.heap.size)
  generalize hAe : va_A [(h0, .inr (11, [v0, v1]))] s.heap.size = A at hD hF ⊢
  have hA : ∀ q : Nat, s.heap.size ≤ q → A q := fun q h => by rw [← hAe]; exact Or.inr h
  have hS : va_S A s.heap s.heap [] := va_S.rf
  have hP : va_P (dC, dI) vwCl [(h0, .inr (11, [v0, v1]))] s.heap := hP
  have hl := lv_entry ([.ref h0, .int 61]) (n := 2) (Nat.le_of_ble_eq_true rfl)
  rw [lg_entry_eq]
  generalize (lg_sl ([.ref h0, .int 61]) ++ List.replicate (2 - (lg_sl ([.ref h0, .int 61])).length) Slot.unset).toArray = ls at hl ⊢
  have hl : lv_has ls 2 [(0, .ref h0), (1, .int 61)] := hl
  refine lv_aload_n hx hb dX4_init_0 rfl (lv_at hl 0 rfl) ?_
  refine W.objInit hx hb hown (hta _ wm13) (hta _ wm4) (hta _ wm5) rfl (by rw [hml]; exact hl.1) rfl dX4_init_1 (Nat.le_of_ble_eq_true rfl) (Nat.le_of_ble_eq_true rfl) ?_
  refine W.eq (g2 := F0 m 4 ls []) rfl ?_
  refine lv_aload_n hx hb dX4_init_4 rfl (lv_at hl 0 rfl) ?_
  refine lv_iconst (v := 0) hx hb dX4_init_5 (by decide) ?_
  refine va_put (D := (dC, dI)) (ci := 11) (v := .int 0) (ty := .int) (C := RX4) (T := TX4) (N := 2) hx hb hta naX4 tyX4 tyX4_ok nmX4 hown hK hP hD hS 0 rfl rfl 1 (by decide) (hta _ wm14) (fun _ h9 => h9) rfl (by decide +kernel) rfl rfl (Nat.le_of_ble_eq_true rfl) dX4_init_6 (fun H locs hP hD hS => ?_)
  have hP : va_P (dC, dI) vwCl [(h0, .inr (11, [v0, .int 0]))] H := hP
  have hD : va_D A [(h0, .inr (11, [v0, .int 0]))] := hD
  refine lv_aload_n hx hb dX4_init_9 rfl (lv_at hl 0 rfl) ?_
  refine lv_iload_n hx hb dX4_init_10 rfl (lv_at hl 1 rfl) ?_
  refine lv_if_le (tgt := 18) hx hb dX4_init_11 (by decide) (fun c1 => absurd c1 (by decide)) (fun c1 => ?_)
  refine lv_iload_n hx hb dX4_init_14 rfl (lv_at hl 1 rfl) ?_
  refine lv_goto (tgt := 19) hx hb dX4_init_15 (by decide) ?_
  refine va_newa (atype := .int) hx hb (hta _ wm15) rfl hK hP hD hS hA (N' := 61) (a0 := (61, .inl (fun _ => 0))) (fun _ => rfl) (by decide) (by decide) (Nat.le_of_ble_eq_true rfl) (Nat.le_of_ble_eq_true rfl) (Nat.le_of_ble_eq_true rfl) dX4_init_19 (fun q2 cyq2 H hK hP hD hS => ?_)
  have hP : va_P (dC, dI) vwCl [(h0, .inr (11, [v0, .int 0])), (q2, .inl (cyq2, 61, .inl (fun _ => 0)))] H := hP
  have hD : va_D A [(h0, .inr (11, [v0, .int 0])), (q2, .inl (cyq2, 61, .inl (fun _ => 0)))] := hD
  have hK : va_K (dC, dI) vwCl [(cyq2, .int)] s := hK
  refine W.widen (k := 1) (n := 61) (Nat.le_of_ble_eq_true rfl) (Nat.le_of_ble_eq_true rfl) ?_
  refine va_putF (D := (dC, dI)) (ci := 11) (v := .ref q2) (ty := .array (.int)) (C := RX4) (T := TX4) (N := 2) hx hb hta naX4 tyX4 tyX4_ok nmX4 hown hK hP hD hS 0 rfl rfl 0 (by decide) (hta _ wm16) (fun _ h9 => h9) rfl hin rfl (by decide +kernel) rfl rfl (Nat.le_of_ble_eq_true rfl) dX4_init_21 (fun H locs hP hD hS => ?_)
  have hP : va_P (dC, dI) vwCl [(h0, .inr (11, [.ref q2, .int 0])), (q2, .inl (cyq2, 61, .inl (fun _ => 0)))] H := hP
  have hD : va_D A [(h0, .inr (11, [.ref q2, .int 0])), (q2, .inl (cyq2, 61, .inl (fun _ => 0)))] := hD
  have hP9 := hP.sub (ws' := [(h0, .inr (11, [.ref q2, .int 0])), (q2, .inl (cyq2, 61, .inl (fun _ => 0)))]) [0, 1] rfl
  have hD9 := hD.sub (ws' := [(h0, .inr (11, [.ref q2, .int 0])), (q2, .inl (cyq2, 61, .inl (fun _ => 0)))]) [0, 1] (by decide) rfl
  have hK9 := hK.sub (tys' := [(cyq2, .int)]) [0] rfl
  refine W.widen (k := 1) (n := 61) (Nat.le_of_ble_eq_true rfl) (Nat.le_of_ble_eq_true rfl) ?_
  exact W.vret hx hb hr (fun t ht hW => ⟨⟨(), rfl, trivial, q2, cyq2, by rw [ht]; exact hP9, va_K.moved hW.alike hK9, hD9⟩, hS.F ht⟩) hS.2.2 dX4_init_24
set_option maxHeartbeats 4000000 in
set_option maxRecDepth 100000 in
theorem kX4_cut_8 (l : Launch) (dC : Nat → ClassId) (dI : Nat → Nat → Nat) (g : Nat → Nat) (sz : Nat) (h0 : Nat) (x0 : Int32) (v0 : Value) (ex0 : (0 : Int) ≤ x0.toInt ∧ x0.toInt ≤ (4 : Int)) : Met l yX4_cut wbX4_cut ({ frames := 0, cells := 0, slots := 0, locals := 0 }) (va_Pc [.ref h0, .int x0] (fun U => U.heap.size = sz ∧ va_P (dC, dI) vwCl [(h0, .inr (11, [v0, .int x0]))] U.heap ∧ va_K (dC, dI) vwCl [] U ∧ va_D (fun _ => True) [(h0, .inr (11, [v0, .int x0]))] ∧ ns_F g (va_A [(h0, .inr (11, [v0, .int x0]))] sz) U U.heap)) (va_Qv (fun _ : Unit => True) (fun _ t => va_P (dC, dI) vwCl [(h0, .inr (11, [v0, .int (ns_cut x0 x0)]))] t.heap ∧ va_K (dC, dI) vwCl [] t ∧ va_D (va_A [(h0, .inr (11, [v0, .int x0]))] sz) [(h0, .inr (11, [v0, .int (ns_cut x0 x0)]))]) (va_A [(h0, .inr (11, [v0, .int x0]))] sz)) 0 0 (va_A [(h0, .inr (11, [v0, .int x0]))] sz) := by
  refine Met.ofW (cc := cX4_cut) (maxL := 2) (ret := none) (by decide) rfl ?_
  intro p e s m args below meth c s₁ B hml hv
  obtain ⟨rfl, hsz, hP, hK, hD0, hF⟩ := hv
  have hx := B.exec
  have hb := B.bytes
  have hr := B.returns
  have hts := atoms_spec (ws := wbX4_cut) B.pre
  have hta : ∀ w ∈ wsALL, w.before _ s = true := fun w h => hts w (List.mem_cons_of_mem _ h)
  have hown : s.vm.findClass RX4 = some m.cls := findClass_of_methodNamed B.named
  have hlocks := B.notSynchronized
  subst hsz
  have hD := hD0.self (sz := s.heap.size)
  generalize hAe : va_A [(h0, .inr (11, [v0, .int x0]))] s.heap.size = A at hD hF ⊢
  have hA : ∀ q : Nat, s.heap.size ≤ q → A q := fun q h => by rw [← hAe]; exact Or.inr h
  have hS : va_S A s.heap s.heap [] := va_S.rf
  have hP : va_P (dC, dI) vwCl [(h0, .inr (11, [v0, .int x0]))] s.heap := hP
  have hl := lv_entry ([.ref h0, .int x0]) (n := 2) (Nat.le_of_ble_eq_true rfl)
  rw [lg_entry_eq]
  generalize (lg_sl ([.ref h0, .int x0]) ++ List.replicate (2 - (lg_sl ([.ref h0, .int x0])).length) Slot.unset).toArray = ls at hl ⊢
  have hl : lv_has ls 2 [(0, .ref h0), (1, .int x0)] := hl
  refine lv_iload_n hx hb dX4_cut_0 rfl (lv_at hl 1 rfl) ?_
  refine lv_if_lt (tgt := 17) hx hb dX4_cut_1 (by decide) (fun c1 => absurd c1 (fun z => absurd (show x0.toInt < (0 : Int) from Int32.lt_iff_toInt_lt.mp z) (by omega))) (fun c1 => ?_)
  refine lv_iload_n hx hb dX4_cut_4 rfl (lv_at hl 1 rfl) ?_
  refine lv_aload_n hx hb dX4_cut_5 rfl (lv_at hl 0 rfl) ?_
  refine va_get (D := (dC, dI)) (ci := 11) (v := .int x0) (C := RX4) (T := TX4) (N := 2) hx hb hta naX4 hown hK hP 0 rfl rfl 1 (by decide) (hta _ wm14) (fun _ h9 => h9) rfl dX4_cut_6 ?_
  refine lv_icmp_ge (tgt := 17) hx hb dX4_cut_9 (by decide) (fun c2 => ?_) (fun c2 => ?_)
  · have ec2 : x0.toInt ≤ x0.toInt := Int32.le_iff_toInt_le.mp c2
    have w3 : x0 = (ns_cut x0 x0) := (by unfold ns_cut; (repeat' split) <;> first | rfl | (exfalso; omega))
    have hP : va_P (dC, dI) vwCl [(h0, .inr (11, [v0, .int (ns_cut x0 x0)]))] s.heap := by rw [← w3]; exact hP
    have hD : va_D A [(h0, .inr (11, [v0, .int (ns_cut x0 x0)]))] := by rw [← w3]; exact hD
    have hP9 := hP.sub (ws' := [(h0, .inr (11, [v0, .int (ns_cut x0 x0)]))]) [0] rfl
    have hD9 := hD.sub (ws' := [(h0, .inr (11, [v0, .int (ns_cut x0 x0)]))]) [0] (by decide) rfl
    have hK9 := hK.sub (tys' := []) [] rfl
    refine W.widen (k := 0) (n := 0) (Nat.le_of_ble_eq_true rfl) (Nat.le_of_ble_eq_true rfl) ?_
    exact W.vret hx hb hr (fun t ht hW => ⟨⟨(), rfl, trivial, by rw [ht]; exact hP9, va_K.moved hW.alike hK9, hD9⟩, hS.F ht⟩) hS.2.2 dX4_cut_17
  · have ec2 : ¬ x0.toInt ≤ x0.toInt := fun z => c2 (Int32.le_iff_toInt_le.mpr z)
    refine lv_aload_n hx hb dX4_cut_12 rfl (lv_at hl 0 rfl) ?_
    refine lv_iload_n hx hb dX4_cut_13 rfl (lv_at hl 1 rfl) ?_
    refine va_put (D := (dC, dI)) (ci := 11) (v := .int x0) (ty := .int) (C := RX4) (T := TX4) (N := 2) hx hb hta naX4 tyX4 tyX4_ok nmX4 hown hK hP hD hS 0 rfl rfl 1 (by decide) (hta _ wm14) (fun _ h9 => h9) rfl (by decide +kernel) rfl rfl (Nat.le_of_ble_eq_true rfl) dX4_cut_14 (fun H locs hP hD hS => ?_)
    have hP : va_P (dC, dI) vwCl [(h0, .inr (11, [v0, .int x0]))] H := hP
    have hD : va_D A [(h0, .inr (11, [v0, .int x0]))] := hD
    have w4 : x0 = (ns_cut x0 x0) := (by unfold ns_cut; (repeat' split) <;> first | rfl | (exfalso; omega))
    have hP : va_P (dC, dI) vwCl [(h0, .inr (11, [v0, .int (ns_cut x0 x0)]))] H := by rw [← w4]; exact hP
    have hD : va_D A [(h0, .inr (11, [v0, .int (ns_cut x0 x0)]))] := by rw [← w4]; exact hD
    have hP9 := hP.sub (ws' := [(h0, .inr (11, [v0, .int (ns_cut x0 x0)]))]) [0] rfl
    have hD9 := hD.sub (ws' := [(h0, .inr (11, [v0, .int (ns_cut x0 x0)]))]) [0] (by decide) rfl
    have hK9 := hK.sub (tys' := []) [] rfl
    refine W.widen (k := 0) (n := 0) (Nat.le_of_ble_eq_true rfl) (Nat.le_of_ble_eq_true rfl) ?_
    exact W.vret hx hb hr (fun t ht hW => ⟨⟨(), rfl, trivial, by rw [ht]; exact hP9, va_K.moved hW.alike hK9, hD9⟩, hS.F ht⟩) hS.2.2 dX4_cut_17
set_option maxHeartbeats 4000000 in
set_option maxRecDepth 100000 in
theorem kJ0_init_031fb (l : Launch) (dC : Nat → ClassId) (dI : Nat → Nat → Nat) (g : Nat → Nat) (sz : Nat) (h0 : Nat) (h1 : Nat) (v0 : Value) (v1 : Value) (v2 : Value) (v3 : Value) : Met l yJ0_init_031fb wbJ0_init_031fb ({ frames := 1, cells := 0, slots := 0, locals := 12 }) (va_Pc [.ref h0, .ref h1, .int 0] (fun U => U.heap.size = sz ∧ va_P (dC, dI) vwCl [(h0, .inr (0, [v0, v1, v2, v3]))] U.heap ∧ va_K (dC, dI) vwCl [] U ∧ va_D (fun _ => True) [(h0, .inr (0, [v0, v1, v2, v3]))] ∧ ns_F g (va_A [(h0, .inr (0, [v0, v1, v2, v3]))] sz) U U.heap)) (va_Qv (fun _ : Unit => True) (fun _ t => va_P (dC, dI) vwCl [(h0, .inr (0, [.ref h1, .int 0, v2, v3]))] t.heap ∧ va_K (dC, dI) vwCl [] t ∧ va_D (va_A [(h0, .inr (0, [v0, v1, v2, v3]))] sz) [(h0, .inr (0, [.ref h1, .int 0, v2, v3]))]) (va_A [(h0, .inr (0, [v0, v1, v2, v3]))] sz)) 0 0 (va_A [(h0, .inr (0, [v0, v1, v2, v3]))] sz) := by
  refine Met.ofW (cc := cJ0_init_031fb) (maxL := 3) (ret := none) (by decide) rfl ?_
  intro p e s m args below meth c s₁ B hml hv
  obtain ⟨rfl, hsz, hP, hK, hD0, hF⟩ := hv
  have hx := B.exec
  have hb := B.bytes
  have hr := B.returns
  have hts := atoms_spec (ws := wbJ0_init_031fb) B.pre
  have hta : ∀ w ∈ wsALL, w.before _ s = true := fun w h => hts w (List.mem_cons_of_mem _ h)
  have hown : s.vm.findClass RJ0 = some m.cls := findClass_of_methodNamed B.named
  have hlocks := B.notSynchronized
  have hin : meth.name = "<init>" := (name_of_methodNamed B.named B.method).1
  subst hsz
  have hD := hD0.self (sz := s.heap.size)
  generalize hAe : va_A [(h0, .inr (0, [v0, v1, v2, v3]))] s.heap.size = A at hD hF ⊢
  have hA : ∀ q : Nat, s.heap.size ≤ q → A q := fun q h => by rw [← hAe]; exact Or.inr h
  have hS : va_S A s.heap s.heap [] := va_S.rf
  have hP : va_P (dC, dI) vwCl [(h0, .inr (0, [v0, v1, v2, v3]))] s.heap := hP
  have hl := lv_entry ([.ref h0, .ref h1, .int 0]) (n := 3) (Nat.le_of_ble_eq_true rfl)
  rw [lg_entry_eq]
  generalize (lg_sl ([.ref h0, .ref h1, .int 0]) ++ List.replicate (3 - (lg_sl ([.ref h0, .ref h1, .int 0])).length) Slot.unset).toArray = ls at hl ⊢
  have hl : lv_has ls 3 [(0, .ref h0), (1, .ref h1), (2, .int 0)] := hl
  refine lv_aload_n hx hb dJ0_init_031fb_0 rfl (lv_at hl 0 rfl) ?_
  refine W.objInit hx hb hown (hta _ wm317) (hta _ wm4) (hta _ wm5) rfl (by rw [hml]; exact hl.1) rfl dJ0_init_031fb_1 (Nat.le_of_ble_eq_true rfl) (Nat.le_of_ble_eq_true rfl) ?_
  refine W.eq (g2 := F0 m 4 ls []) rfl ?_
  refine lv_aload_n hx hb dJ0_init_031fb_4 rfl (lv_at hl 0 rfl) ?_
  refine lv_aload_n hx hb dJ0_init_031fb_5 rfl (lv_at hl 1 rfl) ?_
  refine va_putF (D := (dC, dI)) (ci := 0) (v := .ref h1) (ty := .array (.byte)) (C := RJ0) (T := TJ0) (N := 4) hx hb hta naJ0 tyJ0 tyJ0_ok nmJ0 hown hK hP hD hS 0 rfl rfl 0 (by decide) (hta _ wm341) (fun _ h9 => h9) rfl hin rfl (by decide +kernel) rfl rfl (Nat.le_of_ble_eq_true rfl) dJ0_init_031fb_6 (fun H locs hP hD hS => ?_)
  have hP : va_P (dC, dI) vwCl [(h0, .inr (0, [.ref h1, v1, v2, v3]))] H := hP
  have hD : va_D A [(h0, .inr (0, [.ref h1, v1, v2, v3]))] := hD
  refine lv_aload_n hx hb dJ0_init_031fb_9 rfl (lv_at hl 0 rfl) ?_
  refine lv_iload_n hx hb dJ0_init_031fb_10 rfl (lv_at hl 2 rfl) ?_
  refine va_putF (D := (dC, dI)) (ci := 0) (v := .int 0) (ty := .byte) (C := RJ0) (T := TJ0) (N := 4) hx hb hta naJ0 tyJ0 tyJ0_ok nmJ0 hown hK hP hD hS 0 rfl rfl 1 (by decide) (hta _ wm324) (fun _ h9 => h9) rfl hin rfl (by decide +kernel) rfl rfl (Nat.le_of_ble_eq_true rfl) dJ0_init_031fb_11 (fun H locs hP hD hS => ?_)
  have hP : va_P (dC, dI) vwCl [(h0, .inr (0, [.ref h1, .int 0, v2, v3]))] H := hP
  have hD : va_D A [(h0, .inr (0, [.ref h1, .int 0, v2, v3]))] := hD
  have hP9 := hP.sub (ws' := [(h0, .inr (0, [.ref h1, .int 0, v2, v3]))]) [0] rfl
  have hD9 := hD.sub (ws' := [(h0, .inr (0, [.ref h1, .int 0, v2, v3]))]) [0] (by decide) rfl
  have hK9 := hK.sub (tys' := []) [] rfl
  refine W.widen (k := 0) (n := 0) (Nat.le_of_ble_eq_true rfl) (Nat.le_of_ble_eq_true rfl) ?_
  exact W.vret hx hb hr (fun t ht hW => ⟨⟨(), rfl, trivial, by rw [ht]; exact hP9, va_K.moved hW.alike hK9, hD9⟩, hS.F ht⟩) hS.2.2 dJ0_init_031fb_14
set_option maxHeartbeats 4000000 in
set_option maxRecDepth 100000 in
theorem kX9_stateOf_5 (l : Launch) (dC : Nat → ClassId) (dI : Nat → Nat → Nat) (g : Nat → Nat) (sz : Nat) (h0 : Nat) (v0 : Value) (v1 : Value) (v2 : Value) (v3 : Value) (v4 : Value) (v5 : Value) (v6 : Value) (v7 : Value) (v8 : Value) (v9 : Value) (v10 : Value) (v11 : Value) (v12 : Value) (v13 : Value) (v14 : Value) : Met l yX9_stateOf wbX9_stateOf ({ frames := 0, cells := 0, slots := 0, locals := 0 }) (va_Pc [.ref h0, .int 4] (fun U => U.heap.size = sz ∧ va_P (dC, dI) vwCl [(h0, .inr (16, [v0, v1, v2, v3, v4, v5, v6, v7, v8, v9, v10, v11, v12, .int 0, v13, v14]))] U.heap ∧ va_K (dC, dI) vwCl [] U ∧ va_D (fun _ => True) [(h0, .inr (16, [v0, v1, v2, v3, v4, v5, v6, v7, v8, v9, v10, v11, v12, .int 0, v13, v14]))] ∧ ns_F g (va_A [(h0, .inr (16, [v0, v1, v2, v3, v4, v5, v6, v7, v8, v9, v10, v11, v12, .int 0, v13, v14]))] sz) U U.heap)) (va_Qi (fun (r : Int32) (_ : Unit) => r = 0) (fun _ t => va_P (dC, dI) vwCl [(h0, .inr (16, [v0, v1, v2, v3, v4, v5, v6, v7, v8, v9, v10, v11, v12, .int 0, v13, v14]))] t.heap ∧ va_K (dC, dI) vwCl [] t ∧ va_D (va_A [(h0, .inr (16, [v0, v1, v2, v3, v4, v5, v6, v7, v8, v9, v10, v11, v12, .int 0, v13, v14]))] sz) [(h0, .inr (16, [v0, v1, v2, v3, v4, v5, v6, v7, v8, v9, v10, v11, v12, .int 0, v13, v14]))]) (va_A [(h0, .inr (16, [v0, v1, v2, v3, v4, v5, v6, v7, v8, v9, v10, v11, v12, .int 0, v13, v14]))] sz)) 0 0 (va_A [(h0, .inr (16, [v0, v1, v2, v3, v4, v5, v6, v7, v8, v9, v10, v11, v12, .int 0, v13, v14]))] sz) := by
  refine Met.ofW (cc := cX9_stateOf) (maxL := 2) (ret := (some .int)) (by decide) rfl ?_
  intro p e s m args below meth c s₁ B hml hv
  obtain ⟨rfl, hsz, hP, hK, hD0, hF⟩ := hv
  have hx := B.exec
  have hb := B.bytes
  have hr := B.returns
  have hts := atoms_spec (ws := wbX9_stateOf) B.pre
  have hta : ∀ w ∈ wsALL, w.before _ s = true := fun w h => hts w (List.mem_cons_of_mem _ h)
  have hown : s.vm.findClass RX9 = some m.cls := findClass_of_methodNamed B.named
  have hlocks := B.notSynchronized
  subst hsz
  have hD := hD0.self (sz := s.heap.size)
  generalize hAe : va_A [(h0, .inr (16, [v0, v1, v2, v3, v4, v5, v6, v7, v8, v9, v10, v11, v12, .int 0, v13, v14]))] s.heap.size = A at hD hF ⊢
  have hA : ∀ q : Nat, s.heap.size ≤ q → A q := fun q h => by rw [← hAe]; exact Or.inr h
  have hS : va_S A s.heap s.heap [] := va_S.rf
  have hP : va_P (dC, dI) vwCl [(h0, .inr (16, [v0, v1, v2, v3, v4, v5, v6, v7, v8, v9, v10, v11, v12, .int 0, v13, v14]))] s.heap := hP
  have hl := lv_entry ([.ref h0, .int 4]) (n := 2) (Nat.le_of_ble_eq_true rfl)
  rw [lg_entry_eq]
  generalize (lg_sl ([.ref h0, .int 4]) ++ List.replicate (2 - (lg_sl ([.ref h0, .int 4])).length) Slot.unset).toArray = ls at hl ⊢
  have hl : lv_has ls 2 [(0, .ref h0), (1, .int 4)] := hl
  refine lv_iload_n hx hb dX9_stateOf_0 rfl (lv_at hl 1 rfl) ?_
  refine lv_tableIn (off := 69) (tgt := 70) hx hb dX9_stateOf_1 (by decide) (by decide) (by decide) (by decide) ?_
  refine lv_aload_n hx hb dX9_stateOf_70 rfl (lv_at hl 0 rfl) ?_
  refine va_get (D := (dC, dI)) (ci := 16) (v := .int 0) (C := RX9) (T := TX9) (N := 16) hx hb hta naX9 hown hK hP 0 rfl rfl 13 (by decide) (hta _ wm170) (fun _ h9 => h9) rfl dX9_stateOf_71 ?_
  have hP9 := hP.sub (ws' := [(h0, .inr (16, [v0, v1, v2, v3, v4, v5, v6, v7, v8, v9, v10, v11, v12, .int 0, v13, v14]))]) [0] rfl
  have hD9 := hD.sub (ws' := [(h0, .inr (16, [v0, v1, v2, v3, v4, v5, v6, v7, v8, v9, v10, v11, v12, .int 0, v13, v14]))]) [0] (by decide) rfl
  have hK9 := hK.sub (tys' := []) [] rfl
  refine W.widen (k := 0) (n := 0) (Nat.le_of_ble_eq_true rfl) (Nat.le_of_ble_eq_true rfl) ?_
  exact W.iret (v := 0) hx hb hr (fun t ht hW => ⟨⟨_, (), rfl, rfl, by rw [ht]; exact hP9, va_K.moved hW.alike hK9, hD9⟩, hS.F ht⟩) hS.2.2 dX9_stateOf_74
set_option maxHeartbeats 4000000 in
set_option maxRecDepth 100000 in
theorem kX9_word_29 (l : Launch) (dC : Nat → ClassId) (dI : Nat → Nat → Nat) (g : Nat → Nat) (sz : Nat) (h0 : Nat) (x0 : Int32) (ex0 : (26 : Int) ≤ x0.toInt ∧ x0.toInt ≤ (2147483647 : Int)) (hlt : l.stackTraces = false) : vx_Met l yX9_word wbX9_word ({ frames := 6, cells := 1, slots := 6, locals := 82 }) (va_Pc [.ref h0, .int x0, .int 6] (fun U => U.heap.size = sz ∧ va_P (dC, dI) vwCl [] U.heap ∧ va_K (dC, dI) vwCl [] U ∧ va_D (fun _ => True) [] ∧ ns_F g (va_A [] sz) U U.heap)) (va_Qv (fun _ : Unit => False) (fun _ _ => True) (va_A [] sz)) (vx_X (fun _ : Unit => True) (fun E _ _ => E = "java/lang/IllegalArgumentException") (va_A [] sz)) 1 6 (va_A [] sz) := by
  refine vx_ofW (cc := cX9_word) (maxL := 4) (ret := (some .int)) (by decide) rfl ?_
  intro p e s m args below meth c s₁ B hml hnox hv
  obtain ⟨rfl, hsz, hP, hK, hD0, hF⟩ := hv
  have hx := B.exec
  have hb := B.bytes
  have hr := B.returns
  have hts := atoms_spec (ws := wbX9_word) B.pre
  have hta : ∀ w ∈ wsALL, w.before _ s = true := fun w h => hts w (List.mem_cons_of_mem _ h)
  have hown : s.vm.findClass RX9 = some m.cls := findClass_of_methodNamed B.named
  have hlocks := B.notSynchronized
  subst hsz
  have hD := hD0.self (sz := s.heap.size)
  generalize hAe : va_A [] s.heap.size = A at hD hF ⊢
  have hA : ∀ q : Nat, s.heap.size ≤ q → A q := fun q h => by rw [← hAe]; exact Or.inr h
  have hS : va_S A s.heap s.heap [] := va_S.rf
  have hP : va_P (dC, dI) vwCl [] s.heap := hP
  have hl := lv_entry ([.ref h0, .int x0, .int 6]) (n := 4) (Nat.le_of_ble_eq_true rfl)
  rw [lg_entry_eq]
  generalize (lg_sl ([.ref h0, .int x0, .int 6]) ++ List.replicate (4 - (lg_sl ([.ref h0, .int x0, .int 6])).length) Slot.unset).toArray = ls at hl ⊢
  have hl : lv_has ls 4 [(0, .ref h0), (1, .int x0), (2, .int 6)] := hl
  refine lv_iload_n hx hb dX9_word_0 rfl (lv_at hl 1 rfl) ?_
  refine lv_if_lt (tgt := 10) hx hb dX9_word_1 (by decide) (fun c1 => absurd c1 (fun z => absurd (show x0.toInt < (0 : Int) from Int32.lt_iff_toInt_lt.mp z) (by omega))) (fun c1 => ?_)
  refine lv_iload_n hx hb dX9_word_4 rfl (lv_at hl 1 rfl) ?_
  refine lv_bipush (v := 25) hx hb dX9_word_5 (by decide) ?_
  refine lv_icmp_le (tgt := 20) hx hb dX9_word_7 (by decide) (fun c2 => absurd c2 (fun z => absurd (show x0.toInt ≤ (25 : Int) from Int32.le_iff_toInt_le.mp z) (by omega))) (fun c2 => ?_)
  exact vx_throwS hx hb hlt (text := "letter is 0 to 25") (sa := (g 10)) (names := ["java/lang/RuntimeException", "java/lang/Exception"]) hown (by decide) (by decide) (hta _ wm225) (hta _ wm226) (ns_f21 hF) (vx_hat (B := [.declares ⟨"java/lang/RuntimeException", "<init>", "(Ljava/lang/String;)V"⟩, .declares ⟨"java/lang/Exception", "<init>", "(Ljava/lang/String;)V"⟩, .declares ⟨"java/lang/Throwable", "<init>", "(Ljava/lang/String;)V"⟩, .castable "java/lang/IllegalArgumentException" "java/lang/IllegalArgumentException"]) (fun w9 h9 => hta w9 (vm0 w9 h9)) (by decide +kernel) (vx_c (va_Nw.use rfl (ns_f12 hF)) (vx_c (va_Nw.use rfl (ns_f13 hF)) (vx_c (va_Nw.use rfl (ns_f14 hF)) (vx_c (va_Nw.use rfl (ns_f11 hF)) vx_n))))) (by decide +kernel) (ns_f18 hF) (ns_f19 hF) hS (by rw [hml]; exact hl.1) dX9_word_10 dX9_word_13 dX9_word_14 dX9_word_16 dX9_word_19 (fun x hx => (hnox x hx).elim) (Nat.le_of_ble_eq_true rfl) (Nat.le_of_ble_eq_true rfl) (Nat.le_of_ble_eq_true rfl) (Nat.le_of_ble_eq_true rfl) hlocks (fun t9 hal hsz9 hk9 => ⟨(), trivial, rfl, Nat.le_trans hS.1 hsz9, fun q hq1 hq2 => (hk9 q (Nat.lt_of_lt_of_le hq1 hS.1)).trans (hS.2.1 q hq1 hq2)⟩) hS.2.2 (Nat.le_of_ble_eq_true rfl) (Nat.le_of_ble_eq_true rfl)
set_option maxHeartbeats 4000000 in
set_option maxRecDepth 100000 in
theorem kX9_word_11 (l : Launch) (dC : Nat → ClassId) (dI : Nat → Nat → Nat) (g : Nat → Nat) (sz : Nat) (h0 : Nat) (x0 : Int32) (x1 : Int32) (ex0 : (-2147483648 : Int) ≤ x0.toInt ∧ x0.toInt ≤ (-1 : Int)) (ex1 : (10 : Int) ≤ x1.toInt ∧ x1.toInt ≤ (2147483647 : Int)) (hlt : l.stackTraces = false) : vx_Met l yX9_word wbX9_word ({ frames := 6, cells := 1, slots := 6, locals := 82 }) (va_Pc [.ref h0, .int x0, .int x1] (fun U => U.heap.size = sz ∧ va_P (dC, dI) vwCl [] U.heap ∧ va_K (dC, dI) vwCl [] U ∧ va_D (fun _ => True) [] ∧ ns_F g (va_A [] sz) U U.heap)) (va_Qv (fun _ : Unit => False) (fun _ _ => True) (va_A [] sz)) (vx_X (fun _ : Unit => True) (fun E _ _ => E = "java/lang/IllegalArgumentException") (va_A [] sz)) 1 6 (va_A [] sz) := by
  refine vx_ofW (cc := cX9_word) (maxL := 4) (ret := (some .int)) (by decide) rfl ?_
  intro p e s m args below meth c s₁ B hml hnox hv
  obtain ⟨rfl, hsz, hP, hK, hD0, hF⟩ := hv
  have hx := B.exec
  have hb := B.bytes
  have hr := B.returns
  have hts := atoms_spec (ws := wbX9_word) B.pre
  have hta : ∀ w ∈ wsALL, w.before _ s = true := fun w h => hts w (List.mem_cons_of_mem _ h)
  have hown : s.vm.findClass RX9 = some m.cls := findClass_of_methodNamed B.named
  have hlocks := B.notSynchronized
  subst hsz
  have hD := hD0.self (sz := s.heap.size)
  generalize hAe : va_A [] s.heap.size = A at hD hF ⊢
  have hA : ∀ q : Nat, s.heap.size ≤ q → A q := fun q h => by rw [← hAe]; exact Or.inr h
  have hS : va_S A s.heap s.heap [] := va_S.rf
  have hP : va_P (dC, dI) vwCl [] s.heap := hP
  have hl := lv_entry ([.ref h0, .int x0, .int x1]) (n := 4) (Nat.le_of_ble_eq_true rfl)
  rw [lg_entry_eq]
  generalize (lg_sl ([.ref h0, .int x0, .int x1]) ++ List.replicate (4 - (lg_sl ([.ref h0, .int x0, .int x1])).length) Slot.unset).toArray = ls at hl ⊢
  have hl : lv_has ls 4 [(0, .ref h0), (1, .int x0), (2, .int x1)] := hl
  refine lv_iload_n hx hb dX9_word_0 rfl (lv_at hl 1 rfl) ?_
  refine lv_if_lt (tgt := 10) hx hb dX9_word_1 (by decide) (fun c1 => ?_) (fun c1 => absurd (show x0 < (0 : Int32) from Int32.lt_iff_toInt_lt.mpr (show x0.toInt < (0 : Int) by omega)) c1)
  exact vx_throwS hx hb hlt (text := "letter is 0 to 25") (sa := (g 10)) (names := ["java/lang/RuntimeException", "java/lang/Exception"]) hown (by decide) (by decide) (hta _ wm225) (hta _ wm226) (ns_f21 hF) (vx_hat (B := [.declares ⟨"java/lang/RuntimeException", "<init>", "(Ljava/lang/String;)V"⟩, .declares ⟨"java/lang/Exception", "<init>", "(Ljava/lang/String;)V"⟩, .declares ⟨"java/lang/Throwable", "<init>", "(Ljava/lang/String;)V"⟩, .castable "java/lang/IllegalArgumentException" "java/lang/IllegalArgumentException"]) (fun w9 h9 => hta w9 (vm0 w9 h9)) (by decide +kernel) (vx_c (va_Nw.use rfl (ns_f12 hF)) (vx_c (va_Nw.use rfl (ns_f13 hF)) (vx_c (va_Nw.use rfl (ns_f14 hF)) (vx_c (va_Nw.use rfl (ns_f11 hF)) vx_n))))) (by decide +kernel) (ns_f18 hF) (ns_f19 hF) hS (by rw [hml]; exact hl.1) dX9_word_10 dX9_word_13 dX9_word_14 dX9_word_16 dX9_word_19 (fun x hx => (hnox x hx).elim) (Nat.le_of_ble_eq_true rfl) (Nat.le_of_ble_eq_true rfl) (Nat.le_of_ble_eq_true rfl) (Nat.le_of_ble_eq_true rfl) hlocks (fun t9 hal hsz9 hk9 => ⟨(), trivial, rfl, Nat.le_trans hS.1 hsz9, fun q hq1 hq2 => (hk9 q (Nat.lt_of_lt_of_le hq1 hS.1)).trans (hS.2.1 q hq1 hq2)⟩) hS.2.2 (Nat.le_of_ble_eq_true rfl) (Nat.le_of_ble_eq_true rfl)
set_option maxHeartbeats 4000000 in
set_option maxRecDepth 100000 in
theorem kX9_word_6 (l : Launch) (dC : Nat → ClassId) (dI : Nat → Nat → Nat) (g : Nat → Nat) (sz : Nat) (h0 : Nat) (x0 : Int32) (ex0 : (-2147483648 : Int) ≤ x0.toInt ∧ x0.toInt ≤ (-1 : Int)) (hlt : l.stackTraces = false) : vx_Met l yX9_word wbX9_word ({ frames := 6, cells := 1, slots := 6, locals := 82 }) (va_Pc [.ref h0, .int x0, .int 5] (fun U => U.heap.size = sz ∧ va_P (dC, dI) vwCl [] U.heap ∧ va_K (dC, dI) vwCl [] U ∧ va_D (fun _ => True) [] ∧ ns_F g (va_A [] sz) U U.heap)) (va_Qv (fun _ : Unit => False) (fun _ _ => True) (va_A [] sz)) (vx_X (fun _ : Unit => True) (fun E _ _ => E = "java/lang/IllegalArgumentException") (va_A [] sz)) 1 6 (va_A [] sz) := by
  refine vx_ofW (cc := cX9_word) (maxL := 4) (ret := (some .int)) (by decide) rfl ?_
  intro p e s m args below meth c s₁ B hml hnox hv
  obtain ⟨rfl, hsz, hP, hK, hD0, hF⟩ := hv
  have hx := B.exec
  have hb := B.bytes
  have hr := B.returns
  have hts := atoms_spec (ws := wbX9_word) B.pre
  have hta : ∀ w ∈ wsALL, w.before _ s = true := fun w h => hts w (List.mem_cons_of_mem _ h)
  have hown : s.vm.findClass RX9 = some m.cls := findClass_of_methodNamed B.named
  have hlocks := B.notSynchronized
  subst hsz
  have hD := hD0.self (sz := s.heap.size)
  generalize hAe : va_A [] s.heap.size = A at hD hF ⊢
  have hA : ∀ q : Nat, s.heap.size ≤ q → A q := fun q h => by rw [← hAe]; exact Or.inr h
  have hS : va_S A s.heap s.heap [] := va_S.rf
  have hP : va_P (dC, dI) vwCl [] s.heap := hP
  have hl := lv_entry ([.ref h0, .int x0, .int 5]) (n := 4) (Nat.le_of_ble_eq_true rfl)
  rw [lg_entry_eq]
  generalize (lg_sl ([.ref h0, .int x0, .int 5]) ++ List.replicate (4 - (lg_sl ([.ref h0, .int x0, .int 5])).length) Slot.unset).toArray = ls at hl ⊢
  have hl : lv_has ls 4 [(0, .ref h0), (1, .int x0), (2, .int 5)] := hl
  refine lv_iload_n hx hb dX9_word_0 rfl (lv_at hl 1 rfl) ?_
  refine lv_if_lt (tgt := 10) hx hb dX9_word_1 (by decide) (fun c1 => ?_) (fun c1 => absurd (show x0 < (0 : Int32) from Int32.lt_iff_toInt_lt.mpr (show x0.toInt < (0 : Int) by omega)) c1)
  exact vx_throwS hx hb hlt (text := "letter is 0 to 25") (sa := (g 10)) (names := ["java/lang/RuntimeException", "java/lang/Exception"]) hown (by decide) (by decide) (hta _ wm225) (hta _ wm226) (ns_f21 hF) (vx_hat (B := [.declares ⟨"java/lang/RuntimeException", "<init>", "(Ljava/lang/String;)V"⟩, .declares ⟨"java/lang/Exception", "<init>", "(Ljava/lang/String;)V"⟩, .declares ⟨"java/lang/Throwable", "<init>", "(Ljava/lang/String;)V"⟩, .castable "java/lang/IllegalArgumentException" "java/lang/IllegalArgumentException"]) (fun w9 h9 => hta w9 (vm0 w9 h9)) (by decide +kernel) (vx_c (va_Nw.use rfl (ns_f12 hF)) (vx_c (va_Nw.use rfl (ns_f13 hF)) (vx_c (va_Nw.use rfl (ns_f14 hF)) (vx_c (va_Nw.use rfl (ns_f11 hF)) vx_n))))) (by decide +kernel) (ns_f18 hF) (ns_f19 hF) hS (by rw [hml]; exact hl.1) dX9_word_10 dX9_word_13 dX9_word_14 dX9_word_16 dX9_word_19 (fun x hx => (hnox x hx).elim) (Nat.le_of_ble_eq_true rfl) (Nat.le_of_ble_eq_true rfl) (Nat.le_of_ble_eq_true rfl) (Nat.le_of_ble_eq_true rfl) hlocks (fun t9 hal hsz9 hk9 => ⟨(), trivial, rfl, Nat.le_trans hS.1 hsz9, fun q hq1 hq2 => (hk9 q (Nat.lt_of_lt_of_le hq1 hS.1)).trans (hS.2.1 q hq1 hq2)⟩) hS.2.2 (Nat.le_of_ble_eq_true rfl) (Nat.le_of_ble_eq_true rfl)
set_option maxHeartbeats 4000000 in
set_option maxRecDepth 100000 in
theorem kX16_codeTold_2 (l : Launch) (dC : Nat → ClassId) (dI : Nat → Nat → Nat) (g : Nat → Nat) (sz : Nat) (h0 : Nat) (v0 : Value) (v1 : Value) (v2 : Value) (v3 : Value) (v4 : Value) (v5 : Value) (v6 : Value) (v7 : Value) : Met l yX16_codeTold wbX16_codeTold ({ frames := 0, cells := 0, slots := 0, locals := 0 }) (va_Pc [.ref h0, .int 0] (fun U => U.heap.size = sz ∧ va_P (dC, dI) vwCl [(h0, .inr (23, [v0, v1, v2, v3, v4, .null, v5, v6, v7]))] U.heap ∧ va_K (dC, dI) vwCl [] U ∧ va_D (fun _ => True) [(h0, .inr (23, [v0, v1, v2, v3, v4, .null, v5, v6, v7]))] ∧ ns_F g (va_A [(h0, .inr (23, [v0, v1, v2, v3, v4, .null, v5, v6, v7]))] sz) U U.heap)) (va_Qi (fun (r : Int32) (_ : Unit) => r = 0) (fun _ t => va_P (dC, dI) vwCl [(h0, .inr (23, [v0, v1, v2, v3, v4, .null, v5, v6, v7]))] t.heap ∧ va_K (dC, dI) vwCl [] t ∧ va_D (va_A [(h0, .inr (23, [v0, v1, v2, v3, v4, .null, v5, v6, v7]))] sz) [(h0, .inr (23, [v0, v1, v2, v3, v4, .null, v5, v6, v7]))]) (va_A [(h0, .inr (23, [v0, v1, v2, v3, v4, .null, v5, v6, v7]))] sz)) 0 0 (va_A [(h0, .inr (23, [v0, v1, v2, v3, v4, .null, v5, v6, v7]))] sz) := by
  refine Met.ofW (cc := cX16_codeTold) (maxL := 4) (ret := (some .int)) (by decide) rfl ?_
  intro p e s m args below meth c s₁ B hml hv
  obtain ⟨rfl, hsz, hP, hK, hD0, hF⟩ := hv
  have hx := B.exec
  have hb := B.bytes
  have hr := B.returns
  have hts := atoms_spec (ws := wbX16_codeTold) B.pre
  have hta : ∀ w ∈ wsALL, w.before _ s = true := fun w h => hts w (List.mem_cons_of_mem _ h)
  have hown : s.vm.findClass RX16 = some m.cls := findClass_of_methodNamed B.named
  have hlocks := B.notSynchronized
  subst hsz
  have hD := hD0.self (sz := s.heap.size)
  generalize hAe : va_A [(h0, .inr (23, [v0, v1, v2, v3, v4, .null, v5, v6, v7]))] s.heap.size = A at hD hF ⊢
  have hA : ∀ q : Nat, s.heap.size ≤ q → A q := fun q h => by rw [← hAe]; exact Or.inr h
  have hS : va_S A s.heap s.heap [] := va_S.rf
  have hP : va_P (dC, dI) vwCl [(h0, .inr (23, [v0, v1, v2, v3, v4, .null, v5, v6, v7]))] s.heap := hP
  have hl := lv_entry ([.ref h0, .int 0]) (n := 4) (Nat.le_of_ble_eq_true rfl)
  rw [lg_entry_eq]
  generalize (lg_sl ([.ref h0, .int 0]) ++ List.replicate (4 - (lg_sl ([.ref h0, .int 0])).length) Slot.unset).toArray = ls at hl ⊢
  have hl : lv_has ls 4 [(0, .ref h0), (1, .int 0)] := hl
  refine lv_aload_n hx hb dX16_codeTold_0 rfl (lv_at hl 0 rfl) ?_
  refine va_get (D := (dC, dI)) (ci := 23) (v := .null) (C := RX16) (T := TX16) (N := 9) hx hb hta naX16 hown hK hP 0 rfl rfl 5 (by decide) (hta _ wm947) (fun _ h9 => h9) rfl dX16_codeTold_1 ?_
  refine lv_ifnonnullN hx hb dX16_codeTold_4 ?_
  refine lv_iconst (v := 0) hx hb dX16_codeTold_7 (by decide) ?_
  have hP9 := hP.sub (ws' := [(h0, .inr (23, [v0, v1, v2, v3, v4, .null, v5, v6, v7]))]) [0] rfl
  have hD9 := hD.sub (ws' := [(h0, .inr (23, [v0, v1, v2, v3, v4, .null, v5, v6, v7]))]) [0] (by decide) rfl
  have hK9 := hK.sub (tys' := []) [] rfl
  refine W.widen (k := 0) (n := 0) (Nat.le_of_ble_eq_true rfl) (Nat.le_of_ble_eq_true rfl) ?_
  exact W.iret (v := 0) hx hb hr (fun t ht hW => ⟨⟨_, (), rfl, rfl, by rw [ht]; exact hP9, va_K.moved hW.alike hK9, hD9⟩, hS.F ht⟩) hS.2.2 dX16_codeTold_8
set_option maxHeartbeats 4000000 in
set_option maxRecDepth 100000 in
theorem kJ3_checkFromToIndex_8c36e_3 (l : Launch) (dC : Nat → ClassId) (dI : Nat → Nat → Nat) (g : Nat → Nat) (sz : Nat)  : Met l yJ3_checkFromToIndex_8c36e wbJ3_checkFromToIndex_8c36e ({ frames := 0, cells := 0, slots := 0, locals := 0 }) (va_Pc [.int 0, .int 1, .int 2, .null] (fun U => U.heap.size = sz ∧ va_P (dC, dI) vwCl [] U.heap ∧ va_K (dC, dI) vwCl [] U ∧ va_D (fun _ => True) [] ∧ ns_F g (va_A [] sz) U U.heap)) (va_Qi (fun (r : Int32) (_ : Unit) => r = 0) (fun _ t => va_P (dC, dI) vwCl [] t.heap ∧ va_K (dC, dI) vwCl [] t ∧ va_D (va_A [] sz) []) (va_A [] sz)) 0 0 (va_A [] sz) := by
  refine Met.ofW (cc := cJ3_checkFromToIndex_8c36e) (maxL := 4) (ret := (some .int)) (by decide) rfl ?_
  intro p e s m args below meth c s₁ B hml hv
  obtain ⟨rfl, hsz, hP, hK, hD0, hF⟩ := hv
  have hx := B.exec
  have hb := B.bytes
  have hr := B.returns
  have hts := atoms_spec (ws := wbJ3_checkFromToIndex_8c36e) B.pre
  have hta : ∀ w ∈ wsALL, w.before _ s = true := fun w h => hts w (List.mem_cons_of_mem _ h)
  have hown : s.vm.findClass RJ3 = some m.cls := findClass_of_methodNamed B.named
  have hlocks := B.notSynchronized
  subst hsz
  have hD := hD0.self (sz := s.heap.size)
  generalize hAe : va_A [] s.heap.size = A at hD hF ⊢
  have hA : ∀ q : Nat, s.heap.size ≤ q → A q := fun q h => by rw [← hAe]; exact Or.inr h
  have hS : va_S A s.heap s.heap [] := va_S.rf
  have hP : va_P (dC, dI) vwCl [] s.heap := hP
  have hl := lv_entry ([.int 0, .int 1, .int 2, .null]) (n := 4) (Nat.le_of_ble_eq_true rfl)
  rw [lg_entry_eq]
  generalize (lg_sl ([.int 0, .int 1, .int 2, .null]) ++ List.replicate (4 - (lg_sl ([.int 0, .int 1, .int 2, .null])).length) Slot.unset).toArray = ls at hl ⊢
  have hl : lv_has ls 4 [(0, .int 0), (1, .int 1), (2, .int 2), (3, .null)] := hl
  refine lv_iload_n hx hb dJ3_checkFromToIndex_8c36e_0 rfl (lv_at hl 0 rfl) ?_
  refine lv_if_lt (tgt := 14) hx hb dJ3_checkFromToIndex_8c36e_1 (by decide) (fun c1 => absurd c1 (by decide)) (fun c1 => ?_)
  refine lv_iload_n hx hb dJ3_checkFromToIndex_8c36e_4 rfl (lv_at hl 0 rfl) ?_
  refine lv_iload_n hx hb dJ3_checkFromToIndex_8c36e_5 rfl (lv_at hl 1 rfl) ?_
  refine lv_icmp_gt (tgt := 14) hx hb dJ3_checkFromToIndex_8c36e_6 (by decide) (fun c2 => absurd c2 (by decide)) (fun c2 => ?_)
  refine lv_iload_n hx hb dJ3_checkFromToIndex_8c36e_9 rfl (lv_at hl 1 rfl) ?_
  refine lv_iload_n hx hb dJ3_checkFromToIndex_8c36e_10 rfl (lv_at hl 2 rfl) ?_
  refine lv_icmp_le (tgt := 22) hx hb dJ3_checkFromToIndex_8c36e_11 (by decide) (fun c3 => ?_) (fun c3 => absurd (by decide) c3)
  refine lv_iload_n hx hb dJ3_checkFromToIndex_8c36e_22 rfl (lv_at hl 0 rfl) ?_
  have hP9 := hP.sub (ws' := []) [] rfl
  have hD9 := hD.sub (ws' := []) [] (by decide) rfl
  have hK9 := hK.sub (tys' := []) [] rfl
  refine W.widen (k := 0) (n := 0) (Nat.le_of_ble_eq_true rfl) (Nat.le_of_ble_eq_true rfl) ?_
  exact W.iret (v := 0) hx hb hr (fun t ht hW => ⟨⟨_, (), rfl, rfl, by rw [ht]; exact hP9, va_K.moved hW.alike hK9, hD9⟩, hS.F ht⟩) hS.2.2 dJ3_checkFromToIndex_8c36e_23
set_option maxHeartbeats 4000000 in
set_option maxRecDepth 100000 in
theorem kJ5_getValue_6d5f1 (l : Launch) (dC : Nat → ClassId) (dI : Nat → Nat → Nat) (g : Nat → Nat) (sz : Nat) (h0 : Nat) (h1 : Nat) (v0 : Value) (v1 : Value) (v2 : Value) : Met l yJ5_getValue_6d5f1 wbJ5_getValue_6d5f1 ({ frames := 0, cells := 0, slots := 0, locals := 0 }) (va_Pc [.ref h0] (fun U => U.heap.size = sz ∧ va_P (dC, dI) vwCl [(h0, .inr (1, [.ref h1, v0, v1, v2]))] U.heap ∧ va_K (dC, dI) vwCl [] U ∧ va_D (fun _ => True) [(h0, .inr (1, [.ref h1, v0, v1, v2]))] ∧ ns_F g (va_A [(h0, .inr (1, [.ref h1, v0, v1, v2]))] sz) U U.heap)) (va_Qr (fun _ : Unit => True) (fun _ r t => r = h1 ∧ va_P (dC, dI) vwCl [(h0, .inr (1, [.ref h1, v0, v1, v2]))] t.heap ∧ va_K (dC, dI) vwCl [] t ∧ va_D (va_A [(h0, .inr (1, [.ref h1, v0, v1, v2]))] sz) [(h0, .inr (1, [.ref h1, v0, v1, v2]))]) (va_A [(h0, .inr (1, [.ref h1, v0, v1, v2]))] sz)) 0 0 (va_A [(h0, .inr (1, [.ref h1, v0, v1, v2]))] sz) := by
  refine Met.ofW (cc := cJ5_getValue_6d5f1) (maxL := 1) (ret := (some (.array .byte))) (by decide) rfl ?_
  intro p e s m args below meth c s₁ B hml hv
  obtain ⟨rfl, hsz, hP, hK, hD0, hF⟩ := hv
  have hx := B.exec
  have hb := B.bytes
  have hr := B.returns
  have hts := atoms_spec (ws := wbJ5_getValue_6d5f1) B.pre
  have hta : ∀ w ∈ wsALL, w.before _ s = true := fun w h => hts w (List.mem_cons_of_mem _ h)
  have hown : s.vm.findClass RJ5 = some m.cls := findClass_of_methodNamed B.named
  have hlocks := B.notSynchronized
  subst hsz
  have hD := hD0.self (sz := s.heap.size)
  generalize hAe : va_A [(h0, .inr (1, [.ref h1, v0, v1, v2]))] s.heap.size = A at hD hF ⊢
  have hA : ∀ q : Nat, s.heap.size ≤ q → A q := fun q h => by rw [← hAe]; exact Or.inr h
  have hS : va_S A s.heap s.heap [] := va_S.rf
  have hP : va_P (dC, dI) vwCl [(h0, .inr (1, [.ref h1, v0, v1, v2]))] s.heap := hP
  have hl := lv_entry ([.ref h0]) (n := 1) (Nat.le_of_ble_eq_true rfl)
  rw [lg_entry_eq]
  generalize (lg_sl ([.ref h0]) ++ List.replicate (1 - (lg_sl ([.ref h0])).length) Slot.unset).toArray = ls at hl ⊢
  have hl : lv_has ls 1 [(0, .ref h0)] := hl
  refine lv_aload_n hx hb dJ5_getValue_6d5f1_0 rfl (lv_at hl 0 rfl) ?_
  refine va_get (D := (dC, dI)) (ci := 1) (v := .ref h1) (C := RJ4) (T := TJ4) (N := 4) hx hb hta naJ4 hown hK hP 0 rfl rfl 0 (by decide) (hta _ wm141) (fun _ h9 => h9) rfl dJ5_getValue_6d5f1_1 ?_
  have hP9 := hP.sub (ws' := [(h0, .inr (1, [.ref h1, v0, v1, v2]))]) [0] rfl
  have hD9 := hD.sub (ws' := [(h0, .inr (1, [.ref h1, v0, v1, v2]))]) [0] (by decide) rfl
  have hK9 := hK.sub (tys' := []) [] rfl
  refine W.widen (k := 0) (n := 0) (Nat.le_of_ble_eq_true rfl) (Nat.le_of_ble_eq_true rfl) ?_
  exact W.aret (v := .ref h1) hx hb hr (by first | exact Or.inl ⟨_, rfl⟩ | exact Or.inr ⟨_, rfl⟩) (Or.inr ⟨_, rfl⟩) (fun t ht hW => ⟨⟨(), _, rfl, trivial, rfl, by rw [ht]; exact hP9, va_K.moved hW.alike hK9, hD9⟩, hS.F ht⟩) hS.2.2 dJ5_getValue_6d5f1_4
set_option maxHeartbeats 4000000 in
set_option maxRecDepth 100000 in
theorem kJ5_length_8abf5_4 (l : Launch) (dC : Nat → ClassId) (dI : Nat → Nat → Nat) (g : Nat → Nat) (sz : Nat) (h0 : Nat) (v0 : Value) (v1 : Value) (v2 : Value) : Met l yJ5_length_8abf5 wbJ5_length_8abf5 ({ frames := 0, cells := 0, slots := 0, locals := 0 }) (va_Pc [.ref h0] (fun U => U.heap.size = sz ∧ va_P (dC, dI) vwCl [(h0, .inr (1, [v0, v1, v2, .int 4]))] U.heap ∧ va_K (dC, dI) vwCl [] U ∧ va_D (fun _ => True) [(h0, .inr (1, [v0, v1, v2, .int 4]))] ∧ ns_F g (va_A [(h0, .inr (1, [v0, v1, v2, .int 4]))] sz) U U.heap)) (va_Qi (fun (r : Int32) (_ : Unit) => r = 4) (fun _ t => va_P (dC, dI) vwCl [(h0, .inr (1, [v0, v1, v2, .int 4]))] t.heap ∧ va_K (dC, dI) vwCl [] t ∧ va_D (va_A [(h0, .inr (1, [v0, v1, v2, .int 4]))] sz) [(h0, .inr (1, [v0, v1, v2, .int 4]))]) (va_A [(h0, .inr (1, [v0, v1, v2, .int 4]))] sz)) 0 0 (va_A [(h0, .inr (1, [v0, v1, v2, .int 4]))] sz) := by
  refine Met.ofW (cc := cJ5_length_8abf5) (maxL := 1) (ret := (some .int)) (by decide) rfl ?_
  intro p e s m args below meth c s₁ B hml hv
  obtain ⟨rfl, hsz, hP, hK, hD0, hF⟩ := hv
  have hx := B.exec
  have hb := B.bytes
  have hr := B.returns
  have hts := atoms_spec (ws := wbJ5_length_8abf5) B.pre
  have hta : ∀ w ∈ wsALL, w.before _ s = true := fun w h => hts w (List.mem_cons_of_mem _ h)
  have hown : s.vm.findClass RJ5 = some m.cls := findClass_of_methodNamed B.named
  have hlocks := B.notSynchronized
  subst hsz
  have hD := hD0.self (sz := s.heap.size)
  generalize hAe : va_A [(h0, .inr (1, [v0, v1, v2, .int 4]))] s.heap.size = A at hD hF ⊢
  have hA : ∀ q : Nat, s.heap.size ≤ q → A q := fun q h => by rw [← hAe]; exact Or.inr h
  have hS : va_S A s.heap s.heap [] := va_S.rf
  have hP : va_P (dC, dI) vwCl [(h0, .inr (1, [v0, v1, v2, .int 4]))] s.heap := hP
  have hl := lv_entry ([.ref h0]) (n := 1) (Nat.le_of_ble_eq_true rfl)
  rw [lg_entry_eq]
  generalize (lg_sl ([.ref h0]) ++ List.replicate (1 - (lg_sl ([.ref h0])).length) Slot.unset).toArray = ls at hl ⊢
  have hl : lv_has ls 1 [(0, .ref h0)] := hl
  refine lv_aload_n hx hb dJ5_length_8abf5_0 rfl (lv_at hl 0 rfl) ?_
  refine va_get (D := (dC, dI)) (ci := 1) (v := .int 4) (C := RJ4) (T := TJ4) (N := 4) hx hb hta naJ4 hown hK hP 0 rfl rfl 3 (by decide) (hta _ wm290) (fun _ h9 => h9) rfl dJ5_length_8abf5_1 ?_
  have hP9 := hP.sub (ws' := [(h0, .inr (1, [v0, v1, v2, .int 4]))]) [0] rfl
  have hD9 := hD.sub (ws' := [(h0, .inr (1, [v0, v1, v2, .int 4]))]) [0] (by decide) rfl
  have hK9 := hK.sub (tys' := []) [] rfl
  refine W.widen (k := 0) (n := 0) (Nat.le_of_ble_eq_true rfl) (Nat.le_of_ble_eq_true rfl) ?_
  exact W.iret (v := 4) hx hb hr (fun t ht hW => ⟨⟨_, (), rfl, rfl, by rw [ht]; exact hP9, va_K.moved hW.alike hK9, hD9⟩, hS.F ht⟩) hS.2.2 dJ5_length_8abf5_4
set_option maxHeartbeats 4000000 in
set_option maxRecDepth 100000 in
theorem kX16_isIn_30 (l : Launch) (dC : Nat → ClassId) (dI : Nat → Nat → Nat) (g : Nat → Nat) (sz : Nat)  : Met l yX16_isIn wbX16_isIn ({ frames := 0, cells := 0, slots := 0, locals := 0 }) (va_Pc [.int 0, .int 0, .int 7] (fun U => U.heap.size = sz ∧ va_P (dC, dI) vwCl [] U.heap ∧ va_K (dC, dI) vwCl [] U ∧ va_D (fun _ => True) [] ∧ ns_F g (va_A [] sz) U U.heap)) (va_Qi (fun (r : Int32) (_ : Unit) => r = 1) (fun _ t => va_P (dC, dI) vwCl [] t.heap ∧ va_K (dC, dI) vwCl [] t ∧ va_D (va_A [] sz) []) (va_A [] sz)) 0 0 (va_A [] sz) := by
  refine Met.ofW (cc := cX16_isIn) (maxL := 3) (ret := (some .boolean)) (by decide) rfl ?_
  intro p e s m args below meth c s₁ B hml hv
  obtain ⟨rfl, hsz, hP, hK, hD0, hF⟩ := hv
  have hx := B.exec
  have hb := B.bytes
  have hr := B.returns
  have hts := atoms_spec (ws := wbX16_isIn) B.pre
  have hta : ∀ w ∈ wsALL, w.before _ s = true := fun w h => hts w (List.mem_cons_of_mem _ h)
  have hown : s.vm.findClass RX16 = some m.cls := findClass_of_methodNamed B.named
  have hlocks := B.notSynchronized
  subst hsz
  have hD := hD0.self (sz := s.heap.size)
  generalize hAe : va_A [] s.heap.size = A at hD hF ⊢
  have hA : ∀ q : Nat, s.heap.size ≤ q → A q := fun q h => by rw [← hAe]; exact Or.inr h
  have hS : va_S A s.heap s.heap [] := va_S.rf
  have hP : va_P (dC, dI) vwCl [] s.heap := hP
  have hl := lv_entry ([.int 0, .int 0, .int 7]) (n := 3) (Nat.le_of_ble_eq_true rfl)
  rw [lg_entry_eq]
  generalize (lg_sl ([.int 0, .int 0, .int 7]) ++ List.replicate (3 - (lg_sl ([.int 0, .int 0, .int 7])).length) Slot.unset).toArray = ls at hl ⊢
  have hl : lv_has ls 3 [(0, .int 0), (1, .int 0), (2, .int 7)] := hl
  refine lv_iload_n hx hb dX16_isIn_0 rfl (lv_at hl 0 rfl) ?_
  refine lv_iload_n hx hb dX16_isIn_1 rfl (lv_at hl 1 rfl) ?_
  refine lv_icmp_lt (tgt := 14) hx hb dX16_isIn_2 (by decide) (fun c1 => absurd c1 (by decide)) (fun c1 => ?_)
  refine lv_iload_n hx hb dX16_isIn_5 rfl (lv_at hl 0 rfl) ?_
  refine lv_iload_n hx hb dX16_isIn_6 rfl (lv_at hl 2 rfl) ?_
  refine lv_icmp_gt (tgt := 14) hx hb dX16_isIn_7 (by decide) (fun c2 => absurd c2 (by decide)) (fun c2 => ?_)
  refine lv_iconst (v := 1) hx hb dX16_isIn_10 (by decide) ?_
  refine lv_goto (tgt := 15) hx hb dX16_isIn_11 (by decide) ?_
  have hP9 := hP.sub (ws' := []) [] rfl
  have hD9 := hD.sub (ws' := []) [] (by decide) rfl
  have hK9 := hK.sub (tys' := []) [] rfl
  refine W.widen (k := 0) (n := 0) (Nat.le_of_ble_eq_true rfl) (Nat.le_of_ble_eq_true rfl) ?_
  exact W.zret (v := 1) hx hb hr (by decide) (fun t ht hW => ⟨⟨_, (), rfl, rfl, by rw [ht]; exact hP9, va_K.moved hW.alike hK9, hD9⟩, hS.F ht⟩) hS.2.2 dX16_isIn_15
set_option maxHeartbeats 4000000 in
set_option maxRecDepth 100000 in
theorem kX4_size_11 (l : Launch) (dC : Nat → ClassId) (dI : Nat → Nat → Nat) (g : Nat → Nat) (sz : Nat) (h0 : Nat) (v0 : Value) (x0 : Int32) (ex0 : (0 : Int) ≤ x0.toInt ∧ x0.toInt ≤ (1 : Int)) : Met l yX4_size wbX4_size ({ frames := 0, cells := 0, slots := 0, locals := 0 }) (va_Pc [.ref h0] (fun U => U.heap.size = sz ∧ va_P (dC, dI) vwCl [(h0, .inr (11, [v0, .int x0]))] U.heap ∧ va_K (dC, dI) vwCl [] U ∧ va_D (fun _ => True) [(h0, .inr (11, [v0, .int x0]))] ∧ ns_F g (va_A [(h0, .inr (11, [v0, .int x0]))] sz) U U.heap)) (va_Qi (fun (r : Int32) (_ : Unit) => r = x0) (fun _ t => va_P (dC, dI) vwCl [(h0, .inr (11, [v0, .int x0]))] t.heap ∧ va_K (dC, dI) vwCl [] t ∧ va_D (va_A [(h0, .inr (11, [v0, .int x0]))] sz) [(h0, .inr (11, [v0, .int x0]))]) (va_A [(h0, .inr (11, [v0, .int x0]))] sz)) 0 0 (va_A [(h0, .inr (11, [v0, .int x0]))] sz) := by
  refine Met.ofW (cc := cX4_size) (maxL := 1) (ret := (some .int)) (by decide) rfl ?_
  intro p e s m args below meth c s₁ B hml hv
  obtain ⟨rfl, hsz, hP, hK, hD0, hF⟩ := hv
  have hx := B.exec
  have hb := B.bytes
  have hr := B.returns
  have hts := atoms_spec (ws := wbX4_size) B.pre
  have hta : ∀ w ∈ wsALL, w.before _ s = true := fun w h => hts w (List.mem_cons_of_mem _ h)
  have hown : s.vm.findClass RX4 = some m.cls := findClass_of_methodNamed B.named
  have hlocks := B.notSynchronized
  subst hsz
  have hD := hD0.self (sz := s.heap.size)
  generalize hAe : va_A [(h0, .inr (11, [v0, .int x0]))] s.heap.size = A at hD hF ⊢
  have hA : ∀ q : Nat, s.heap.size ≤ q → A q := fun q h => by rw [← hAe]; exact Or.inr h
  have hS : va_S A s.heap s.heap [] := va_S.rf
  have hP : va_P (dC, dI) vwCl [(h0, .inr (11, [v0, .int x0]))] s.heap := hP
  have hl := lv_entry ([.ref h0]) (n := 1) (Nat.le_of_ble_eq_true rfl)
  rw [lg_entry_eq]
  generalize (lg_sl ([.ref h0]) ++ List.replicate (1 - (lg_sl ([.ref h0])).length) Slot.unset).toArray = ls at hl ⊢
  have hl : lv_has ls 1 [(0, .ref h0)] := hl
  refine lv_aload_n hx hb dX4_size_0 rfl (lv_at hl 0 rfl) ?_
  refine va_get (D := (dC, dI)) (ci := 11) (v := .int x0) (C := RX4) (T := TX4) (N := 2) hx hb hta naX4 hown hK hP 0 rfl rfl 1 (by decide) (hta _ wm14) (fun _ h9 => h9) rfl dX4_size_1 ?_
  have hP9 := hP.sub (ws' := [(h0, .inr (11, [v0, .int x0]))]) [0] rfl
  have hD9 := hD.sub (ws' := [(h0, .inr (11, [v0, .int x0]))]) [0] (by decide) rfl
  have hK9 := hK.sub (tys' := []) [] rfl
  refine W.widen (k := 0) (n := 0) (Nat.le_of_ble_eq_true rfl) (Nat.le_of_ble_eq_true rfl) ?_
  exact W.iret (v := x0) hx hb hr (fun t ht hW => ⟨⟨_, (), rfl, rfl, by rw [ht]; exact hP9, va_K.moved hW.alike hK9, hD9⟩, hS.F ht⟩) hS.2.2 dX4_size_4
set_option maxHeartbeats 4000000 in
set_option maxRecDepth 100000 in
theorem kX16_add_21 (l : Launch) (dC : Nat → ClassId) (dI : Nat → Nat → Nat) (g : Nat → Nat) (sz : Nat)  : Met l yX16_add wbX16_add ({ frames := 0, cells := 0, slots := 0, locals := 0 }) (va_Pc [.long 3886947831047465590, .long 0] (fun U => U.heap.size = sz ∧ va_P (dC, dI) vwCl [] U.heap ∧ va_K (dC, dI) vwCl [] U ∧ va_D (fun _ => True) [] ∧ ns_F g (va_A [] sz) U U.heap)) (va_Ql (fun (r : Int64) (_ : Unit) => r = (-8631825753495428022)) (fun _ t => va_P (dC, dI) vwCl [] t.heap ∧ va_K (dC, dI) vwCl [] t ∧ va_D (va_A [] sz) []) (va_A [] sz)) 0 0 (va_A [] sz) := by
  refine Met.ofW (cc := cX16_add) (maxL := 4) (ret := (some .long)) (by decide) rfl ?_
  intro p e s m args below meth c s₁ B hml hv
  obtain ⟨rfl, hsz, hP, hK, hD0, hF⟩ := hv
  have hx := B.exec
  have hb := B.bytes
  have hr := B.returns
  have hts := atoms_spec (ws := wbX16_add) B.pre
  have hta : ∀ w ∈ wsALL, w.before _ s = true := fun w h => hts w (List.mem_cons_of_mem _ h)
  have hown : s.vm.findClass RX16 = some m.cls := findClass_of_methodNamed B.named
  have hlocks := B.notSynchronized
  subst hsz
  have hD := hD0.self (sz := s.heap.size)
  generalize hAe : va_A [] s.heap.size = A at hD hF ⊢
  have hA : ∀ q : Nat, s.heap.size ≤ q → A q := fun q h => by rw [← hAe]; exact Or.inr h
  have hS : va_S A s.heap s.heap [] := va_S.rf
  have hP : va_P (dC, dI) vwCl [] s.heap := hP
  have hl := lv_entry ([.long 3886947831047465590, .long 0]) (n := 4) (Nat.le_of_ble_eq_true rfl)
  rw [lg_entry_eq]
  generalize (lg_sl ([.long 3886947831047465590, .long 0]) ++ List.replicate (4 - (lg_sl ([.long 3886947831047465590, .long 0])).length) Slot.unset).toArray = ls at hl ⊢
  have hl : lv_has ls 4 [(0, .long 3886947831047465590), (2, .long 0)] := hl
  refine lv_lload_n hx hb dX16_add_0 rfl (lv_at hl 0 rfl) ?_
  refine lv_ldc2 (v := 31) hx hb hown (hta _ wm1092) dX16_add_1 ?_
  refine lv_lmul hx hb dX16_add_4 ?_
  refine lv_topl (fun y1 ey1 => ?_)
  obtain rfl : y1 = (-8631825753495428022) := ey1.trans (by decide)
  refine lv_lload_n hx hb dX16_add_5 rfl (lv_at hl 1 rfl) ?_
  refine lv_ladd hx hb dX16_add_6 ?_
  refine lv_topl (fun y2 ey2 => ?_)
  obtain rfl : y2 = (-8631825753495428022) := ey2.trans (by decide)
  have hP9 := hP.sub (ws' := []) [] rfl
  have hD9 := hD.sub (ws' := []) [] (by decide) rfl
  have hK9 := hK.sub (tys' := []) [] rfl
  refine W.widen (k := 0) (n := 0) (Nat.le_of_ble_eq_true rfl) (Nat.le_of_ble_eq_true rfl) ?_
  exact W.lret (v := (-8631825753495428022)) hx hb hr (fun t ht hW => ⟨⟨_, (), rfl, rfl, by rw [ht]; exact hP9, va_K.moved hW.alike hK9, hD9⟩, hS.F ht⟩) hS.2.2 dX16_add_7
set_option maxHeartbeats 4000000 in
set_option maxRecDepth 100000 in
theorem kX4_size_10 (l : Launch) (dC : Nat → ClassId) (dI : Nat → Nat → Nat) (g : Nat → Nat) (sz : Nat) (h0 : Nat) (v0 : Value) : Met l yX4_size wbX4_size ({ frames := 0, cells := 0, slots := 0, locals := 0 }) (va_Pc [.ref h0] (fun U => U.heap.size = sz ∧ va_P (dC, dI) vwCl [(h0, .inr (11, [v0, .int 9]))] U.heap ∧ va_K (dC, dI) vwCl [] U ∧ va_D (fun _ => True) [(h0, .inr (11, [v0, .int 9]))] ∧ ns_F g (va_A [(h0, .inr (11, [v0, .int 9]))] sz) U U.heap)) (va_Qi (fun (r : Int32) (_ : Unit) => r = 9) (fun _ t => va_P (dC, dI) vwCl [(h0, .inr (11, [v0, .int 9]))] t.heap ∧ va_K (dC, dI) vwCl [] t ∧ va_D (va_A [(h0, .inr (11, [v0, .int 9]))] sz) [(h0, .inr (11, [v0, .int 9]))]) (va_A [(h0, .inr (11, [v0, .int 9]))] sz)) 0 0 (va_A [(h0, .inr (11, [v0, .int 9]))] sz) := by
  refine Met.ofW (cc := cX4_size) (maxL := 1) (ret := (some .int)) (by decide) rfl ?_
  intro p e s m args below meth c s₁ B hml hv
  obtain ⟨rfl, hsz, hP, hK, hD0, hF⟩ := hv
  have hx := B.exec
  have hb := B.bytes
  have hr := B.returns
  have hts := atoms_spec (ws := wbX4_size) B.pre
  have hta : ∀ w ∈ wsALL, w.before _ s = true := fun w h => hts w (List.mem_cons_of_mem _ h)
  have hown : s.vm.findClass RX4 = some m.cls := findClass_of_methodNamed B.named
  have hlocks := B.notSynchronized
  subst hsz
  have hD := hD0.self (sz := s.heap.size)
  generalize hAe : va_A [(h0, .inr (11, [v0, .int 9]))] s.heap.size = A at hD hF ⊢
  have hA : ∀ q : Nat, s.heap.size ≤ q → A q := fun q h => by rw [← hAe]; exact Or.inr h
  have hS : va_S A s.heap s.heap [] := va_S.rf
  have hP : va_P (dC, dI) vwCl [(h0, .inr (11, [v0, .int 9]))] s.heap := hP
  have hl := lv_entry ([.ref h0]) (n := 1) (Nat.le_of_ble_eq_true rfl)
  rw [lg_entry_eq]
  generalize (lg_sl ([.ref h0]) ++ List.replicate (1 - (lg_sl ([.ref h0])).length) Slot.unset).toArray = ls at hl ⊢
  have hl : lv_has ls 1 [(0, .ref h0)] := hl
  refine lv_aload_n hx hb dX4_size_0 rfl (lv_at hl 0 rfl) ?_
  refine va_get (D := (dC, dI)) (ci := 11) (v := .int 9) (C := RX4) (T := TX4) (N := 2) hx hb hta naX4 hown hK hP 0 rfl rfl 1 (by decide) (hta _ wm14) (fun _ h9 => h9) rfl dX4_size_1 ?_
  have hP9 := hP.sub (ws' := [(h0, .inr (11, [v0, .int 9]))]) [0] rfl
  have hD9 := hD.sub (ws' := [(h0, .inr (11, [v0, .int 9]))]) [0] (by decide) rfl
  have hK9 := hK.sub (tys' := []) [] rfl
  refine W.widen (k := 0) (n := 0) (Nat.le_of_ble_eq_true rfl) (Nat.le_of_ble_eq_true rfl) ?_
  exact W.iret (v := 9) hx hb hr (fun t ht hW => ⟨⟨_, (), rfl, rfl, by rw [ht]; exact hP9, va_K.moved hW.alike hK9, hD9⟩, hS.F ht⟩) hS.2.2 dX4_size_4
set_option maxHeartbeats 4000000 in
set_option maxRecDepth 100000 in
theorem kJ0_isEmpty_aae02 (l : Launch) (dC : Nat → ClassId) (dI : Nat → Nat → Nat) (g : Nat → Nat) (sz : Nat)  : Met l yJ0_isEmpty_aae02 wbJ0_isEmpty_aae02 ({ frames := 0, cells := 0, slots := 0, locals := 0 }) (va_Pc [.ref (g 34)] (fun U => U.heap.size = sz ∧ va_P (dC, dI) vwCl [] U.heap ∧ va_K (dC, dI) vwCl [] U ∧ va_D (fun _ => True) [] ∧ ns_F g (va_A [] sz) U U.heap)) (va_Qi (fun (r : Int32) (_ : Unit) => r = 1) (fun _ t => va_P (dC, dI) vwCl [] t.heap ∧ va_K (dC, dI) vwCl [] t ∧ va_D (va_A [] sz) []) (va_A [] sz)) 0 0 (va_A [] sz) := by
  refine Met.ofW (cc := cJ0_isEmpty_aae02) (maxL := 1) (ret := (some .boolean)) (by decide) rfl ?_
  intro p e s m args below meth c s₁ B hml hv
  obtain ⟨rfl, hsz, hP, hK, hD0, hF⟩ := hv
  have hx := B.exec
  have hb := B.bytes
  have hr := B.returns
  have hts := atoms_spec (ws := wbJ0_isEmpty_aae02) B.pre
  have hta : ∀ w ∈ wsALL, w.before _ s = true := fun w h => hts w (List.mem_cons_of_mem _ h)
  have hown : s.vm.findClass RJ0 = some m.cls := findClass_of_methodNamed B.named
  have hlocks := B.notSynchronized
  subst hsz
  have hD := hD0.self (sz := s.heap.size)
  generalize hAe : va_A [] s.heap.size = A at hD hF ⊢
  have hA : ∀ q : Nat, s.heap.size ≤ q → A q := fun q h => by rw [← hAe]; exact Or.inr h
  have hS : va_S A s.heap s.heap [] := va_S.rf
  have hP : va_P (dC, dI) vwCl [] s.heap := hP
  have hl := lv_entry ([.ref (g 34)]) (n := 1) (Nat.le_of_ble_eq_true rfl)
  rw [lg_entry_eq]
  generalize (lg_sl ([.ref (g 34)]) ++ List.replicate (1 - (lg_sl ([.ref (g 34)])).length) Slot.unset).toArray = ls at hl ⊢
  have hl : lv_has ls 1 [(0, .ref (g 34))] := hl
  refine lv_aload_n hx hb dJ0_isEmpty_aae02_0 rfl (lv_at hl 0 rfl) ?_
  refine vk_getf hx hb (ns_f40 hF) hS hown (hta _ wm341) (fun _ h9 => h9) dJ0_isEmpty_aae02_1 ?_
  refine va_tlen (v := 0) hx hb (ns_f41 hF) hS (by decide) dJ0_isEmpty_aae02_4 ?_
  refine lv_if_ne (tgt := 12) hx hb dJ0_isEmpty_aae02_5 (by decide) (fun c1 => absurd (by decide) c1) (fun c1 => ?_)
  refine lv_iconst (v := 1) hx hb dJ0_isEmpty_aae02_8 (by decide) ?_
  refine lv_goto (tgt := 13) hx hb dJ0_isEmpty_aae02_9 (by decide) ?_
  have hP9 := hP.sub (ws' := []) [] rfl
  have hD9 := hD.sub (ws' := []) [] (by decide) rfl
  have hK9 := hK.sub (tys' := []) [] rfl
  refine W.widen (k := 0) (n := 0) (Nat.le_of_ble_eq_true rfl) (Nat.le_of_ble_eq_true rfl) ?_
  exact W.zret (v := 1) hx hb hr (by decide) (fun t ht hW => ⟨⟨_, (), rfl, rfl, by rw [ht]; exact hP9, va_K.moved hW.alike hK9, hD9⟩, hS.F ht⟩) hS.2.2 dJ0_isEmpty_aae02_13
set_option maxHeartbeats 4000000 in
set_option maxRecDepth 100000 in
theorem kJ0_equals_9ea2d_2 (l : Launch) (dC : Nat → ClassId) (dI : Nat → Nat → Nat) (g : Nat → Nat) (sz : Nat)  : Met l yJ0_equals_9ea2d wbJ0_equals_9ea2d ({ frames := 0, cells := 0, slots := 0, locals := 0 }) (va_Pc [.ref (g 20), .ref (g 20)] (fun U => U.heap.size = sz ∧ va_P (dC, dI) vwCl [] U.heap ∧ va_K (dC, dI) vwCl [] U ∧ va_D (fun _ => True) [] ∧ ns_F g (va_A [] sz) U U.heap)) (va_Qi (fun (r : Int32) (_ : Unit) => r = 1) (fun _ t => va_P (dC, dI) vwCl [] t.heap ∧ va_K (dC, dI) vwCl [] t ∧ va_D (va_A [] sz) []) (va_A [] sz)) 0 0 (va_A [] sz) := by
  refine Met.ofW (cc := cJ0_equals_9ea2d) (maxL := 3) (ret := (some .boolean)) (by decide) rfl ?_
  intro p e s m args below meth c s₁ B hml hv
  obtain ⟨rfl, hsz, hP, hK, hD0, hF⟩ := hv
  have hx := B.exec
  have hb := B.bytes
  have hr := B.returns
  have hts := atoms_spec (ws := wbJ0_equals_9ea2d) B.pre
  have hta : ∀ w ∈ wsALL, w.before _ s = true := fun w h => hts w (List.mem_cons_of_mem _ h)
  have hown : s.vm.findClass RJ0 = some m.cls := findClass_of_methodNamed B.named
  have hlocks := B.notSynchronized
  subst hsz
  have hD := hD0.self (sz := s.heap.size)
  generalize hAe : va_A [] s.heap.size = A at hD hF ⊢
  have hA : ∀ q : Nat, s.heap.size ≤ q → A q := fun q h => by rw [← hAe]; exact Or.inr h
  have hS : va_S A s.heap s.heap [] := va_S.rf
  have hP : va_P (dC, dI) vwCl [] s.heap := hP
  have hl := lv_entry ([.ref (g 20), .ref (g 20)]) (n := 3) (Nat.le_of_ble_eq_true rfl)
  rw [lg_entry_eq]
  generalize (lg_sl ([.ref (g 20), .ref (g 20)]) ++ List.replicate (3 - (lg_sl ([.ref (g 20), .ref (g 20)])).length) Slot.unset).toArray = ls at hl ⊢
  have hl : lv_has ls 3 [(0, .ref (g 20)), (1, .ref (g 20))] := hl
  refine lv_aload_n hx hb dJ0_equals_9ea2d_0 rfl (lv_at hl 0 rfl) ?_
  refine lv_aload_n hx hb dJ0_equals_9ea2d_1 rfl (lv_at hl 1 rfl) ?_
  refine lv_acmp_ne (rx := (some (g 20))) (ry := (some (g 20))) (tgt := 7) hx hb dJ0_equals_9ea2d_2 (by decide) (fun c1 => absurd rfl c1) (fun c1 => ?_)
  refine lv_iconst (v := 1) hx hb dJ0_equals_9ea2d_5 (by decide) ?_
  have hP9 := hP.sub (ws' := []) [] rfl
  have hD9 := hD.sub (ws' := []) [] (by decide) rfl
  have hK9 := hK.sub (tys' := []) [] rfl
  refine W.widen (k := 0) (n := 0) (Nat.le_of_ble_eq_true rfl) (Nat.le_of_ble_eq_true rfl) ?_
  exact W.zret (v := 1) hx hb hr (by decide) (fun t ht hW => ⟨⟨_, (), rfl, rfl, by rw [ht]; exact hP9, va_K.moved hW.alike hK9, hD9⟩, hS.F ht⟩) hS.2.2 dJ0_equals_9ea2d_6
set_option maxHeartbeats 4000000 in
set_option maxRecDepth 100000 in
theorem kX16_one_2 (l : Launch) (dC : Nat → ClassId) (dI : Nat → Nat → Nat) (g : Nat → Nat) (sz : Nat)  : Met l yX16_one wbX16_one ({ frames := 0, cells := 0, slots := 0, locals := 0 }) (va_Pc [.int 0] (fun U => U.heap.size = sz ∧ va_P (dC, dI) vwCl [] U.heap ∧ va_K (dC, dI) vwCl [] U ∧ va_D (fun _ => True) [] ∧ ns_F g (va_A [] sz) U U.heap)) (va_Qi (fun (r : Int32) (_ : Unit) => r = 0) (fun _ t => va_P (dC, dI) vwCl [] t.heap ∧ va_K (dC, dI) vwCl [] t ∧ va_D (va_A [] sz) []) (va_A [] sz)) 0 0 (va_A [] sz) := by
  refine Met.ofW (cc := cX16_one) (maxL := 1) (ret := (some .int)) (by decide) rfl ?_
  intro p e s m args below meth c s₁ B hml hv
  obtain ⟨rfl, hsz, hP, hK, hD0, hF⟩ := hv
  have hx := B.exec
  have hb := B.bytes
  have hr := B.returns
  have hts := atoms_spec (ws := wbX16_one) B.pre
  have hta : ∀ w ∈ wsALL, w.before _ s = true := fun w h => hts w (List.mem_cons_of_mem _ h)
  have hown : s.vm.findClass RX16 = some m.cls := findClass_of_methodNamed B.named
  have hlocks := B.notSynchronized
  subst hsz
  have hD := hD0.self (sz := s.heap.size)
  generalize hAe : va_A [] s.heap.size = A at hD hF ⊢
  have hA : ∀ q : Nat, s.heap.size ≤ q → A q := fun q h => by rw [← hAe]; exact Or.inr h
  have hS : va_S A s.heap s.heap [] := va_S.rf
  have hP : va_P (dC, dI) vwCl [] s.heap := hP
  have hl := lv_entry ([.int 0]) (n := 1) (Nat.le_of_ble_eq_true rfl)
  rw [lg_entry_eq]
  generalize (lg_sl ([.int 0]) ++ List.replicate (1 - (lg_sl ([.int 0])).length) Slot.unset).toArray = ls at hl ⊢
  have hl : lv_has ls 1 [(0, .int 0)] := hl
  refine lv_iload_n hx hb dX16_one_0 rfl (lv_at hl 0 rfl) ?_
  refine lv_if_eq (tgt := 8) hx hb dX16_one_1 (by decide) (fun c1 => ?_) (fun c1 => absurd (by decide) c1)
  refine lv_iconst (v := 0) hx hb dX16_one_8 (by decide) ?_
  have hP9 := hP.sub (ws' := []) [] rfl
  have hD9 := hD.sub (ws' := []) [] (by decide) rfl
  have hK9 := hK.sub (tys' := []) [] rfl
  refine W.widen (k := 0) (n := 0) (Nat.le_of_ble_eq_true rfl) (Nat.le_of_ble_eq_true rfl) ?_
  exact W.iret (v := 0) hx hb hr (fun t ht hW => ⟨⟨_, (), rfl, rfl, by rw [ht]; exact hP9, va_K.moved hW.alike hK9, hD9⟩, hS.F ht⟩) hS.2.2 dX16_one_9

set_option maxHeartbeats 4000000 in
set_option maxRecDepth 100000 in
theorem kX4_add_41 (l : Launch) (dC : Nat → ClassId) (dI : Nat → Nat → Nat) (g : Nat → Nat) (sz : Nat) (h0 : Nat) (x0 : Int32) (h1 : Nat) (x1 : Int32) (cc0 : ClassId) (f0 : Nat → Int32) (ex0 : (0 : Int) ≤ x0.toInt ∧ x0.toInt ≤ (127 : Int)) (ex1 : (0 : Int) ≤ x1.toInt ∧ x1.toInt ≤ (2 : Int)) : Met l yX4_add wbX4_add ({ frames := 0, cells := 0, slots := 0, locals := 0 }) (va_Pc [.ref h0, .int x0] (fun U => U.heap.size = sz ∧ va_P (dC, dI) vwCl [(h0, .inr (11, [.ref h1, .int x1])), (h1, .inl (cc0, 60, .inl f0))] U.heap ∧ va_K (dC, dI) vwCl [(cc0, .int)] U ∧ va_D (fun _ => True) [(h0, .inr (11, [.ref h1, .int x1])), (h1, .inl (cc0, 60, .inl f0))] ∧ ns_F g (va_A [(h0, .inr (11, [.ref h1, .int x1])), (h1, .inl (cc0, 60, .inl f0))] sz) U U.heap)) (va_Qv (fun _ : Unit => True) (fun _ t => va_P (dC, dI) vwCl [(h0, .inr (11, [.ref h1, .int (x1 + 1)])), (h1, .inl (cc0, 60, .inl (upd (f0) x1.toNatClampNeg x0)))] t.heap ∧ va_K (dC, dI) vwCl [(cc0, .int)] t ∧ va_D (va_A [(h0, .inr (11, [.ref h1, .int x1])), (h1, .inl (cc0, 60, .inl f0))] sz) [(h0, .inr (11, [.ref h1, .int (x1 + 1)])), (h1, .inl (cc0, 60, .inl (upd (f0) x1.toNatClampNeg x0)))]) (va_A [(h0, .inr (11, [.ref h1, .int x1])), (h1, .inl (cc0, 60, .inl f0))] sz)) 0 0 (va_A [(h0, .inr (11, [.ref h1, .int x1])), (h1, .inl (cc0, 60, .inl f0))] sz) := by
  refine Met.ofW (cc := cX4_add) (maxL := 2) (ret := none) (by decide) rfl ?_
  intro p e s m args below meth c s₁ B hml hv
  obtain ⟨rfl, hsz, hP, hK, hD0, hF⟩ := hv
  have hx := B.exec
  have hb := B.bytes
  have hr := B.returns
  have hts := atoms_spec (ws := wbX4_add) B.pre
  have hta : ∀ w ∈ wsALL, w.before _ s = true := fun w h => hts w (List.mem_cons_of_mem _ h)
  have hown : s.vm.findClass RX4 = some m.cls := findClass_of_methodNamed B.named
  have hlocks := B.notSynchronized
  subst hsz
  have hD := hD0.self (sz := s.heap.size)
  generalize hAe : va_A [(h0, .inr (11, [.ref h1, .int x1])), (h1, .inl (cc0, 60, .inl f0))] s.heap.size = A at hD hF ⊢
  have hA : ∀ q : Nat, s.heap.size ≤ q → A q := fun q h => by rw [← hAe]; exact Or.inr h
  have hS : va_S A s.heap s.heap [] := va_S.rf
  have hP : va_P (dC, dI) vwCl [(h0, .inr (11, [.ref h1, .int x1])), (h1, .inl (cc0, 60, .inl f0))] s.heap := hP
  have hl := lv_entry ([.ref h0, .int x0]) (n := 2) (Nat.le_of_ble_eq_true rfl)
  rw [lg_entry_eq]
  generalize (lg_sl ([.ref h0, .int x0]) ++ List.replicate (2 - (lg_sl ([.ref h0, .int x0])).length) Slot.unset).toArray = ls at hl ⊢
  have hl : lv_has ls 2 [(0, .ref h0), (1, .int x0)] := hl
  refine lv_aload_n hx hb dX4_add_0 rfl (lv_at hl 0 rfl) ?_
  refine va_get (D := (dC, dI)) (ci := 11) (v := .int x1) (C := RX4) (T := TX4) (N := 2) hx hb hta naX4 hown hK hP 0 rfl rfl 1 (by decide) (hta _ wm14) (fun _ h9 => h9) rfl dX4_add_1 ?_
  refine lv_if_lt (tgt := 39) hx hb dX4_add_4 (by decide) (fun c1 => absurd c1 (fun z => absurd (show x1.toInt < (0 : Int) from Int32.lt_iff_toInt_lt.mp z) (by omega))) (fun c1 => ?_)
  refine lv_aload_n hx hb dX4_add_7 rfl (lv_at hl 0 rfl) ?_
  refine va_get (D := (dC, dI)) (ci := 11) (v := .int x1) (C := RX4) (T := TX4) (N := 2) hx hb hta naX4 hown hK hP 0 rfl rfl 1 (by decide) (hta _ wm14) (fun _ h9 => h9) rfl dX4_add_8 ?_
  refine lv_aload_n hx hb dX4_add_11 rfl (lv_at hl 0 rfl) ?_
  refine va_get (D := (dC, dI)) (ci := 11) (v := .ref h1) (C := RX4) (T := TX4) (N := 2) hx hb hta naX4 hown hK hP 0 rfl rfl 0 (by decide) (hta _ wm16) (fun _ h9 => h9) rfl dX4_add_12 ?_
  refine va_alen (v := 60) hx hb hK hP 1 0 rfl rfl (show Int32.ofNat 60 = 60 by decide) dX4_add_15 ?_
  refine lv_icmp_ge (tgt := 39) hx hb dX4_add_16 (by decide) (fun c2 => absurd c2 (fun z => absurd (show (60 : Int) ≤ x1.toInt from Int32.le_iff_toInt_le.mp z) (by omega))) (fun c2 => ?_)
  refine lv_aload_n hx hb dX4_add_19 rfl (lv_at hl 0 rfl) ?_
  refine va_get (D := (dC, dI)) (ci := 11) (v := .ref h1) (C := RX4) (T := TX4) (N := 2) hx hb hta naX4 hown hK hP 0 rfl rfl 0 (by decide) (hta _ wm16) (fun _ h9 => h9) rfl dX4_add_20 ?_
  refine lv_aload_n hx hb dX4_add_23 rfl (lv_at hl 0 rfl) ?_
  refine va_get (D := (dC, dI)) (ci := 11) (v := .int x1) (C := RX4) (T := TX4) (N := 2) hx hb hta naX4 hown hK hP 0 rfl rfl 1 (by decide) (hta _ wm14) (fun _ h9 => h9) rfl dX4_add_24 ?_
  refine lv_iload_n hx hb dX4_add_27 rfl (lv_at hl 1 rfl) ?_
  refine va_iast hx hb hK hP hD hS 1 0 rfl rfl (vp_in_iff.mpr ⟨show (0 : Int) ≤ x1.toInt by omega, show x1.toInt < ((60 : Nat) : Int) by omega⟩) dX4_add_28 (fun H locs hP hD hS => ?_)
  have hP : va_P (dC, dI) vwCl [(h0, .inr (11, [.ref h1, .int x1])), (h1, .inl (cc0, 60, .inl (upd (f0) x1.toNatClampNeg x0)))] H := hP
  have hD : va_D A [(h0, .inr (11, [.ref h1, .int x1])), (h1, .inl (cc0, 60, .inl (upd (f0) x1.toNatClampNeg x0)))] := hD
  refine lv_aload_n hx hb dX4_add_29 rfl (lv_at hl 0 rfl) ?_
  refine lv_dup hx hb dX4_add_30 rfl ?_
  refine va_get (D := (dC, dI)) (ci := 11) (v := .int x1) (C := RX4) (T := TX4) (N := 2) hx hb hta naX4 hown hK hP 0 rfl rfl 1 (by decide) (hta _ wm14) (fun _ h9 => h9) rfl dX4_add_31 ?_
  refine lv_iconst (v := 1) hx hb dX4_add_34 (by decide) ?_
  refine lv_iadd hx hb dX4_add_35 ?_
  have r3 : (x1 + 1).toInt = x1.toInt + (1 : Int) := fb_addI (show (-2147483648 : Int) ≤ x1.toInt + (1 : Int) by omega) (show x1.toInt + (1 : Int) < (2147483648 : Int) by omega)
  refine va_put (D := (dC, dI)) (ci := 11) (v := .int (x1 + 1)) (ty := .int) (C := RX4) (T := TX4) (N := 2) hx hb hta naX4 tyX4 tyX4_ok nmX4 hown hK hP hD hS 0 rfl rfl 1 (by decide) (hta _ wm14) (fun _ h9 => h9) rfl (by decide +kernel) rfl rfl (Nat.le_of_ble_eq_true rfl) dX4_add_36 (fun H locs hP hD hS => ?_)
  have hP : va_P (dC, dI) vwCl [(h0, .inr (11, [.ref h1, .int (x1 + 1)])), (h1, .inl (cc0, 60, .inl (upd (f0) x1.toNatClampNeg x0)))] H := hP
  have hD : va_D A [(h0, .inr (11, [.ref h1, .int (x1 + 1)])), (h1, .inl (cc0, 60, .inl (upd (f0) x1.toNatClampNeg x0)))] := hD
  have hP9 := hP.sub (ws' := [(h0, .inr (11, [.ref h1, .int (x1 + 1)])), (h1, .inl (cc0, 60, .inl (upd (f0) x1.toNatClampNeg x0)))]) [0, 1] rfl
  have hD9 := hD.sub (ws' := [(h0, .inr (11, [.ref h1, .int (x1 + 1)])), (h1, .inl (cc0, 60, .inl (upd (f0) x1.toNatClampNeg x0)))]) [0, 1] (by decide) rfl
  have hK9 := hK.sub (tys' := [(cc0, .int)]) [0] rfl
  refine W.widen (k := 0) (n := 0) (Nat.le_of_ble_eq_true rfl) (Nat.le_of_ble_eq_true rfl) ?_
  exact W.vret hx hb hr (fun t ht hW => ⟨⟨(), rfl, trivial, by rw [ht]; exact hP9, va_K.moved hW.alike hK9, hD9⟩, hS.F ht⟩) hS.2.2 dX4_add_39
set_option maxHeartbeats 4000000 in
set_option maxRecDepth 100000 in
theorem kX4_add_43 (l : Launch) (dC : Nat → ClassId) (dI : Nat → Nat → Nat) (g : Nat → Nat) (sz : Nat) (h0 : Nat) (x0 : Int32) (h1 : Nat) (x1 : Int32) (cc0 : ClassId) (f0 : Nat → Int32) (ex0 : (0 : Int) ≤ x0.toInt ∧ x0.toInt ≤ (127 : Int)) (ex1 : (0 : Int) ≤ x1.toInt ∧ x1.toInt ≤ (4 : Int)) : Met l yX4_add wbX4_add ({ frames := 0, cells := 0, slots := 0, locals := 0 }) (va_Pc [.ref h0, .int x0] (fun U => U.heap.size = sz ∧ va_P (dC, dI) vwCl [(h0, .inr (11, [.ref h1, .int x1])), (h1, .inl (cc0, 60, .inl f0))] U.heap ∧ va_K (dC, dI) vwCl [(cc0, .int)] U ∧ va_D (fun _ => True) [(h0, .inr (11, [.ref h1, .int x1])), (h1, .inl (cc0, 60, .inl f0))] ∧ ns_F g (va_A [(h0, .inr (11, [.ref h1, .int x1])), (h1, .inl (cc0, 60, .inl f0))] sz) U U.heap)) (va_Qv (fun _ : Unit => True) (fun _ t => va_P (dC, dI) vwCl [(h0, .inr (11, [.ref h1, .int (x1 + 1)])), (h1, .inl (cc0, 60, .inl (upd (f0) x1.toNatClampNeg x0)))] t.heap ∧ va_K (dC, dI) vwCl [(cc0, .int)] t ∧ va_D (va_A [(h0, .inr (11, [.ref h1, .int x1])), (h1, .inl (cc0, 60, .inl f0))] sz) [(h0, .inr (11, [.ref h1, .int (x1 + 1)])), (h1, .inl (cc0, 60, .inl (upd (f0) x1.toNatClampNeg x0)))]) (va_A [(h0, .inr (11, [.ref h1, .int x1])), (h1, .inl (cc0, 60, .inl f0))] sz)) 0 0 (va_A [(h0, .inr (11, [.ref h1, .int x1])), (h1, .inl (cc0, 60, .inl f0))] sz) := by
  refine Met.ofW (cc := cX4_add) (maxL := 2) (ret := none) (by decide) rfl ?_
  intro p e s m args below meth c s₁ B hml hv
  obtain ⟨rfl, hsz, hP, hK, hD0, hF⟩ := hv
  have hx := B.exec
  have hb := B.bytes
  have hr := B.returns
  have hts := atoms_spec (ws := wbX4_add) B.pre
  have hta : ∀ w ∈ wsALL, w.before _ s = true := fun w h => hts w (List.mem_cons_of_mem _ h)
  have hown : s.vm.findClass RX4 = some m.cls := findClass_of_methodNamed B.named
  have hlocks := B.notSynchronized
  subst hsz
  have hD := hD0.self (sz := s.heap.size)
  generalize hAe : va_A [(h0, .inr (11, [.ref h1, .int x1])), (h1, .inl (cc0, 60, .inl f0))] s.heap.size = A at hD hF ⊢
  have hA : ∀ q : Nat, s.heap.size ≤ q → A q := fun q h => by rw [← hAe]; exact Or.inr h
  have hS : va_S A s.heap s.heap [] := va_S.rf
  have hP : va_P (dC, dI) vwCl [(h0, .inr (11, [.ref h1, .int x1])), (h1, .inl (cc0, 60, .inl f0))] s.heap := hP
  have hl := lv_entry ([.ref h0, .int x0]) (n := 2) (Nat.le_of_ble_eq_true rfl)
  rw [lg_entry_eq]
  generalize (lg_sl ([.ref h0, .int x0]) ++ List.replicate (2 - (lg_sl ([.ref h0, .int x0])).length) Slot.unset).toArray = ls at hl ⊢
  have hl : lv_has ls 2 [(0, .ref h0), (1, .int x0)] := hl
  refine lv_aload_n hx hb dX4_add_0 rfl (lv_at hl 0 rfl) ?_
  refine va_get (D := (dC, dI)) (ci := 11) (v := .int x1) (C := RX4) (T := TX4) (N := 2) hx hb hta naX4 hown hK hP 0 rfl rfl 1 (by decide) (hta _ wm14) (fun _ h9 => h9) rfl dX4_add_1 ?_
  refine lv_if_lt (tgt := 39) hx hb dX4_add_4 (by decide) (fun c1 => absurd c1 (fun z => absurd (show x1.toInt < (0 : Int) from Int32.lt_iff_toInt_lt.mp z) (by omega))) (fun c1 => ?_)
  refine lv_aload_n hx hb dX4_add_7 rfl (lv_at hl 0 rfl) ?_
  refine va_get (D := (dC, dI)) (ci := 11) (v := .int x1) (C := RX4) (T := TX4) (N := 2) hx hb hta naX4 hown hK hP 0 rfl rfl 1 (by decide) (hta _ wm14) (fun _ h9 => h9) rfl dX4_add_8 ?_
  refine lv_aload_n hx hb dX4_add_11 rfl (lv_at hl 0 rfl) ?_
  refine va_get (D := (dC, dI)) (ci := 11) (v := .ref h1) (C := RX4) (T := TX4) (N := 2) hx hb hta naX4 hown hK hP 0 rfl rfl 0 (by decide) (hta _ wm16) (fun _ h9 => h9) rfl dX4_add_12 ?_
  refine va_alen (v := 60) hx hb hK hP 1 0 rfl rfl (show Int32.ofNat 60 = 60 by decide) dX4_add_15 ?_
  refine lv_icmp_ge (tgt := 39) hx hb dX4_add_16 (by decide) (fun c2 => absurd c2 (fun z => absurd (show (60 : Int) ≤ x1.toInt from Int32.le_iff_toInt_le.mp z) (by omega))) (fun c2 => ?_)
  refine lv_aload_n hx hb dX4_add_19 rfl (lv_at hl 0 rfl) ?_
  refine va_get (D := (dC, dI)) (ci := 11) (v := .ref h1) (C := RX4) (T := TX4) (N := 2) hx hb hta naX4 hown hK hP 0 rfl rfl 0 (by decide) (hta _ wm16) (fun _ h9 => h9) rfl dX4_add_20 ?_
  refine lv_aload_n hx hb dX4_add_23 rfl (lv_at hl 0 rfl) ?_
  refine va_get (D := (dC, dI)) (ci := 11) (v := .int x1) (C := RX4) (T := TX4) (N := 2) hx hb hta naX4 hown hK hP 0 rfl rfl 1 (by decide) (hta _ wm14) (fun _ h9 => h9) rfl dX4_add_24 ?_
  refine lv_iload_n hx hb dX4_add_27 rfl (lv_at hl 1 rfl) ?_
  refine va_iast hx hb hK hP hD hS 1 0 rfl rfl (vp_in_iff.mpr ⟨show (0 : Int) ≤ x1.toInt by omega, show x1.toInt < ((60 : Nat) : Int) by omega⟩) dX4_add_28 (fun H locs hP hD hS => ?_)
  have hP : va_P (dC, dI) vwCl [(h0, .inr (11, [.ref h1, .int x1])), (h1, .inl (cc0, 60, .inl (upd (f0) x1.toNatClampNeg x0)))] H := hP
  have hD : va_D A [(h0, .inr (11, [.ref h1, .int x1])), (h1, .inl (cc0, 60, .inl (upd (f0) x1.toNatClampNeg x0)))] := hD
  refine lv_aload_n hx hb dX4_add_29 rfl (lv_at hl 0 rfl) ?_
  refine lv_dup hx hb dX4_add_30 rfl ?_
  refine va_get (D := (dC, dI)) (ci := 11) (v := .int x1) (C := RX4) (T := TX4) (N := 2) hx hb hta naX4 hown hK hP 0 rfl rfl 1 (by decide) (hta _ wm14) (fun _ h9 => h9) rfl dX4_add_31 ?_
  refine lv_iconst (v := 1) hx hb dX4_add_34 (by decide) ?_
  refine lv_iadd hx hb dX4_add_35 ?_
  have r3 : (x1 + 1).toInt = x1.toInt + (1 : Int) := fb_addI (show (-2147483648 : Int) ≤ x1.toInt + (1 : Int) by omega) (show x1.toInt + (1 : Int) < (2147483648 : Int) by omega)
  refine va_put (D := (dC, dI)) (ci := 11) (v := .int (x1 + 1)) (ty := .int) (C := RX4) (T := TX4) (N := 2) hx hb hta naX4 tyX4 tyX4_ok nmX4 hown hK hP hD hS 0 rfl rfl 1 (by decide) (hta _ wm14) (fun _ h9 => h9) rfl (by decide +kernel) rfl rfl (Nat.le_of_ble_eq_true rfl) dX4_add_36 (fun H locs hP hD hS => ?_)
  have hP : va_P (dC, dI) vwCl [(h0, .inr (11, [.ref h1, .int (x1 + 1)])), (h1, .inl (cc0, 60, .inl (upd (f0) x1.toNatClampNeg x0)))] H := hP
  have hD : va_D A [(h0, .inr (11, [.ref h1, .int (x1 + 1)])), (h1, .inl (cc0, 60, .inl (upd (f0) x1.toNatClampNeg x0)))] := hD
  have hP9 := hP.sub (ws' := [(h0, .inr (11, [.ref h1, .int (x1 + 1)])), (h1, .inl (cc0, 60, .inl (upd (f0) x1.toNatClampNeg x0)))]) [0, 1] rfl
  have hD9 := hD.sub (ws' := [(h0, .inr (11, [.ref h1, .int (x1 + 1)])), (h1, .inl (cc0, 60, .inl (upd (f0) x1.toNatClampNeg x0)))]) [0, 1] (by decide) rfl
  have hK9 := hK.sub (tys' := [(cc0, .int)]) [0] rfl
  refine W.widen (k := 0) (n := 0) (Nat.le_of_ble_eq_true rfl) (Nat.le_of_ble_eq_true rfl) ?_
  exact W.vret hx hb hr (fun t ht hW => ⟨⟨(), rfl, trivial, by rw [ht]; exact hP9, va_K.moved hW.alike hK9, hD9⟩, hS.F ht⟩) hS.2.2 dX4_add_39
set_option maxHeartbeats 4000000 in
set_option maxRecDepth 100000 in
theorem kX4_add_39 (l : Launch) (dC : Nat → ClassId) (dI : Nat → Nat → Nat) (g : Nat → Nat) (sz : Nat) (h0 : Nat) (x0 : Int32) (h1 : Nat) (cc0 : ClassId) (f0 : Nat → Int32) (ex0 : (0 : Int) ≤ x0.toInt ∧ x0.toInt ≤ (127 : Int)) : Met l yX4_add wbX4_add ({ frames := 0, cells := 0, slots := 0, locals := 0 }) (va_Pc [.ref h0, .int x0] (fun U => U.heap.size = sz ∧ va_P (dC, dI) vwCl [(h0, .inr (11, [.ref h1, .int 0])), (h1, .inl (cc0, 60, .inl f0))] U.heap ∧ va_K (dC, dI) vwCl [(cc0, .int)] U ∧ va_D (fun _ => True) [(h0, .inr (11, [.ref h1, .int 0])), (h1, .inl (cc0, 60, .inl f0))] ∧ ns_F g (va_A [(h0, .inr (11, [.ref h1, .int 0])), (h1, .inl (cc0, 60, .inl f0))] sz) U U.heap)) (va_Qv (fun _ : Unit => True) (fun _ t => va_P (dC, dI) vwCl [(h0, .inr (11, [.ref h1, .int 1])), (h1, .inl (cc0, 60, .inl (upd (f0) 0 x0)))] t.heap ∧ va_K (dC, dI) vwCl [(cc0, .int)] t ∧ va_D (va_A [(h0, .inr (11, [.ref h1, .int 0])), (h1, .inl (cc0, 60, .inl f0))] sz) [(h0, .inr (11, [.ref h1, .int 1])), (h1, .inl (cc0, 60, .inl (upd (f0) 0 x0)))]) (va_A [(h0, .inr (11, [.ref h1, .int 0])), (h1, .inl (cc0, 60, .inl f0))] sz)) 0 0 (va_A [(h0, .inr (11, [.ref h1, .int 0])), (h1, .inl (cc0, 60, .inl f0))] sz) := by
  refine Met.ofW (cc := cX4_add) (maxL := 2) (ret := none) (by decide) rfl ?_
  intro p e s m args below meth c s₁ B hml hv
  obtain ⟨rfl, hsz, hP, hK, hD0, hF⟩ := hv
  have hx := B.exec
  have hb := B.bytes
  have hr := B.returns
  have hts := atoms_spec (ws := wbX4_add) B.pre
  have hta : ∀ w ∈ wsALL, w.before _ s = true := fun w h => hts w (List.mem_cons_of_mem _ h)
  have hown : s.vm.findClass RX4 = some m.cls := findClass_of_methodNamed B.named
  have hlocks := B.notSynchronized
  subst hsz
  have hD := hD0.self (sz := s.heap.size)
  generalize hAe : va_A [(h0, .inr (11, [.ref h1, .int 0])), (h1, .inl (cc0, 60, .inl f0))] s.heap.size = A at hD hF ⊢
  have hA : ∀ q : Nat, s.heap.size ≤ q → A q := fun q h => by rw [← hAe]; exact Or.inr h
  have hS : va_S A s.heap s.heap [] := va_S.rf
  have hP : va_P (dC, dI) vwCl [(h0, .inr (11, [.ref h1, .int 0])), (h1, .inl (cc0, 60, .inl f0))] s.heap := hP
  have hl := lv_entry ([.ref h0, .int x0]) (n := 2) (Nat.le_of_ble_eq_true rfl)
  rw [lg_entry_eq]
  generalize (lg_sl ([.ref h0, .int x0]) ++ List.replicate (2 - (lg_sl ([.ref h0, .int x0])).length) Slot.unset).toArray = ls at hl ⊢
  have hl : lv_has ls 2 [(0, .ref h0), (1, .int x0)] := hl
  refine lv_aload_n hx hb dX4_add_0 rfl (lv_at hl 0 rfl) ?_
  refine va_get (D := (dC, dI)) (ci := 11) (v := .int 0) (C := RX4) (T := TX4) (N := 2) hx hb hta naX4 hown hK hP 0 rfl rfl 1 (by decide) (hta _ wm14) (fun _ h9 => h9) rfl dX4_add_1 ?_
  refine lv_if_lt (tgt := 39) hx hb dX4_add_4 (by decide) (fun c1 => absurd c1 (by decide)) (fun c1 => ?_)
  refine lv_aload_n hx hb dX4_add_7 rfl (lv_at hl 0 rfl) ?_
  refine va_get (D := (dC, dI)) (ci := 11) (v := .int 0) (C := RX4) (T := TX4) (N := 2) hx hb hta naX4 hown hK hP 0 rfl rfl 1 (by decide) (hta _ wm14) (fun _ h9 => h9) rfl dX4_add_8 ?_
  refine lv_aload_n hx hb dX4_add_11 rfl (lv_at hl 0 rfl) ?_
  refine va_get (D := (dC, dI)) (ci := 11) (v := .ref h1) (C := RX4) (T := TX4) (N := 2) hx hb hta naX4 hown hK hP 0 rfl rfl 0 (by decide) (hta _ wm16) (fun _ h9 => h9) rfl dX4_add_12 ?_
  refine va_alen (v := 60) hx hb hK hP 1 0 rfl rfl (show Int32.ofNat 60 = 60 by decide) dX4_add_15 ?_
  refine lv_icmp_ge (tgt := 39) hx hb dX4_add_16 (by decide) (fun c2 => absurd c2 (by decide)) (fun c2 => ?_)
  refine lv_aload_n hx hb dX4_add_19 rfl (lv_at hl 0 rfl) ?_
  refine va_get (D := (dC, dI)) (ci := 11) (v := .ref h1) (C := RX4) (T := TX4) (N := 2) hx hb hta naX4 hown hK hP 0 rfl rfl 0 (by decide) (hta _ wm16) (fun _ h9 => h9) rfl dX4_add_20 ?_
  refine lv_aload_n hx hb dX4_add_23 rfl (lv_at hl 0 rfl) ?_
  refine va_get (D := (dC, dI)) (ci := 11) (v := .int 0) (C := RX4) (T := TX4) (N := 2) hx hb hta naX4 hown hK hP 0 rfl rfl 1 (by decide) (hta _ wm14) (fun _ h9 => h9) rfl dX4_add_24 ?_
  refine lv_iload_n hx hb dX4_add_27 rfl (lv_at hl 1 rfl) ?_
  refine va_iast hx hb hK hP hD hS 1 0 rfl rfl (vp_in_nI (n := 0) (by decide) (by decide)) dX4_add_28 (fun H locs hP hD hS => ?_)
  have hP : va_P (dC, dI) vwCl [(h0, .inr (11, [.ref h1, .int 0])), (h1, .inl (cc0, 60, .inl (upd (f0) 0 x0)))] H := hP
  have hD : va_D A [(h0, .inr (11, [.ref h1, .int 0])), (h1, .inl (cc0, 60, .inl (upd (f0) 0 x0)))] := hD
  refine lv_aload_n hx hb dX4_add_29 rfl (lv_at hl 0 rfl) ?_
  refine lv_dup hx hb dX4_add_30 rfl ?_
  refine va_get (D := (dC, dI)) (ci := 11) (v := .int 0) (C := RX4) (T := TX4) (N := 2) hx hb hta naX4 hown hK hP 0 rfl rfl 1 (by decide) (hta _ wm14) (fun _ h9 => h9) rfl dX4_add_31 ?_
  refine lv_iconst (v := 1) hx hb dX4_add_34 (by decide) ?_
  refine lv_iadd hx hb dX4_add_35 ?_
  refine lv_topi (fun y3 ey3 => ?_)
  obtain rfl : y3 = 1 := ey3.trans (by decide)
  refine va_put (D := (dC, dI)) (ci := 11) (v := .int 1) (ty := .int) (C := RX4) (T := TX4) (N := 2) hx hb hta naX4 tyX4 tyX4_ok nmX4 hown hK hP hD hS 0 rfl rfl 1 (by decide) (hta _ wm14) (fun _ h9 => h9) rfl (by decide +kernel) rfl rfl (Nat.le_of_ble_eq_true rfl) dX4_add_36 (fun H locs hP hD hS => ?_)
  have hP : va_P (dC, dI) vwCl [(h0, .inr (11, [.ref h1, .int 1])), (h1, .inl (cc0, 60, .inl (upd (f0) 0 x0)))] H := hP
  have hD : va_D A [(h0, .inr (11, [.ref h1, .int 1])), (h1, .inl (cc0, 60, .inl (upd (f0) 0 x0)))] := hD
  have hP9 := hP.sub (ws' := [(h0, .inr (11, [.ref h1, .int 1])), (h1, .inl (cc0, 60, .inl (upd (f0) 0 x0)))]) [0, 1] rfl
  have hD9 := hD.sub (ws' := [(h0, .inr (11, [.ref h1, .int 1])), (h1, .inl (cc0, 60, .inl (upd (f0) 0 x0)))]) [0, 1] (by decide) rfl
  have hK9 := hK.sub (tys' := [(cc0, .int)]) [0] rfl
  refine W.widen (k := 0) (n := 0) (Nat.le_of_ble_eq_true rfl) (Nat.le_of_ble_eq_true rfl) ?_
  exact W.vret hx hb hr (fun t ht hW => ⟨⟨(), rfl, trivial, by rw [ht]; exact hP9, va_K.moved hW.alike hK9, hD9⟩, hS.F ht⟩) hS.2.2 dX4_add_39
set_option maxHeartbeats 4000000 in
set_option maxRecDepth 100000 in
theorem kX4_add_28 (l : Launch) (dC : Nat → ClassId) (dI : Nat → Nat → Nat) (g : Nat → Nat) (sz : Nat) (h0 : Nat) (x0 : Int32) (h1 : Nat) (cc0 : ClassId) (f0 : Nat → Int32) (ex0 : (-1 : Int) ≤ x0.toInt ∧ x0.toInt ≤ (21 : Int)) : Met l yX4_add wbX4_add ({ frames := 0, cells := 0, slots := 0, locals := 0 }) (va_Pc [.ref h0, .int x0] (fun U => U.heap.size = sz ∧ va_P (dC, dI) vwCl [(h0, .inr (11, [.ref h1, .int 0])), (h1, .inl (cc0, 6, .inl f0))] U.heap ∧ va_K (dC, dI) vwCl [(cc0, .int)] U ∧ va_D (fun _ => True) [(h0, .inr (11, [.ref h1, .int 0])), (h1, .inl (cc0, 6, .inl f0))] ∧ ns_F g (va_A [(h0, .inr (11, [.ref h1, .int 0])), (h1, .inl (cc0, 6, .inl f0))] sz) U U.heap)) (va_Qv (fun _ : Unit => True) (fun _ t => va_P (dC, dI) vwCl [(h0, .inr (11, [.ref h1, .int 1])), (h1, .inl (cc0, 6, .inl (upd (f0) 0 x0)))] t.heap ∧ va_K (dC, dI) vwCl [(cc0, .int)] t ∧ va_D (va_A [(h0, .inr (11, [.ref h1, .int 0])), (h1, .inl (cc0, 6, .inl f0))] sz) [(h0, .inr (11, [.ref h1, .int 1])), (h1, .inl (cc0, 6, .inl (upd (f0) 0 x0)))]) (va_A [(h0, .inr (11, [.ref h1, .int 0])), (h1, .inl (cc0, 6, .inl f0))] sz)) 0 0 (va_A [(h0, .inr (11, [.ref h1, .int 0])), (h1, .inl (cc0, 6, .inl f0))] sz) := by
  refine Met.ofW (cc := cX4_add) (maxL := 2) (ret := none) (by decide) rfl ?_
  intro p e s m args below meth c s₁ B hml hv
  obtain ⟨rfl, hsz, hP, hK, hD0, hF⟩ := hv
  have hx := B.exec
  have hb := B.bytes
  have hr := B.returns
  have hts := atoms_spec (ws := wbX4_add) B.pre
  have hta : ∀ w ∈ wsALL, w.before _ s = true := fun w h => hts w (List.mem_cons_of_mem _ h)
  have hown : s.vm.findClass RX4 = some m.cls := findClass_of_methodNamed B.named
  have hlocks := B.notSynchronized
  subst hsz
  have hD := hD0.self (sz := s.heap.size)
  generalize hAe : va_A [(h0, .inr (11, [.ref h1, .int 0])), (h1, .inl (cc0, 6, .inl f0))] s.heap.size = A at hD hF ⊢
  have hA : ∀ q : Nat, s.heap.size ≤ q → A q := fun q h => by rw [← hAe]; exact Or.inr h
  have hS : va_S A s.heap s.heap [] := va_S.rf
  have hP : va_P (dC, dI) vwCl [(h0, .inr (11, [.ref h1, .int 0])), (h1, .inl (cc0, 6, .inl f0))] s.heap := hP
  have hl := lv_entry ([.ref h0, .int x0]) (n := 2) (Nat.le_of_ble_eq_true rfl)
  rw [lg_entry_eq]
  generalize (lg_sl ([.ref h0, .int x0]) ++ List.replicate (2 - (lg_sl ([.ref h0, .int x0])).length) Slot.unset).toArray = ls at hl ⊢
  have hl : lv_has ls 2 [(0, .ref h0), (1, .int x0)] := hl
  refine lv_aload_n hx hb dX4_add_0 rfl (lv_at hl 0 rfl) ?_
  refine va_get (D := (dC, dI)) (ci := 11) (v := .int 0) (C := RX4) (T := TX4) (N := 2) hx hb hta naX4 hown hK hP 0 rfl rfl 1 (by decide) (hta _ wm14) (fun _ h9 => h9) rfl dX4_add_1 ?_
  refine lv_if_lt (tgt := 39) hx hb dX4_add_4 (by decide) (fun c1 => absurd c1 (by decide)) (fun c1 => ?_)
  refine lv_aload_n hx hb dX4_add_7 rfl (lv_at hl 0 rfl) ?_
  refine va_get (D := (dC, dI)) (ci := 11) (v := .int 0) (C := RX4) (T := TX4) (N := 2) hx hb hta naX4 hown hK hP 0 rfl rfl 1 (by decide) (hta _ wm14) (fun _ h9 => h9) rfl dX4_add_8 ?_
  refine lv_aload_n hx hb dX4_add_11 rfl (lv_at hl 0 rfl) ?_
  refine va_get (D := (dC, dI)) (ci := 11) (v := .ref h1) (C := RX4) (T := TX4) (N := 2) hx hb hta naX4 hown hK hP 0 rfl rfl 0 (by decide) (hta _ wm16) (fun _ h9 => h9) rfl dX4_add_12 ?_
  refine va_alen (v := 6) hx hb hK hP 1 0 rfl rfl (show Int32.ofNat 6 = 6 by decide) dX4_add_15 ?_
  refine lv_icmp_ge (tgt := 39) hx hb dX4_add_16 (by decide) (fun c2 => absurd c2 (by decide)) (fun c2 => ?_)
  refine lv_aload_n hx hb dX4_add_19 rfl (lv_at hl 0 rfl) ?_
  refine va_get (D := (dC, dI)) (ci := 11) (v := .ref h1) (C := RX4) (T := TX4) (N := 2) hx hb hta naX4 hown hK hP 0 rfl rfl 0 (by decide) (hta _ wm16) (fun _ h9 => h9) rfl dX4_add_20 ?_
  refine lv_aload_n hx hb dX4_add_23 rfl (lv_at hl 0 rfl) ?_
  refine va_get (D := (dC, dI)) (ci := 11) (v := .int 0) (C := RX4) (T := TX4) (N := 2) hx hb hta naX4 hown hK hP 0 rfl rfl 1 (by decide) (hta _ wm14) (fun _ h9 => h9) rfl dX4_add_24 ?_
  refine lv_iload_n hx hb dX4_add_27 rfl (lv_at hl 1 rfl) ?_
  refine va_iast hx hb hK hP hD hS 1 0 rfl rfl (vp_in_nI (n := 0) (by decide) (by decide)) dX4_add_28 (fun H locs hP hD hS => ?_)
  have hP : va_P (dC, dI) vwCl [(h0, .inr (11, [.ref h1, .int 0])), (h1, .inl (cc0, 6, .inl (upd (f0) 0 x0)))] H := hP
  have hD : va_D A [(h0, .inr (11, [.ref h1, .int 0])), (h1, .inl (cc0, 6, .inl (upd (f0) 0 x0)))] := hD
  refine lv_aload_n hx hb dX4_add_29 rfl (lv_at hl 0 rfl) ?_
  refine lv_dup hx hb dX4_add_30 rfl ?_
  refine va_get (D := (dC, dI)) (ci := 11) (v := .int 0) (C := RX4) (T := TX4) (N := 2) hx hb hta naX4 hown hK hP 0 rfl rfl 1 (by decide) (hta _ wm14) (fun _ h9 => h9) rfl dX4_add_31 ?_
  refine lv_iconst (v := 1) hx hb dX4_add_34 (by decide) ?_
  refine lv_iadd hx hb dX4_add_35 ?_
  refine lv_topi (fun y3 ey3 => ?_)
  obtain rfl : y3 = 1 := ey3.trans (by decide)
  refine va_put (D := (dC, dI)) (ci := 11) (v := .int 1) (ty := .int) (C := RX4) (T := TX4) (N := 2) hx hb hta naX4 tyX4 tyX4_ok nmX4 hown hK hP hD hS 0 rfl rfl 1 (by decide) (hta _ wm14) (fun _ h9 => h9) rfl (by decide +kernel) rfl rfl (Nat.le_of_ble_eq_true rfl) dX4_add_36 (fun H locs hP hD hS => ?_)
  have hP : va_P (dC, dI) vwCl [(h0, .inr (11, [.ref h1, .int 1])), (h1, .inl (cc0, 6, .inl (upd (f0) 0 x0)))] H := hP
  have hD : va_D A [(h0, .inr (11, [.ref h1, .int 1])), (h1, .inl (cc0, 6, .inl (upd (f0) 0 x0)))] := hD
  have hP9 := hP.sub (ws' := [(h0, .inr (11, [.ref h1, .int 1])), (h1, .inl (cc0, 6, .inl (upd (f0) 0 x0)))]) [0, 1] rfl
  have hD9 := hD.sub (ws' := [(h0, .inr (11, [.ref h1, .int 1])), (h1, .inl (cc0, 6, .inl (upd (f0) 0 x0)))]) [0, 1] (by decide) rfl
  have hK9 := hK.sub (tys' := [(cc0, .int)]) [0] rfl
  refine W.widen (k := 0) (n := 0) (Nat.le_of_ble_eq_true rfl) (Nat.le_of_ble_eq_true rfl) ?_
  exact W.vret hx hb hr (fun t ht hW => ⟨⟨(), rfl, trivial, by rw [ht]; exact hP9, va_K.moved hW.alike hK9, hD9⟩, hS.F ht⟩) hS.2.2 dX4_add_39
set_option maxHeartbeats 4000000 in
set_option maxRecDepth 100000 in
theorem kX4_add_6 (l : Launch) (dC : Nat → ClassId) (dI : Nat → Nat → Nat) (g : Nat → Nat) (sz : Nat) (h0 : Nat) (h1 : Nat) (cc0 : ClassId) (f0 : Nat → Int32) : Met l yX4_add wbX4_add ({ frames := 0, cells := 0, slots := 0, locals := 0 }) (va_Pc [.ref h0, .int 2] (fun U => U.heap.size = sz ∧ va_P (dC, dI) vwCl [(h0, .inr (11, [.ref h1, .int 0])), (h1, .inl (cc0, 4960, .inl f0))] U.heap ∧ va_K (dC, dI) vwCl [(cc0, .int)] U ∧ va_D (fun _ => True) [(h0, .inr (11, [.ref h1, .int 0])), (h1, .inl (cc0, 4960, .inl f0))] ∧ ns_F g (va_A [(h0, .inr (11, [.ref h1, .int 0])), (h1, .inl (cc0, 4960, .inl f0))] sz) U U.heap)) (va_Qv (fun _ : Unit => True) (fun _ t => va_P (dC, dI) vwCl [(h0, .inr (11, [.ref h1, .int 1])), (h1, .inl (cc0, 4960, .inl (upd (f0) 0 2)))] t.heap ∧ va_K (dC, dI) vwCl [(cc0, .int)] t ∧ va_D (va_A [(h0, .inr (11, [.ref h1, .int 0])), (h1, .inl (cc0, 4960, .inl f0))] sz) [(h0, .inr (11, [.ref h1, .int 1])), (h1, .inl (cc0, 4960, .inl (upd (f0) 0 2)))]) (va_A [(h0, .inr (11, [.ref h1, .int 0])), (h1, .inl (cc0, 4960, .inl f0))] sz)) 0 0 (va_A [(h0, .inr (11, [.ref h1, .int 0])), (h1, .inl (cc0, 4960, .inl f0))] sz) := by
  refine Met.ofW (cc := cX4_add) (maxL := 2) (ret := none) (by decide) rfl ?_
  intro p e s m args below meth c s₁ B hml hv
  obtain ⟨rfl, hsz, hP, hK, hD0, hF⟩ := hv
  have hx := B.exec
  have hb := B.bytes
  have hr := B.returns
  have hts := atoms_spec (ws := wbX4_add) B.pre
  have hta : ∀ w ∈ wsALL, w.before _ s = true := fun w h => hts w (List.mem_cons_of_mem _ h)
  have hown : s.vm.findClass RX4 = some m.cls := findClass_of_methodNamed B.named
  have hlocks := B.notSynchronized
  subst hsz
  have hD := hD0.self (sz := s.heap.size)
  generalize hAe : va_A [(h0, .inr (11, [.ref h1, .int 0])), (h1, .inl (cc0, 4960, .inl f0))] s.heap.size = A at hD hF ⊢
  have hA : ∀ q : Nat, s.heap.size ≤ q → A q := fun q h => by rw [← hAe]; exact Or.inr h
  have hS : va_S A s.heap s.heap [] := va_S.rf
  have hP : va_P (dC, dI) vwCl [(h0, .inr (11, [.ref h1, .int 0])), (h1, .inl (cc0, 4960, .inl f0))] s.heap := hP
  have hl := lv_entry ([.ref h0, .int 2]) (n := 2) (Nat.le_of_ble_eq_true rfl)
  rw [lg_entry_eq]
  generalize (lg_sl ([.ref h0, .int 2]) ++ List.replicate (2 - (lg_sl ([.ref h0, .int 2])).length) Slot.unset).toArray = ls at hl ⊢
  have hl : lv_has ls 2 [(0, .ref h0), (1, .int 2)] := hl
  refine lv_aload_n hx hb dX4_add_0 rfl (lv_at hl 0 rfl) ?_
  refine va_get (D := (dC, dI)) (ci := 11) (v := .int 0) (C := RX4) (T := TX4) (N := 2) hx hb hta naX4 hown hK hP 0 rfl rfl 1 (by decide) (hta _ wm14) (fun _ h9 => h9) rfl dX4_add_1 ?_
  refine lv_if_lt (tgt := 39) hx hb dX4_add_4 (by decide) (fun c1 => absurd c1 (by decide)) (fun c1 => ?_)
  refine lv_aload_n hx hb dX4_add_7 rfl (lv_at hl 0 rfl) ?_
  refine va_get (D := (dC, dI)) (ci := 11) (v := .int 0) (C := RX4) (T := TX4) (N := 2) hx hb hta naX4 hown hK hP 0 rfl rfl 1 (by decide) (hta _ wm14) (fun _ h9 => h9) rfl dX4_add_8 ?_
  refine lv_aload_n hx hb dX4_add_11 rfl (lv_at hl 0 rfl) ?_
  refine va_get (D := (dC, dI)) (ci := 11) (v := .ref h1) (C := RX4) (T := TX4) (N := 2) hx hb hta naX4 hown hK hP 0 rfl rfl 0 (by decide) (hta _ wm16) (fun _ h9 => h9) rfl dX4_add_12 ?_
  refine va_alen (v := 4960) hx hb hK hP 1 0 rfl rfl (show Int32.ofNat 4960 = 4960 by decide) dX4_add_15 ?_
  refine lv_icmp_ge (tgt := 39) hx hb dX4_add_16 (by decide) (fun c2 => absurd c2 (by decide)) (fun c2 => ?_)
  refine lv_aload_n hx hb dX4_add_19 rfl (lv_at hl 0 rfl) ?_
  refine va_get (D := (dC, dI)) (ci := 11) (v := .ref h1) (C := RX4) (T := TX4) (N := 2) hx hb hta naX4 hown hK hP 0 rfl rfl 0 (by decide) (hta _ wm16) (fun _ h9 => h9) rfl dX4_add_20 ?_
  refine lv_aload_n hx hb dX4_add_23 rfl (lv_at hl 0 rfl) ?_
  refine va_get (D := (dC, dI)) (ci := 11) (v := .int 0) (C := RX4) (T := TX4) (N := 2) hx hb hta naX4 hown hK hP 0 rfl rfl 1 (by decide) (hta _ wm14) (fun _ h9 => h9) rfl dX4_add_24 ?_
  refine lv_iload_n hx hb dX4_add_27 rfl (lv_at hl 1 rfl) ?_
  refine va_iast hx hb hK hP hD hS 1 0 rfl rfl (vp_in_nI (n := 0) (by decide) (by decide)) dX4_add_28 (fun H locs hP hD hS => ?_)
  have hP : va_P (dC, dI) vwCl [(h0, .inr (11, [.ref h1, .int 0])), (h1, .inl (cc0, 4960, .inl (upd (f0) 0 2)))] H := hP
  have hD : va_D A [(h0, .inr (11, [.ref h1, .int 0])), (h1, .inl (cc0, 4960, .inl (upd (f0) 0 2)))] := hD
  refine lv_aload_n hx hb dX4_add_29 rfl (lv_at hl 0 rfl) ?_
  refine lv_dup hx hb dX4_add_30 rfl ?_
  refine va_get (D := (dC, dI)) (ci := 11) (v := .int 0) (C := RX4) (T := TX4) (N := 2) hx hb hta naX4 hown hK hP 0 rfl rfl 1 (by decide) (hta _ wm14) (fun _ h9 => h9) rfl dX4_add_31 ?_
  refine lv_iconst (v := 1) hx hb dX4_add_34 (by decide) ?_
  refine lv_iadd hx hb dX4_add_35 ?_
  refine lv_topi (fun y3 ey3 => ?_)
  obtain rfl : y3 = 1 := ey3.trans (by decide)
  refine va_put (D := (dC, dI)) (ci := 11) (v := .int 1) (ty := .int) (C := RX4) (T := TX4) (N := 2) hx hb hta naX4 tyX4 tyX4_ok nmX4 hown hK hP hD hS 0 rfl rfl 1 (by decide) (hta _ wm14) (fun _ h9 => h9) rfl (by decide +kernel) rfl rfl (Nat.le_of_ble_eq_true rfl) dX4_add_36 (fun H locs hP hD hS => ?_)
  have hP : va_P (dC, dI) vwCl [(h0, .inr (11, [.ref h1, .int 1])), (h1, .inl (cc0, 4960, .inl (upd (f0) 0 2)))] H := hP
  have hD : va_D A [(h0, .inr (11, [.ref h1, .int 1])), (h1, .inl (cc0, 4960, .inl (upd (f0) 0 2)))] := hD
  have hP9 := hP.sub (ws' := [(h0, .inr (11, [.ref h1, .int 1])), (h1, .inl (cc0, 4960, .inl (upd (f0) 0 2)))]) [0, 1] rfl
  have hD9 := hD.sub (ws' := [(h0, .inr (11, [.ref h1, .int 1])), (h1, .inl (cc0, 4960, .inl (upd (f0) 0 2)))]) [0, 1] (by decide) rfl
  have hK9 := hK.sub (tys' := [(cc0, .int)]) [0] rfl
  refine W.widen (k := 0) (n := 0) (Nat.le_of_ble_eq_true rfl) (Nat.le_of_ble_eq_true rfl) ?_
  exact W.vret hx hb hr (fun t ht hW => ⟨⟨(), rfl, trivial, by rw [ht]; exact hP9, va_K.moved hW.alike hK9, hD9⟩, hS.F ht⟩) hS.2.2 dX4_add_39
set_option maxHeartbeats 4000000 in
set_option maxRecDepth 100000 in
theorem kX4_get_28 (l : Launch) (dC : Nat → ClassId) (dI : Nat → Nat → Nat) (g : Nat → Nat) (sz : Nat) (h0 : Nat) (h1 : Nat) (cc0 : ClassId) (x0 : Int32) (x1 : Int32) (x2 : Int32) (x3 : Int32) (x4 : Int32) (x5 : Int32) (ex0 : (-1 : Int) ≤ x0.toInt ∧ x0.toInt ≤ (21 : Int)) (ex1 : (-1 : Int) ≤ x1.toInt ∧ x1.toInt ≤ (21 : Int)) (ex2 : (-1 : Int) ≤ x2.toInt ∧ x2.toInt ≤ (21 : Int)) (ex3 : (-1 : Int) ≤ x3.toInt ∧ x3.toInt ≤ (21 : Int)) (ex4 : (-1 : Int) ≤ x4.toInt ∧ x4.toInt ≤ (21 : Int)) (ex5 : (22 : Int) ≤ x5.toInt ∧ x5.toInt ≤ (2147483647 : Int)) : Met l yX4_get wbX4_get ({ frames := 0, cells := 0, slots := 0, locals := 0 }) (va_Pc [.ref h0, .int 0] (fun U => U.heap.size = sz ∧ va_P (dC, dI) vwCl [(h0, .inr (11, [.ref h1, .int 6])), (h1, .inl (cc0, 6, .inl (upd (upd (upd (upd (upd (upd (fun _ => 0) 0 x0) 1 x1) 2 x2) 3 x3) 4 x4) 5 x5)))] U.heap ∧ va_K (dC, dI) vwCl [(cc0, .int)] U ∧ va_D (fun _ => True) [(h0, .inr (11, [.ref h1, .int 6])), (h1, .inl (cc0, 6, .inl (upd (upd (upd (upd (upd (upd (fun _ => 0) 0 x0) 1 x1) 2 x2) 3 x3) 4 x4) 5 x5)))] ∧ ns_F g (va_A [(h0, .inr (11, [.ref h1, .int 6])), (h1, .inl (cc0, 6, .inl (upd (upd (upd (upd (upd (upd (fun _ => 0) 0 x0) 1 x1) 2 x2) 3 x3) 4 x4) 5 x5)))] sz) U U.heap)) (va_Qi (fun (r : Int32) (_ : Unit) => r = x0) (fun _ t => va_P (dC, dI) vwCl [(h0, .inr (11, [.ref h1, .int 6])), (h1, .inl (cc0, 6, .inl (upd (upd (upd (upd (upd (upd (fun _ => 0) 0 x0) 1 x1) 2 x2) 3 x3) 4 x4) 5 x5)))] t.heap ∧ va_K (dC, dI) vwCl [(cc0, .int)] t ∧ va_D (va_A [(h0, .inr (11, [.ref h1, .int 6])), (h1, .inl (cc0, 6, .inl (upd (upd (upd (upd (upd (upd (fun _ => 0) 0 x0) 1 x1) 2 x2) 3 x3) 4 x4) 5 x5)))] sz) [(h0, .inr (11, [.ref h1, .int 6])), (h1, .inl (cc0, 6, .inl (upd (upd (upd (upd (upd (upd (fun _ => 0) 0 x0) 1 x1) 2 x2) 3 x3) 4 x4) 5 x5)))]) (va_A [(h0, .inr (11, [.ref h1, .int 6])), (h1, .inl (cc0, 6, .inl (upd (upd (upd (upd (upd (upd (fun _ => 0) 0 x0) 1 x1) 2 x2) 3 x3) 4 x4) 5 x5)))] sz)) 0 0 (va_A [(h0, .inr (11, [.ref h1, .int 6])), (h1, .inl (cc0, 6, .inl (upd (upd (upd (upd (upd (upd (fun _ => 0) 0 x0) 1 x1) 2 x2) 3 x3) 4 x4) 5 x5)))] sz) := by
  refine Met.ofW (cc := cX4_get) (maxL := 2) (ret := (some .int)) (by decide) rfl ?_
  intro p e s m args below meth c s₁ B hml hv
  obtain ⟨rfl, hsz, hP, hK, hD0, hF⟩ := hv
  have hx := B.exec
  have hb := B.bytes
  have hr := B.returns
  have hts := atoms_spec (ws := wbX4_get) B.pre
  have hta : ∀ w ∈ wsALL, w.before _ s = true := fun w h => hts w (List.mem_cons_of_mem _ h)
  have hown : s.vm.findClass RX4 = some m.cls := findClass_of_methodNamed B.named
  have hlocks := B.notSynchronized
  subst hsz
  have hD := hD0.self (sz := s.heap.size)
  generalize hAe : va_A [(h0, .inr (11, [.ref h1, .int 6])), (h1, .inl (cc0, 6, .inl (upd (upd (upd (upd (upd (upd (fun _ => 0) 0 x0) 1 x1) 2 x2) 3 x3) 4 x4) 5 x5)))] s.heap.size = A at hD hF ⊢
  have hA : ∀ q : Nat, s.heap.size ≤ q → A q := fun q h => by rw [← hAe]; exact Or.inr h
  have hS : va_S A s.heap s.heap [] := va_S.rf
  have hP : va_P (dC, dI) vwCl [(h0, .inr (11, [.ref h1, .int 6])), (h1, .inl (cc0, 6, .inl (upd (upd (upd (upd (upd (upd (fun _ => 0) 0 x0) 1 x1) 2 x2) 3 x3) 4 x4) 5 x5)))] s.heap := hP
  have hl := lv_entry ([.ref h0, .int 0]) (n := 2) (Nat.le_of_ble_eq_true rfl)
  rw [lg_entry_eq]
  generalize (lg_sl ([.ref h0, .int 0]) ++ List.replicate (2 - (lg_sl ([.ref h0, .int 0])).length) Slot.unset).toArray = ls at hl ⊢
  have hl : lv_has ls 2 [(0, .ref h0), (1, .int 0)] := hl
  refine lv_iload_n hx hb dX4_get_0 rfl (lv_at hl 1 rfl) ?_
  refine lv_if_lt (tgt := 30) hx hb dX4_get_1 (by decide) (fun c1 => absurd c1 (by decide)) (fun c1 => ?_)
  refine lv_iload_n hx hb dX4_get_4 rfl (lv_at hl 1 rfl) ?_
  refine lv_aload_n hx hb dX4_get_5 rfl (lv_at hl 0 rfl) ?_
  refine va_get (D := (dC, dI)) (ci := 11) (v := .int 6) (C := RX4) (T := TX4) (N := 2) hx hb hta naX4 hown hK hP 0 rfl rfl 1 (by decide) (hta _ wm14) (fun _ h9 => h9) rfl dX4_get_6 ?_
  refine lv_icmp_ge (tgt := 30) hx hb dX4_get_9 (by decide) (fun c2 => absurd c2 (by decide)) (fun c2 => ?_)
  refine lv_iload_n hx hb dX4_get_12 rfl (lv_at hl 1 rfl) ?_
  refine lv_aload_n hx hb dX4_get_13 rfl (lv_at hl 0 rfl) ?_
  refine va_get (D := (dC, dI)) (ci := 11) (v := .ref h1) (C := RX4) (T := TX4) (N := 2) hx hb hta naX4 hown hK hP 0 rfl rfl 0 (by decide) (hta _ wm16) (fun _ h9 => h9) rfl dX4_get_14 ?_
  refine va_alen (v := 6) hx hb hK hP 1 0 rfl rfl (show Int32.ofNat 6 = 6 by decide) dX4_get_17 ?_
  refine lv_icmp_ge (tgt := 30) hx hb dX4_get_18 (by decide) (fun c3 => absurd c3 (by decide)) (fun c3 => ?_)
  refine lv_aload_n hx hb dX4_get_21 rfl (lv_at hl 0 rfl) ?_
  refine va_get (D := (dC, dI)) (ci := 11) (v := .ref h1) (C := RX4) (T := TX4) (N := 2) hx hb hta naX4 hown hK hP 0 rfl rfl 0 (by decide) (hta _ wm16) (fun _ h9 => h9) rfl dX4_get_22 ?_
  refine lv_iload_n hx hb dX4_get_25 rfl (lv_at hl 1 rfl) ?_
  refine va_iald hx hb hK hP 1 0 rfl rfl (vp_in_nI (n := 0) (by decide) (by decide)) dX4_get_26 ?_
  refine lv_topi (fun y4 ey4 => ?_)
  obtain rfl : x0 = y4 := ey4.symm
  refine lv_goto (tgt := 31) hx hb dX4_get_27 (by decide) ?_
  have hP9 := hP.sub (ws' := [(h0, .inr (11, [.ref h1, .int 6])), (h1, .inl (cc0, 6, .inl (upd (upd (upd (upd (upd (upd (fun _ => 0) 0 x0) 1 x1) 2 x2) 3 x3) 4 x4) 5 x5)))]) [0, 1] rfl
  have hD9 := hD.sub (ws' := [(h0, .inr (11, [.ref h1, .int 6])), (h1, .inl (cc0, 6, .inl (upd (upd (upd (upd (upd (upd (fun _ => 0) 0 x0) 1 x1) 2 x2) 3 x3) 4 x4) 5 x5)))]) [0, 1] (by decide) rfl
  have hK9 := hK.sub (tys' := [(cc0, .int)]) [0] rfl
  refine W.widen (k := 0) (n := 0) (Nat.le_of_ble_eq_true rfl) (Nat.le_of_ble_eq_true rfl) ?_
  exact W.iret (v := x0) hx hb hr (fun t ht hW => ⟨⟨_, (), rfl, rfl, by rw [ht]; exact hP9, va_K.moved hW.alike hK9, hD9⟩, hS.F ht⟩) hS.2.2 dX4_get_31
set_option maxHeartbeats 4000000 in
set_option maxRecDepth 100000 in
theorem kX4_get_13 (l : Launch) (dC : Nat → ClassId) (dI : Nat → Nat → Nat) (g : Nat → Nat) (sz : Nat) (h0 : Nat) (h1 : Nat) (cc0 : ClassId) (x0 : Int32) (x1 : Int32) (x2 : Int32) (x3 : Int32) (x4 : Int32) (x5 : Int32) (ex0 : (-1 : Int) ≤ x0.toInt ∧ x0.toInt ≤ (21 : Int)) (ex1 : (-1 : Int) ≤ x1.toInt ∧ x1.toInt ≤ (21 : Int)) (ex2 : (-1 : Int) ≤ x2.toInt ∧ x2.toInt ≤ (21 : Int)) (ex3 : (-1 : Int) ≤ x3.toInt ∧ x3.toInt ≤ (21 : Int)) (ex4 : (-2147483648 : Int) ≤ x4.toInt ∧ x4.toInt ≤ (-2 : Int)) : Met l yX4_get wbX4_get ({ frames := 0, cells := 0, slots := 0, locals := 0 }) (va_Pc [.ref h0, .int 2] (fun U => U.heap.size = sz ∧ va_P (dC, dI) vwCl [(h0, .inr (11, [.ref h1, .int 6])), (h1, .inl (cc0, 6, .inl (upd (upd (upd (upd (upd (upd (fun _ => 0) 0 x0) 1 x1) 2 x2) 3 x3) 4 x4) 5 x5)))] U.heap ∧ va_K (dC, dI) vwCl [(cc0, .int)] U ∧ va_D (fun _ => True) [(h0, .inr (11, [.ref h1, .int 6])), (h1, .inl (cc0, 6, .inl (upd (upd (upd (upd (upd (upd (fun _ => 0) 0 x0) 1 x1) 2 x2) 3 x3) 4 x4) 5 x5)))] ∧ ns_F g (va_A [(h0, .inr (11, [.ref h1, .int 6])), (h1, .inl (cc0, 6, .inl (upd (upd (upd (upd (upd (upd (fun _ => 0) 0 x0) 1 x1) 2 x2) 3 x3) 4 x4) 5 x5)))] sz) U U.heap)) (va_Qi (fun (r : Int32) (_ : Unit) => r = x2) (fun _ t => va_P (dC, dI) vwCl [(h0, .inr (11, [.ref h1, .int 6])), (h1, .inl (cc0, 6, .inl (upd (upd (upd (upd (upd (upd (fun _ => 0) 0 x0) 1 x1) 2 x2) 3 x3) 4 x4) 5 x5)))] t.heap ∧ va_K (dC, dI) vwCl [(cc0, .int)] t ∧ va_D (va_A [(h0, .inr (11, [.ref h1, .int 6])), (h1, .inl (cc0, 6, .inl (upd (upd (upd (upd (upd (upd (fun _ => 0) 0 x0) 1 x1) 2 x2) 3 x3) 4 x4) 5 x5)))] sz) [(h0, .inr (11, [.ref h1, .int 6])), (h1, .inl (cc0, 6, .inl (upd (upd (upd (upd (upd (upd (fun _ => 0) 0 x0) 1 x1) 2 x2) 3 x3) 4 x4) 5 x5)))]) (va_A [(h0, .inr (11, [.ref h1, .int 6])), (h1, .inl (cc0, 6, .inl (upd (upd (upd (upd (upd (upd (fun _ => 0) 0 x0) 1 x1) 2 x2) 3 x3) 4 x4) 5 x5)))] sz)) 0 0 (va_A [(h0, .inr (11, [.ref h1, .int 6])), (h1, .inl (cc0, 6, .inl (upd (upd (upd (upd (upd (upd (fun _ => 0) 0 x0) 1 x1) 2 x2) 3 x3) 4 x4) 5 x5)))] sz) := by
  refine Met.ofW (cc := cX4_get) (maxL := 2) (ret := (some .int)) (by decide) rfl ?_
  intro p e s m args below meth c s₁ B hml hv
  obtain ⟨rfl, hsz, hP, hK, hD0, hF⟩ := hv
  have hx := B.exec
  have hb := B.bytes
  have hr := B.returns
  have hts := atoms_spec (ws := wbX4_get) B.pre
  have hta : ∀ w ∈ wsALL, w.before _ s = true := fun w h => hts w (List.mem_cons_of_mem _ h)
  have hown : s.vm.findClass RX4 = some m.cls := findClass_of_methodNamed B.named
  have hlocks := B.notSynchronized
  subst hsz
  have hD := hD0.self (sz := s.heap.size)
  generalize hAe : va_A [(h0, .inr (11, [.ref h1, .int 6])), (h1, .inl (cc0, 6, .inl (upd (upd (upd (upd (upd (upd (fun _ => 0) 0 x0) 1 x1) 2 x2) 3 x3) 4 x4) 5 x5)))] s.heap.size = A at hD hF ⊢
  have hA : ∀ q : Nat, s.heap.size ≤ q → A q := fun q h => by rw [← hAe]; exact Or.inr h
  have hS : va_S A s.heap s.heap [] := va_S.rf
  have hP : va_P (dC, dI) vwCl [(h0, .inr (11, [.ref h1, .int 6])), (h1, .inl (cc0, 6, .inl (upd (upd (upd (upd (upd (upd (fun _ => 0) 0 x0) 1 x1) 2 x2) 3 x3) 4 x4) 5 x5)))] s.heap := hP
  have hl := lv_entry ([.ref h0, .int 2]) (n := 2) (Nat.le_of_ble_eq_true rfl)
  rw [lg_entry_eq]
  generalize (lg_sl ([.ref h0, .int 2]) ++ List.replicate (2 - (lg_sl ([.ref h0, .int 2])).length) Slot.unset).toArray = ls at hl ⊢
  have hl : lv_has ls 2 [(0, .ref h0), (1, .int 2)] := hl
  refine lv_iload_n hx hb dX4_get_0 rfl (lv_at hl 1 rfl) ?_
  refine lv_if_lt (tgt := 30) hx hb dX4_get_1 (by decide) (fun c1 => absurd c1 (by decide)) (fun c1 => ?_)
  refine lv_iload_n hx hb dX4_get_4 rfl (lv_at hl 1 rfl) ?_
  refine lv_aload_n hx hb dX4_get_5 rfl (lv_at hl 0 rfl) ?_
  refine va_get (D := (dC, dI)) (ci := 11) (v := .int 6) (C := RX4) (T := TX4) (N := 2) hx hb hta naX4 hown hK hP 0 rfl rfl 1 (by decide) (hta _ wm14) (fun _ h9 => h9) rfl dX4_get_6 ?_
  refine lv_icmp_ge (tgt := 30) hx hb dX4_get_9 (by decide) (fun c2 => absurd c2 (by decide)) (fun c2 => ?_)
  refine lv_iload_n hx hb dX4_get_12 rfl (lv_at hl 1 rfl) ?_
  refine lv_aload_n hx hb dX4_get_13 rfl (lv_at hl 0 rfl) ?_
  refine va_get (D := (dC, dI)) (ci := 11) (v := .ref h1) (C := RX4) (T := TX4) (N := 2) hx hb hta naX4 hown hK hP 0 rfl rfl 0 (by decide) (hta _ wm16) (fun _ h9 => h9) rfl dX4_get_14 ?_
  refine va_alen (v := 6) hx hb hK hP 1 0 rfl rfl (show Int32.ofNat 6 = 6 by decide) dX4_get_17 ?_
  refine lv_icmp_ge (tgt := 30) hx hb dX4_get_18 (by decide) (fun c3 => absurd c3 (by decide)) (fun c3 => ?_)
  refine lv_aload_n hx hb dX4_get_21 rfl (lv_at hl 0 rfl) ?_
  refine va_get (D := (dC, dI)) (ci := 11) (v := .ref h1) (C := RX4) (T := TX4) (N := 2) hx hb hta naX4 hown hK hP 0 rfl rfl 0 (by decide) (hta _ wm16) (fun _ h9 => h9) rfl dX4_get_22 ?_
  refine lv_iload_n hx hb dX4_get_25 rfl (lv_at hl 1 rfl) ?_
  refine va_iald hx hb hK hP 1 0 rfl rfl (vp_in_nI (n := 2) (by decide) (by decide)) dX4_get_26 ?_
  refine lv_topi (fun y4 ey4 => ?_)
  obtain rfl : x2 = y4 := ey4.symm
  refine lv_goto (tgt := 31) hx hb dX4_get_27 (by decide) ?_
  have hP9 := hP.sub (ws' := [(h0, .inr (11, [.ref h1, .int 6])), (h1, .inl (cc0, 6, .inl (upd (upd (upd (upd (upd (upd (fun _ => 0) 0 x0) 1 x1) 2 x2) 3 x3) 4 x4) 5 x5)))]) [0, 1] rfl
  have hD9 := hD.sub (ws' := [(h0, .inr (11, [.ref h1, .int 6])), (h1, .inl (cc0, 6, .inl (upd (upd (upd (upd (upd (upd (fun _ => 0) 0 x0) 1 x1) 2 x2) 3 x3) 4 x4) 5 x5)))]) [0, 1] (by decide) rfl
  have hK9 := hK.sub (tys' := [(cc0, .int)]) [0] rfl
  refine W.widen (k := 0) (n := 0) (Nat.le_of_ble_eq_true rfl) (Nat.le_of_ble_eq_true rfl) ?_
  exact W.iret (v := x2) hx hb hr (fun t ht hW => ⟨⟨_, (), rfl, rfl, by rw [ht]; exact hP9, va_K.moved hW.alike hK9, hD9⟩, hS.F ht⟩) hS.2.2 dX4_get_31
set_option maxHeartbeats 4000000 in
set_option maxRecDepth 100000 in
theorem kX4_get_41 (l : Launch) (dC : Nat → ClassId) (dI : Nat → Nat → Nat) (g : Nat → Nat) (sz : Nat) (h0 : Nat) (h1 : Nat) (cc0 : ClassId) (x0 : Int32) (x1 : Int32) (x2 : Int32) (x3 : Int32) (x4 : Int32) (x5 : Int32) (ex0 : (-1 : Int) ≤ x0.toInt ∧ x0.toInt ≤ (21 : Int)) (ex1 : (-1 : Int) ≤ x1.toInt ∧ x1.toInt ≤ (21 : Int)) (ex2 : (-1 : Int) ≤ x2.toInt ∧ x2.toInt ≤ (21 : Int)) (ex3 : (22 : Int) ≤ x3.toInt ∧ x3.toInt ≤ (2147483647 : Int)) : Met l yX4_get wbX4_get ({ frames := 0, cells := 0, slots := 0, locals := 0 }) (va_Pc [.ref h0, .int 2] (fun U => U.heap.size = sz ∧ va_P (dC, dI) vwCl [(h0, .inr (11, [.ref h1, .int 6])), (h1, .inl (cc0, 6, .inl (upd (upd (upd (upd (upd (upd (fun _ => 0) 0 x0) 1 x1) 2 x2) 3 x3) 4 x4) 5 x5)))] U.heap ∧ va_K (dC, dI) vwCl [(cc0, .int)] U ∧ va_D (fun _ => True) [(h0, .inr (11, [.ref h1, .int 6])), (h1, .inl (cc0, 6, .inl (upd (upd (upd (upd (upd (upd (fun _ => 0) 0 x0) 1 x1) 2 x2) 3 x3) 4 x4) 5 x5)))] ∧ ns_F g (va_A [(h0, .inr (11, [.ref h1, .int 6])), (h1, .inl (cc0, 6, .inl (upd (upd (upd (upd (upd (upd (fun _ => 0) 0 x0) 1 x1) 2 x2) 3 x3) 4 x4) 5 x5)))] sz) U U.heap)) (va_Qi (fun (r : Int32) (_ : Unit) => r = x2) (fun _ t => va_P (dC, dI) vwCl [(h0, .inr (11, [.ref h1, .int 6])), (h1, .inl (cc0, 6, .inl (upd (upd (upd (upd (upd (upd (fun _ => 0) 0 x0) 1 x1) 2 x2) 3 x3) 4 x4) 5 x5)))] t.heap ∧ va_K (dC, dI) vwCl [(cc0, .int)] t ∧ va_D (va_A [(h0, .inr (11, [.ref h1, .int 6])), (h1, .inl (cc0, 6, .inl (upd (upd (upd (upd (upd (upd (fun _ => 0) 0 x0) 1 x1) 2 x2) 3 x3) 4 x4) 5 x5)))] sz) [(h0, .inr (11, [.ref h1, .int 6])), (h1, .inl (cc0, 6, .inl (upd (upd (upd (upd (upd (upd (fun _ => 0) 0 x0) 1 x1) 2 x2) 3 x3) 4 x4) 5 x5)))]) (va_A [(h0, .inr (11, [.ref h1, .int 6])), (h1, .inl (cc0, 6, .inl (upd (upd (upd (upd (upd (upd (fun _ => 0) 0 x0) 1 x1) 2 x2) 3 x3) 4 x4) 5 x5)))] sz)) 0 0 (va_A [(h0, .inr (11, [.ref h1, .int 6])), (h1, .inl (cc0, 6, .inl (upd (upd (upd (upd (upd (upd (fun _ => 0) 0 x0) 1 x1) 2 x2) 3 x3) 4 x4) 5 x5)))] sz) := by
  refine Met.ofW (cc := cX4_get) (maxL := 2) (ret := (some .int)) (by decide) rfl ?_
  intro p e s m args below meth c s₁ B hml hv
  obtain ⟨rfl, hsz, hP, hK, hD0, hF⟩ := hv
  have hx := B.exec
  have hb := B.bytes
  have hr := B.returns
  have hts := atoms_spec (ws := wbX4_get) B.pre
  have hta : ∀ w ∈ wsALL, w.before _ s = true := fun w h => hts w (List.mem_cons_of_mem _ h)
  have hown : s.vm.findClass RX4 = some m.cls := findClass_of_methodNamed B.named
  have hlocks := B.notSynchronized
  subst hsz
  have hD := hD0.self (sz := s.heap.size)
  generalize hAe : va_A [(h0, .inr (11, [.ref h1, .int 6])), (h1, .inl (cc0, 6, .inl (upd (upd (upd (upd (upd (upd (fun _ => 0) 0 x0) 1 x1) 2 x2) 3 x3) 4 x4) 5 x5)))] s.heap.size = A at hD hF ⊢
  have hA : ∀ q : Nat, s.heap.size ≤ q → A q := fun q h => by rw [← hAe]; exact Or.inr h
  have hS : va_S A s.heap s.heap [] := va_S.rf
  have hP : va_P (dC, dI) vwCl [(h0, .inr (11, [.ref h1, .int 6])), (h1, .inl (cc0, 6, .inl (upd (upd (upd (upd (upd (upd (fun _ => 0) 0 x0) 1 x1) 2 x2) 3 x3) 4 x4) 5 x5)))] s.heap := hP
  have hl := lv_entry ([.ref h0, .int 2]) (n := 2) (Nat.le_of_ble_eq_true rfl)
  rw [lg_entry_eq]
  generalize (lg_sl ([.ref h0, .int 2]) ++ List.replicate (2 - (lg_sl ([.ref h0, .int 2])).length) Slot.unset).toArray = ls at hl ⊢
  have hl : lv_has ls 2 [(0, .ref h0), (1, .int 2)] := hl
  refine lv_iload_n hx hb dX4_get_0 rfl (lv_at hl 1 rfl) ?_
  refine lv_if_lt (tgt := 30) hx hb dX4_get_1 (by decide) (fun c1 => absurd c1 (by decide)) (fun c1 => ?_)
  refine lv_iload_n hx hb dX4_get_4 rfl (lv_at hl 1 rfl) ?_
  refine lv_aload_n hx hb dX4_get_5 rfl (lv_at hl 0 rfl) ?_
  refine va_get (D := (dC, dI)) (ci := 11) (v := .int 6) (C := RX4) (T := TX4) (N := 2) hx hb hta naX4 hown hK hP 0 rfl rfl 1 (by decide) (hta _ wm14) (fun _ h9 => h9) rfl dX4_get_6 ?_
  refine lv_icmp_ge (tgt := 30) hx hb dX4_get_9 (by decide) (fun c2 => absurd c2 (by decide)) (fun c2 => ?_)
  refine lv_iload_n hx hb dX4_get_12 rfl (lv_at hl 1 rfl) ?_
  refine lv_aload_n hx hb dX4_get_13 rfl (lv_at hl 0 rfl) ?_
  refine va_get (D := (dC, dI)) (ci := 11) (v := .ref h1) (C := RX4) (T := TX4) (N := 2) hx hb hta naX4 hown hK hP 0 rfl rfl 0 (by decide) (hta _ wm16) (fun _ h9 => h9) rfl dX4_get_14 ?_
  refine va_alen (v := 6) hx hb hK hP 1 0 rfl rfl (show Int32.ofNat 6 = 6 by decide) dX4_get_17 ?_
  refine lv_icmp_ge (tgt := 30) hx hb dX4_get_18 (by decide) (fun c3 => absurd c3 (by decide)) (fun c3 => ?_)
  refine lv_aload_n hx hb dX4_get_21 rfl (lv_at hl 0 rfl) ?_
  refine va_get (D := (dC, dI)) (ci := 11) (v := .ref h1) (C := RX4) (T := TX4) (N := 2) hx hb hta naX4 hown hK hP 0 rfl rfl 0 (by decide) (hta _ wm16) (fun _ h9 => h9) rfl dX4_get_22 ?_
  refine lv_iload_n hx hb dX4_get_25 rfl (lv_at hl 1 rfl) ?_
  refine va_iald hx hb hK hP 1 0 rfl rfl (vp_in_nI (n := 2) (by decide) (by decide)) dX4_get_26 ?_
  refine lv_topi (fun y4 ey4 => ?_)
  obtain rfl : x2 = y4 := ey4.symm
  refine lv_goto (tgt := 31) hx hb dX4_get_27 (by decide) ?_
  have hP9 := hP.sub (ws' := [(h0, .inr (11, [.ref h1, .int 6])), (h1, .inl (cc0, 6, .inl (upd (upd (upd (upd (upd (upd (fun _ => 0) 0 x0) 1 x1) 2 x2) 3 x3) 4 x4) 5 x5)))]) [0, 1] rfl
  have hD9 := hD.sub (ws' := [(h0, .inr (11, [.ref h1, .int 6])), (h1, .inl (cc0, 6, .inl (upd (upd (upd (upd (upd (upd (fun _ => 0) 0 x0) 1 x1) 2 x2) 3 x3) 4 x4) 5 x5)))]) [0, 1] (by decide) rfl
  have hK9 := hK.sub (tys' := [(cc0, .int)]) [0] rfl
  refine W.widen (k := 0) (n := 0) (Nat.le_of_ble_eq_true rfl) (Nat.le_of_ble_eq_true rfl) ?_
  exact W.iret (v := x2) hx hb hr (fun t ht hW => ⟨⟨_, (), rfl, rfl, by rw [ht]; exact hP9, va_K.moved hW.alike hK9, hD9⟩, hS.F ht⟩) hS.2.2 dX4_get_31
set_option maxHeartbeats 4000000 in
set_option maxRecDepth 100000 in
theorem kX9_lengthAfter_12 (l : Launch) (dC : Nat → ClassId) (dI : Nat → Nat → Nat) (g : Nat → Nat) (sz : Nat) (x0 : Int32) (x1 : Int32) (ex0 : (0 : Int) ≤ x0.toInt ∧ x0.toInt ≤ (2 : Int)) (ex1 : (20 : Int) ≤ x1.toInt ∧ x1.toInt ≤ (21 : Int)) : Met l yX9_lengthAfter wbX9_lengthAfter ({ frames := 0, cells := 0, slots := 0, locals := 0 }) (va_Pc [.int x0, .int x1] (fun U => U.heap.size = sz ∧ va_P (dC, dI) vwCl [] U.heap ∧ va_K (dC, dI) vwCl [] U ∧ va_D (fun _ => True) [] ∧ ns_F g (va_A [] sz) U U.heap)) (va_Qi (fun (r : Int32) (_ : Unit) => r = (ns_len x0 x1)) (fun _ t => va_P (dC, dI) vwCl [] t.heap ∧ va_K (dC, dI) vwCl [] t ∧ va_D (va_A [] sz) []) (va_A [] sz)) 0 0 (va_A [] sz) := by
  refine Met.ofW (cc := cX9_lengthAfter) (maxL := 2) (ret := (some .int)) (by decide) rfl ?_
  intro p e s m args below meth c s₁ B hml hv
  obtain ⟨rfl, hsz, hP, hK, hD0, hF⟩ := hv
  have hx := B.exec
  have hb := B.bytes
  have hr := B.returns
  have hts := atoms_spec (ws := wbX9_lengthAfter) B.pre
  have hta : ∀ w ∈ wsALL, w.before _ s = true := fun w h => hts w (List.mem_cons_of_mem _ h)
  have hown : s.vm.findClass RX9 = some m.cls := findClass_of_methodNamed B.named
  have hlocks := B.notSynchronized
  subst hsz
  have hD := hD0.self (sz := s.heap.size)
  generalize hAe : va_A [] s.heap.size = A at hD hF ⊢
  have hA : ∀ q : Nat, s.heap.size ≤ q → A q := fun q h => by rw [← hAe]; exact Or.inr h
  have hS : va_S A s.heap s.heap [] := va_S.rf
  have hP : va_P (dC, dI) vwCl [] s.heap := hP
  have hl := lv_entry ([.int x0, .int x1]) (n := 2) (Nat.le_of_ble_eq_true rfl)
  rw [lg_entry_eq]
  generalize (lg_sl ([.int x0, .int x1]) ++ List.replicate (2 - (lg_sl ([.int x0, .int x1])).length) Slot.unset).toArray = ls at hl ⊢
  have hl : lv_has ls 2 [(0, .int x0), (1, .int x1)] := hl
  refine lv_iload_n hx hb dX9_lengthAfter_0 rfl (lv_at hl 1 rfl) ?_
  refine lv_iconst (v := (-1)) hx hb dX9_lengthAfter_1 (by decide) ?_
  refine lv_icmp_ne (tgt := 7) hx hb dX9_lengthAfter_2 (by decide) (fun c1 => ?_) (fun c1 => absurd c1 (fun z => absurd (show x1.toInt = (-1 : Int) from congrArg Int32.toInt z) (by omega)))
  refine lv_iload_n hx hb dX9_lengthAfter_7 rfl (lv_at hl 1 rfl) ?_
  refine lv_bipush (v := 21) hx hb dX9_lengthAfter_8 (by decide) ?_
  refine lv_icmp_ne (tgt := 15) hx hb dX9_lengthAfter_10 (by decide) (fun c2 => ?_) (fun c2 => ?_)
  · have ec2 : ¬ x1.toInt = (21 : Int) := fun z => c2 (Int32.toInt_inj.mp z)
    refine lv_iload_n hx hb dX9_lengthAfter_15 rfl (lv_at hl 1 rfl) ?_
    refine lv_bipush (v := 20) hx hb dX9_lengthAfter_16 (by decide) ?_
    refine lv_icmp_ne (tgt := 33) hx hb dX9_lengthAfter_18 (by decide) (fun c3 => absurd (show x1 = (20 : Int32) from Int32.toInt_inj.mp (show x1.toInt = (20 : Int) by omega)) c3) (fun c3 => ?_)
    refine lv_iload_n hx hb dX9_lengthAfter_21 rfl (lv_at hl 0 rfl) ?_
    refine lv_if_le (tgt := 31) hx hb dX9_lengthAfter_22 (by decide) (fun c4 => ?_) (fun c4 => ?_)
    · have ec4 : x0.toInt ≤ (0 : Int) := Int32.le_iff_toInt_le.mp c4
      refine lv_iconst (v := 0) hx hb dX9_lengthAfter_31 (by decide) ?_
      have hP9 := hP.sub (ws' := []) [] rfl
      have hD9 := hD.sub (ws' := []) [] (by decide) rfl
      have hK9 := hK.sub (tys' := []) [] rfl
      refine W.widen (k := 0) (n := 0) (Nat.le_of_ble_eq_true rfl) (Nat.le_of_ble_eq_true rfl) ?_
      have hz9 : 0 = (ns_len x0 x1) := (by unfold ns_len; (repeat' split) <;> first | rfl | (exfalso; omega))
      exact W.iret (v := 0) hx hb hr (fun t ht hW => ⟨⟨_, (), rfl, hz9, by rw [ht]; exact hP9, va_K.moved hW.alike hK9, hD9⟩, hS.F ht⟩) hS.2.2 dX9_lengthAfter_32
    · have ec4 : ¬ x0.toInt ≤ (0 : Int) := fun z => c4 (Int32.le_iff_toInt_le.mpr z)
      refine lv_iload_n hx hb dX9_lengthAfter_25 rfl (lv_at hl 0 rfl) ?_
      refine lv_iconst (v := 1) hx hb dX9_lengthAfter_26 (by decide) ?_
      refine lv_isub hx hb dX9_lengthAfter_27 ?_
      have r5 : (x0 - 1).toInt = x0.toInt - (1 : Int) := fb_subI (show (-2147483648 : Int) ≤ x0.toInt - (1 : Int) by omega) (show x0.toInt - (1 : Int) < (2147483648 : Int) by omega)
      refine lv_goto (tgt := 32) hx hb dX9_lengthAfter_28 (by decide) ?_
      have hP9 := hP.sub (ws' := []) [] rfl
      have hD9 := hD.sub (ws' := []) [] (by decide) rfl
      have hK9 := hK.sub (tys' := []) [] rfl
      refine W.widen (k := 0) (n := 0) (Nat.le_of_ble_eq_true rfl) (Nat.le_of_ble_eq_true rfl) ?_
      have hz9 : (x0 - 1) = (ns_len x0 x1) := (by unfold ns_len; (repeat' split) <;> first | rfl | (exfalso; omega))
      exact W.iret (v := (x0 - 1)) hx hb hr (fun t ht hW => ⟨⟨_, (), rfl, hz9, by rw [ht]; exact hP9, va_K.moved hW.alike hK9, hD9⟩, hS.F ht⟩) hS.2.2 dX9_lengthAfter_32
  · have ec2 : x1.toInt = (21 : Int) := congrArg Int32.toInt c2
    refine lv_iconst (v := 0) hx hb dX9_lengthAfter_13 (by decide) ?_
    have hP9 := hP.sub (ws' := []) [] rfl
    have hD9 := hD.sub (ws' := []) [] (by decide) rfl
    have hK9 := hK.sub (tys' := []) [] rfl
    refine W.widen (k := 0) (n := 0) (Nat.le_of_ble_eq_true rfl) (Nat.le_of_ble_eq_true rfl) ?_
    have hz9 : 0 = (ns_len x0 x1) := (by unfold ns_len; (repeat' split) <;> first | rfl | (exfalso; omega))
    exact W.iret (v := 0) hx hb hr (fun t ht hW => ⟨⟨_, (), rfl, hz9, by rw [ht]; exact hP9, va_K.moved hW.alike hK9, hD9⟩, hS.F ht⟩) hS.2.2 dX9_lengthAfter_14
set_option maxHeartbeats 4000000 in
set_option maxRecDepth 100000 in
theorem kX4_init_3 (l : Launch) (dC : Nat → ClassId) (dI : Nat → Nat → Nat) (g : Nat → Nat) (sz : Nat) (h0 : Nat) (v0 : Value) (v1 : Value) : Met l yX4_init wbX4_init ({ frames := 1, cells := 1, slots := 60, locals := 12 }) (va_Pc [.ref h0, .int 60] (fun U => U.heap.size = sz ∧ va_P (dC, dI) vwCl [(h0, .inr (11, [v0, v1]))] U.heap ∧ va_K (dC, dI) vwCl [] U ∧ va_D (fun _ => True) [(h0, .inr (11, [v0, v1]))] ∧ ns_F g (va_A [(h0, .inr (11, [v0, v1]))] sz) U U.heap)) (va_Qv (fun _ : Unit => True) (fun _ t => ∃ k0 : Nat, ∃ kc1 : ClassId, va_P (dC, dI) vwCl [(h0, .inr (11, [.ref k0, .int 0])), (k0, .inl (kc1, 60, .inl (fun _ => 0)))] t.heap ∧ va_K (dC, dI) vwCl [(kc1, .int)] t ∧ va_D (va_A [(h0, .inr (11, [v0, v1]))] sz) [(h0, .inr (11, [.ref k0, .int 0])), (k0, .inl (kc1, 60, .inl (fun _ => 0)))]) (va_A [(h0, .inr (11, [v0, v1]))] sz)) 1 60 (va_A [(h0, .inr (11, [v0, v1]))] sz) := by
  refine Met.ofW (cc := cX4_init) (maxL := 2) (ret := none) (by decide) rfl ?_
  intro p e s m args below meth c s₁ B hml hv
  obtain ⟨rfl, hsz, hP, hK, hD0, hF⟩ := hv
  have hx := B.exec
  have hb := B.bytes
  have hr := B.returns
  have hts := atoms_spec (ws := wbX4_init) B.pre
  have hta : ∀ w ∈ wsALL, w.before _ s = true := fun w h => hts w (List.mem_cons_of_mem _ h)
  have hown : s.vm.findClass RX4 = some m.cls := findClass_of_methodNamed B.named
  have hlocks := B.notSynchronized
  have hin : meth.name = "<init>" := (name_of_methodNamed B.named B.method).1
  subst hsz
  have hD := hD0.self (sz := s.heap.size)
  generalize hAe : va_A [(h0, .inr (11, [v0, v1]))] s.heap.size = A at hD hF ⊢
  have hA : ∀ q : Nat, s.heap.size ≤ q → A q := fun q h => by rw [← hAe]; exact Or.inr h
  have hS : va_S A s.heap s.heap [] := va_S.rf
  have hP : va_P (dC, dI) vwCl [(h0, .inr (11, [v0, v1]))] s.heap := hP
  have hl := lv_entry ([.ref h0, .int 60]) (n := 2) (Nat.le_of_ble_eq_true rfl)
  rw [lg_entry_eq]
  generalize (lg_sl ([.ref h0, .int 60]) ++ List.replicate (2 - (lg_sl ([.ref h0, .int 60])).length) Slot.unset).toArray = ls at hl ⊢
  have hl : lv_has ls 2 [(0, .ref h0), (1, .int 60)] := hl
  refine lv_aload_n hx hb dX4_init_0 rfl (lv_at hl 0 rfl) ?_
  refine W.objInit hx hb hown (hta _ wm13) (hta _ wm4) (hta _ wm5) rfl (by rw [hml]; exact hl.1) rfl dX4_init_1 (Nat.le_of_ble_eq_true rfl) (Nat.le_of_ble_eq_true rfl) ?_
  refine W.eq (g2 := F0 m 4 ls []) rfl ?_
  refine lv_aload_n hx hb dX4_init_4 rfl (lv_at hl 0 rfl) ?_
  refine lv_iconst (v := 0) hx hb dX4_init_5 (by decide) ?_
  refine va_put (D := (dC, dI)) (ci := 11) (v := .int 0) (ty := .int) (C := RX4) (T := TX4) (N := 2) hx hb hta naX4 tyX4 tyX4_ok nmX4 hown hK hP hD hS 0 rfl rfl 1 (by decide) (hta _ wm14) (fun _ h9 => h9) rfl (by decide +kernel) rfl rfl (Nat.le_of_ble_eq_true rfl) dX4_init_6 (fun H locs hP hD hS => ?_)
  have hP : va_P (dC, dI) vwCl [(h0, .inr (11, [v0, .int 0]))] H := hP
  have hD : va_D A [(h0, .inr (11, [v0, .int 0]))] := hD
  refine lv_aload_n hx hb dX4_init_9 rfl (lv_at hl 0 rfl) ?_
  refine lv_iload_n hx hb dX4_init_10 rfl (lv_at hl 1 rfl) ?_
  refine lv_if_le (tgt := 18) hx hb dX4_init_11 (by decide) (fun c1 => absurd c1 (by decide)) (fun c1 => ?_)
  refine lv_iload_n hx hb dX4_init_14 rfl (lv_at hl 1 rfl) ?_
  refine lv_goto (tgt := 19) hx hb dX4_init_15 (by decide) ?_
  refine va_newa (atype := .int) hx hb (hta _ wm15) rfl hK hP hD hS hA (N' := 60) (a0 := (60, .inl (fun _ => 0))) (fun _ => rfl) (by decide) (by decide) (Nat.le_of_ble_eq_true rfl) (Nat.le_of_ble_eq_true rfl) (Nat.le_of_ble_eq_true rfl) dX4_init_19 (fun q2 cyq2 H hK hP hD hS => ?_)
  have hP : va_P (dC, dI) vwCl [(h0, .inr (11, [v0, .int 0])), (q2, .inl (cyq2, 60, .inl (fun _ => 0)))] H := hP
  have hD : va_D A [(h0, .inr (11, [v0, .int 0])), (q2, .inl (cyq2, 60, .inl (fun _ => 0)))] := hD
  have hK : va_K (dC, dI) vwCl [(cyq2, .int)] s := hK
  refine W.widen (k := 1) (n := 60) (Nat.le_of_ble_eq_true rfl) (Nat.le_of_ble_eq_true rfl) ?_
  refine va_putF (D := (dC, dI)) (ci := 11) (v := .ref q2) (ty := .array (.int)) (C := RX4) (T := TX4) (N := 2) hx hb hta naX4 tyX4 tyX4_ok nmX4 hown hK hP hD hS 0 rfl rfl 0 (by decide) (hta _ wm16) (fun _ h9 => h9) rfl hin rfl (by decide +kernel) rfl rfl (Nat.le_of_ble_eq_true rfl) dX4_init_21 (fun H locs hP hD hS => ?_)
  have hP : va_P (dC, dI) vwCl [(h0, .inr (11, [.ref q2, .int 0])), (q2, .inl (cyq2, 60, .inl (fun _ => 0)))] H := hP
  have hD : va_D A [(h0, .inr (11, [.ref q2, .int 0])), (q2, .inl (cyq2, 60, .inl (fun _ => 0)))] := hD
  have hP9 := hP.sub (ws' := [(h0, .inr (11, [.ref q2, .int 0])), (q2, .inl (cyq2, 60, .inl (fun _ => 0)))]) [0, 1] rfl
  have hD9 := hD.sub (ws' := [(h0, .inr (11, [.ref q2, .int 0])), (q2, .inl (cyq2, 60, .inl (fun _ => 0)))]) [0, 1] (by decide) rfl
  have hK9 := hK.sub (tys' := [(cyq2, .int)]) [0] rfl
  refine W.widen (k := 1) (n := 60) (Nat.le_of_ble_eq_true rfl) (Nat.le_of_ble_eq_true rfl) ?_
  exact W.vret hx hb hr (fun t ht hW => ⟨⟨(), rfl, trivial, q2, cyq2, by rw [ht]; exact hP9, va_K.moved hW.alike hK9, hD9⟩, hS.F ht⟩) hS.2.2 dX4_init_24
set_option maxHeartbeats 4000000 in
set_option maxRecDepth 100000 in
theorem kX4_cut_6 (l : Launch) (dC : Nat → ClassId) (dI : Nat → Nat → Nat) (g : Nat → Nat) (sz : Nat) (h0 : Nat) (x0 : Int32) (v0 : Value) (ex0 : (0 : Int) ≤ x0.toInt ∧ x0.toInt ≤ (3 : Int)) : Met l yX4_cut wbX4_cut ({ frames := 0, cells := 0, slots := 0, locals := 0 }) (va_Pc [.ref h0, .int x0] (fun U => U.heap.size = sz ∧ va_P (dC, dI) vwCl [(h0, .inr (11, [v0, .int x0]))] U.heap ∧ va_K (dC, dI) vwCl [] U ∧ va_D (fun _ => True) [(h0, .inr (11, [v0, .int x0]))] ∧ ns_F g (va_A [(h0, .inr (11, [v0, .int x0]))] sz) U U.heap)) (va_Qv (fun _ : Unit => True) (fun _ t => va_P (dC, dI) vwCl [(h0, .inr (11, [v0, .int (ns_cut x0 x0)]))] t.heap ∧ va_K (dC, dI) vwCl [] t ∧ va_D (va_A [(h0, .inr (11, [v0, .int x0]))] sz) [(h0, .inr (11, [v0, .int (ns_cut x0 x0)]))]) (va_A [(h0, .inr (11, [v0, .int x0]))] sz)) 0 0 (va_A [(h0, .inr (11, [v0, .int x0]))] sz) := by
  refine Met.ofW (cc := cX4_cut) (maxL := 2) (ret := none) (by decide) rfl ?_
  intro p e s m args below meth c s₁ B hml hv
  obtain ⟨rfl, hsz, hP, hK, hD0, hF⟩ := hv
  have hx := B.exec
  have hb := B.bytes
  have hr := B.returns
  have hts := atoms_spec (ws := wbX4_cut) B.pre
  have hta : ∀ w ∈ wsALL, w.before _ s = true := fun w h => hts w (List.mem_cons_of_mem _ h)
  have hown : s.vm.findClass RX4 = some m.cls := findClass_of_methodNamed B.named
  have hlocks := B.notSynchronized
  subst hsz
  have hD := hD0.self (sz := s.heap.size)
  generalize hAe : va_A [(h0, .inr (11, [v0, .int x0]))] s.heap.size = A at hD hF ⊢
  have hA : ∀ q : Nat, s.heap.size ≤ q → A q := fun q h => by rw [← hAe]; exact Or.inr h
  have hS : va_S A s.heap s.heap [] := va_S.rf
  have hP : va_P (dC, dI) vwCl [(h0, .inr (11, [v0, .int x0]))] s.heap := hP
  have hl := lv_entry ([.ref h0, .int x0]) (n := 2) (Nat.le_of_ble_eq_true rfl)
  rw [lg_entry_eq]
  generalize (lg_sl ([.ref h0, .int x0]) ++ List.replicate (2 - (lg_sl ([.ref h0, .int x0])).length) Slot.unset).toArray = ls at hl ⊢
  have hl : lv_has ls 2 [(0, .ref h0), (1, .int x0)] := hl
  refine lv_iload_n hx hb dX4_cut_0 rfl (lv_at hl 1 rfl) ?_
  refine lv_if_lt (tgt := 17) hx hb dX4_cut_1 (by decide) (fun c1 => absurd c1 (fun z => absurd (show x0.toInt < (0 : Int) from Int32.lt_iff_toInt_lt.mp z) (by omega))) (fun c1 => ?_)
  refine lv_iload_n hx hb dX4_cut_4 rfl (lv_at hl 1 rfl) ?_
  refine lv_aload_n hx hb dX4_cut_5 rfl (lv_at hl 0 rfl) ?_
  refine va_get (D := (dC, dI)) (ci := 11) (v := .int x0) (C := RX4) (T := TX4) (N := 2) hx hb hta naX4 hown hK hP 0 rfl rfl 1 (by decide) (hta _ wm14) (fun _ h9 => h9) rfl dX4_cut_6 ?_
  refine lv_icmp_ge (tgt := 17) hx hb dX4_cut_9 (by decide) (fun c2 => ?_) (fun c2 => ?_)
  · have ec2 : x0.toInt ≤ x0.toInt := Int32.le_iff_toInt_le.mp c2
    have w3 : x0 = (ns_cut x0 x0) := (by unfold ns_cut; (repeat' split) <;> first | rfl | (exfalso; omega))
    have hP : va_P (dC, dI) vwCl [(h0, .inr (11, [v0, .int (ns_cut x0 x0)]))] s.heap := by rw [← w3]; exact hP
    have hD : va_D A [(h0, .inr (11, [v0, .int (ns_cut x0 x0)]))] := by rw [← w3]; exact hD
    have hP9 := hP.sub (ws' := [(h0, .inr (11, [v0, .int (ns_cut x0 x0)]))]) [0] rfl
    have hD9 := hD.sub (ws' := [(h0, .inr (11, [v0, .int (ns_cut x0 x0)]))]) [0] (by decide) rfl
    have hK9 := hK.sub (tys' := []) [] rfl
    refine W.widen (k := 0) (n := 0) (Nat.le_of_ble_eq_true rfl) (Nat.le_of_ble_eq_true rfl) ?_
    exact W.vret hx hb hr (fun t ht hW => ⟨⟨(), rfl, trivial, by rw [ht]; exact hP9, va_K.moved hW.alike hK9, hD9⟩, hS.F ht⟩) hS.2.2 dX4_cut_17
  · have ec2 : ¬ x0.toInt ≤ x0.toInt := fun z => c2 (Int32.le_iff_toInt_le.mpr z)
    refine lv_aload_n hx hb dX4_cut_12 rfl (lv_at hl 0 rfl) ?_
    refine lv_iload_n hx hb dX4_cut_13 rfl (lv_at hl 1 rfl) ?_
    refine va_put (D := (dC, dI)) (ci := 11) (v := .int x0) (ty := .int) (C := RX4) (T := TX4) (N := 2) hx hb hta naX4 tyX4 tyX4_ok nmX4 hown hK hP hD hS 0 rfl rfl 1 (by decide) (hta _ wm14) (fun _ h9 => h9) rfl (by decide +kernel) rfl rfl (Nat.le_of_ble_eq_true rfl) dX4_cut_14 (fun H locs hP hD hS => ?_)
    have hP : va_P (dC, dI) vwCl [(h0, .inr (11, [v0, .int x0]))] H := hP
    have hD : va_D A [(h0, .inr (11, [v0, .int x0]))] := hD
    have w4 : x0 = (ns_cut x0 x0) := (by unfold ns_cut; (repeat' split) <;> first | rfl | (exfalso; omega))
    have hP : va_P (dC, dI) vwCl [(h0, .inr (11, [v0, .int (ns_cut x0 x0)]))] H := by rw [← w4]; exact hP
    have hD : va_D A [(h0, .inr (11, [v0, .int (ns_cut x0 x0)]))] := by rw [← w4]; exact hD
    have hP9 := hP.sub (ws' := [(h0, .inr (11, [v0, .int (ns_cut x0 x0)]))]) [0] rfl
    have hD9 := hD.sub (ws' := [(h0, .inr (11, [v0, .int (ns_cut x0 x0)]))]) [0] (by decide) rfl
    have hK9 := hK.sub (tys' := []) [] rfl
    refine W.widen (k := 0) (n := 0) (Nat.le_of_ble_eq_true rfl) (Nat.le_of_ble_eq_true rfl) ?_
    exact W.vret hx hb hr (fun t ht hW => ⟨⟨(), rfl, trivial, by rw [ht]; exact hP9, va_K.moved hW.alike hK9, hD9⟩, hS.F ht⟩) hS.2.2 dX4_cut_17
set_option maxHeartbeats 4000000 in
set_option maxRecDepth 100000 in
theorem kX9_word_22 (l : Launch) (dC : Nat → ClassId) (dI : Nat → Nat → Nat) (g : Nat → Nat) (sz : Nat) (h0 : Nat) (x0 : Int32) (x1 : Int32) (ex0 : (0 : Int) ≤ x0.toInt ∧ x0.toInt ≤ (25 : Int)) (ex1 : (10 : Int) ≤ x1.toInt ∧ x1.toInt ≤ (2147483647 : Int)) (hlt : l.stackTraces = false) : vx_Met l yX9_word wbX9_word ({ frames := 6, cells := 1, slots := 6, locals := 82 }) (va_Pc [.ref h0, .int x0, .int x1] (fun U => U.heap.size = sz ∧ va_P (dC, dI) vwCl [] U.heap ∧ va_K (dC, dI) vwCl [] U ∧ va_D (fun _ => True) [] ∧ ns_F g (va_A [] sz) U U.heap)) (va_Qv (fun _ : Unit => False) (fun _ _ => True) (va_A [] sz)) (vx_X (fun _ : Unit => True) (fun E _ _ => E = "java/lang/IllegalArgumentException") (va_A [] sz)) 1 6 (va_A [] sz) := by
  refine vx_ofW (cc := cX9_word) (maxL := 4) (ret := (some .int)) (by decide) rfl ?_
  intro p e s m args below meth c s₁ B hml hnox hv
  obtain ⟨rfl, hsz, hP, hK, hD0, hF⟩ := hv
  have hx := B.exec
  have hb := B.bytes
  have hr := B.returns
  have hts := atoms_spec (ws := wbX9_word) B.pre
  have hta : ∀ w ∈ wsALL, w.before _ s = true := fun w h => hts w (List.mem_cons_of_mem _ h)
  have hown : s.vm.findClass RX9 = some m.cls := findClass_of_methodNamed B.named
  have hlocks := B.notSynchronized
  subst hsz
  have hD := hD0.self (sz := s.heap.size)
  generalize hAe : va_A [] s.heap.size = A at hD hF ⊢
  have hA : ∀ q : Nat, s.heap.size ≤ q → A q := fun q h => by rw [← hAe]; exact Or.inr h
  have hS : va_S A s.heap s.heap [] := va_S.rf
  have hP : va_P (dC, dI) vwCl [] s.heap := hP
  have hl := lv_entry ([.ref h0, .int x0, .int x1]) (n := 4) (Nat.le_of_ble_eq_true rfl)
  rw [lg_entry_eq]
  generalize (lg_sl ([.ref h0, .int x0, .int x1]) ++ List.replicate (4 - (lg_sl ([.ref h0, .int x0, .int x1])).length) Slot.unset).toArray = ls at hl ⊢
  have hl : lv_has ls 4 [(0, .ref h0), (1, .int x0), (2, .int x1)] := hl
  refine lv_iload_n hx hb dX9_word_0 rfl (lv_at hl 1 rfl) ?_
  refine lv_if_lt (tgt := 10) hx hb dX9_word_1 (by decide) (fun c1 => absurd c1 (fun z => absurd (show x0.toInt < (0 : Int) from Int32.lt_iff_toInt_lt.mp z) (by omega))) (fun c1 => ?_)
  refine lv_iload_n hx hb dX9_word_4 rfl (lv_at hl 1 rfl) ?_
  refine lv_bipush (v := 25) hx hb dX9_word_5 (by decide) ?_
  refine lv_icmp_le (tgt := 20) hx hb dX9_word_7 (by decide) (fun c2 => ?_) (fun c2 => absurd (show x0 ≤ (25 : Int32) from Int32.le_iff_toInt_le.mpr (show x0.toInt ≤ (25 : Int) by omega)) c2)
  refine lv_iload_n hx hb dX9_word_20 rfl (lv_at hl 2 rfl) ?_
  refine lv_iconst (v := 1) hx hb dX9_word_21 (by decide) ?_
  refine lv_icmp_lt (tgt := 31) hx hb dX9_word_22 (by decide) (fun c3 => absurd c3 (fun z => absurd (show x1.toInt < (1 : Int) from Int32.lt_iff_toInt_lt.mp z) (by omega))) (fun c3 => ?_)
  refine lv_iload_n hx hb dX9_word_25 rfl (lv_at hl 2 rfl) ?_
  refine lv_bipush (v := 9) hx hb dX9_word_26 (by decide) ?_
  refine lv_icmp_le (tgt := 41) hx hb dX9_word_28 (by decide) (fun c4 => absurd c4 (fun z => absurd (show x1.toInt ≤ (9 : Int) from Int32.le_iff_toInt_le.mp z) (by omega))) (fun c4 => ?_)
  exact vx_throwS hx hb hlt (text := "length is 1 to 9") (sa := (g 12)) (names := ["java/lang/RuntimeException", "java/lang/Exception"]) hown (by decide) (by decide) (hta _ wm225) (hta _ wm226) (ns_f22 hF) (vx_hat (B := [.declares ⟨"java/lang/RuntimeException", "<init>", "(Ljava/lang/String;)V"⟩, .declares ⟨"java/lang/Exception", "<init>", "(Ljava/lang/String;)V"⟩, .declares ⟨"java/lang/Throwable", "<init>", "(Ljava/lang/String;)V"⟩, .castable "java/lang/IllegalArgumentException" "java/lang/IllegalArgumentException"]) (fun w9 h9 => hta w9 (vm0 w9 h9)) (by decide +kernel) (vx_c (va_Nw.use rfl (ns_f12 hF)) (vx_c (va_Nw.use rfl (ns_f13 hF)) (vx_c (va_Nw.use rfl (ns_f14 hF)) (vx_c (va_Nw.use rfl (ns_f11 hF)) vx_n))))) (by decide +kernel) (ns_f18 hF) (ns_f19 hF) hS (by rw [hml]; exact hl.1) dX9_word_31 dX9_word_34 dX9_word_35 dX9_word_37 dX9_word_40 (fun x hx => (hnox x hx).elim) (Nat.le_of_ble_eq_true rfl) (Nat.le_of_ble_eq_true rfl) (Nat.le_of_ble_eq_true rfl) (Nat.le_of_ble_eq_true rfl) hlocks (fun t9 hal hsz9 hk9 => ⟨(), trivial, rfl, Nat.le_trans hS.1 hsz9, fun q hq1 hq2 => (hk9 q (Nat.lt_of_lt_of_le hq1 hS.1)).trans (hS.2.1 q hq1 hq2)⟩) hS.2.2 (Nat.le_of_ble_eq_true rfl) (Nat.le_of_ble_eq_true rfl)
set_option maxHeartbeats 4000000 in
set_option maxRecDepth 100000 in
theorem kX9_stateOf_7 (l : Launch) (dC : Nat → ClassId) (dI : Nat → Nat → Nat) (g : Nat → Nat) (sz : Nat) (h0 : Nat) (v0 : Value) (v1 : Value) (v2 : Value) (v3 : Value) (v4 : Value) (v5 : Value) (v6 : Value) (v7 : Value) (v8 : Value) (v9 : Value) (v10 : Value) (v11 : Value) (v12 : Value) (v13 : Value) (v14 : Value) : Met l yX9_stateOf wbX9_stateOf ({ frames := 0, cells := 0, slots := 0, locals := 0 }) (va_Pc [.ref h0, .int 6] (fun U => U.heap.size = sz ∧ va_P (dC, dI) vwCl [(h0, .inr (16, [v0, v1, v2, v3, v4, v5, v6, v7, v8, v9, v10, v11, v12, v13, v14, .int 0]))] U.heap ∧ va_K (dC, dI) vwCl [] U ∧ va_D (fun _ => True) [(h0, .inr (16, [v0, v1, v2, v3, v4, v5, v6, v7, v8, v9, v10, v11, v12, v13, v14, .int 0]))] ∧ ns_F g (va_A [(h0, .inr (16, [v0, v1, v2, v3, v4, v5, v6, v7, v8, v9, v10, v11, v12, v13, v14, .int 0]))] sz) U U.heap)) (va_Qi (fun (r : Int32) (_ : Unit) => r = 0) (fun _ t => va_P (dC, dI) vwCl [(h0, .inr (16, [v0, v1, v2, v3, v4, v5, v6, v7, v8, v9, v10, v11, v12, v13, v14, .int 0]))] t.heap ∧ va_K (dC, dI) vwCl [] t ∧ va_D (va_A [(h0, .inr (16, [v0, v1, v2, v3, v4, v5, v6, v7, v8, v9, v10, v11, v12, v13, v14, .int 0]))] sz) [(h0, .inr (16, [v0, v1, v2, v3, v4, v5, v6, v7, v8, v9, v10, v11, v12, v13, v14, .int 0]))]) (va_A [(h0, .inr (16, [v0, v1, v2, v3, v4, v5, v6, v7, v8, v9, v10, v11, v12, v13, v14, .int 0]))] sz)) 0 0 (va_A [(h0, .inr (16, [v0, v1, v2, v3, v4, v5, v6, v7, v8, v9, v10, v11, v12, v13, v14, .int 0]))] sz) := by
  refine Met.ofW (cc := cX9_stateOf) (maxL := 2) (ret := (some .int)) (by decide) rfl ?_
  intro p e s m args below meth c s₁ B hml hv
  obtain ⟨rfl, hsz, hP, hK, hD0, hF⟩ := hv
  have hx := B.exec
  have hb := B.bytes
  have hr := B.returns
  have hts := atoms_spec (ws := wbX9_stateOf) B.pre
  have hta : ∀ w ∈ wsALL, w.before _ s = true := fun w h => hts w (List.mem_cons_of_mem _ h)
  have hown : s.vm.findClass RX9 = some m.cls := findClass_of_methodNamed B.named
  have hlocks := B.notSynchronized
  subst hsz
  have hD := hD0.self (sz := s.heap.size)
  generalize hAe : va_A [(h0, .inr (16, [v0, v1, v2, v3, v4, v5, v6, v7, v8, v9, v10, v11, v12, v13, v14, .int 0]))] s.heap.size = A at hD hF ⊢
  have hA : ∀ q : Nat, s.heap.size ≤ q → A q := fun q h => by rw [← hAe]; exact Or.inr h
  have hS : va_S A s.heap s.heap [] := va_S.rf
  have hP : va_P (dC, dI) vwCl [(h0, .inr (16, [v0, v1, v2, v3, v4, v5, v6, v7, v8, v9, v10, v11, v12, v13, v14, .int 0]))] s.heap := hP
  have hl := lv_entry ([.ref h0, .int 6]) (n := 2) (Nat.le_of_ble_eq_true rfl)
  rw [lg_entry_eq]
  generalize (lg_sl ([.ref h0, .int 6]) ++ List.replicate (2 - (lg_sl ([.ref h0, .int 6])).length) Slot.unset).toArray = ls at hl ⊢
  have hl : lv_has ls 2 [(0, .ref h0), (1, .int 6)] := hl
  refine lv_iload_n hx hb dX9_stateOf_0 rfl (lv_at hl 1 rfl) ?_
  refine lv_tableIn (off := 79) (tgt := 80) hx hb dX9_stateOf_1 (by decide) (by decide) (by decide) (by decide) ?_
  refine lv_aload_n hx hb dX9_stateOf_80 rfl (lv_at hl 0 rfl) ?_
  refine va_get (D := (dC, dI)) (ci := 16) (v := .int 0) (C := RX9) (T := TX9) (N := 16) hx hb hta naX9 hown hK hP 0 rfl rfl 15 (by decide) (hta _ wm172) (fun _ h9 => h9) rfl dX9_stateOf_81 ?_
  have hP9 := hP.sub (ws' := [(h0, .inr (16, [v0, v1, v2, v3, v4, v5, v6, v7, v8, v9, v10, v11, v12, v13, v14, .int 0]))]) [0] rfl
  have hD9 := hD.sub (ws' := [(h0, .inr (16, [v0, v1, v2, v3, v4, v5, v6, v7, v8, v9, v10, v11, v12, v13, v14, .int 0]))]) [0] (by decide) rfl
  have hK9 := hK.sub (tys' := []) [] rfl
  refine W.widen (k := 0) (n := 0) (Nat.le_of_ble_eq_true rfl) (Nat.le_of_ble_eq_true rfl) ?_
  exact W.iret (v := 0) hx hb hr (fun t ht hW => ⟨⟨_, (), rfl, rfl, by rw [ht]; exact hP9, va_K.moved hW.alike hK9, hD9⟩, hS.F ht⟩) hS.2.2 dX9_stateOf_84
set_option maxHeartbeats 4000000 in
set_option maxRecDepth 100000 in
theorem kJ0_isEmpty_aae02_2 (l : Launch) (dC : Nat → ClassId) (dI : Nat → Nat → Nat) (g : Nat → Nat) (sz : Nat) (h0 : Nat) (h1 : Nat) (v0 : Value) (v1 : Value) (v2 : Value) (cc0 : ClassId) (f0 : Nat → Int32) (hf0 : sb_Fit f0) : Met l yJ0_isEmpty_aae02 wbJ0_isEmpty_aae02 ({ frames := 0, cells := 0, slots := 0, locals := 0 }) (va_Pc [.ref h0] (fun U => U.heap.size = sz ∧ va_P (dC, dI) vwCl [(h0, .inr (0, [.ref h1, v0, v1, v2])), (h1, .inl (cc0, 1, .inl f0))] U.heap ∧ va_K (dC, dI) vwCl [(cc0, .byte)] U ∧ va_D (fun _ => True) [(h0, .inr (0, [.ref h1, v0, v1, v2])), (h1, .inl (cc0, 1, .inl f0))] ∧ ns_F g (va_A [(h0, .inr (0, [.ref h1, v0, v1, v2])), (h1, .inl (cc0, 1, .inl f0))] sz) U U.heap)) (va_Qi (fun (r : Int32) (_ : Unit) => r = 0) (fun _ t => va_P (dC, dI) vwCl [(h0, .inr (0, [.ref h1, v0, v1, v2])), (h1, .inl (cc0, 1, .inl f0))] t.heap ∧ va_K (dC, dI) vwCl [(cc0, .byte)] t ∧ va_D (va_A [(h0, .inr (0, [.ref h1, v0, v1, v2])), (h1, .inl (cc0, 1, .inl f0))] sz) [(h0, .inr (0, [.ref h1, v0, v1, v2])), (h1, .inl (cc0, 1, .inl f0))]) (va_A [(h0, .inr (0, [.ref h1, v0, v1, v2])), (h1, .inl (cc0, 1, .inl f0))] sz)) 0 0 (va_A [(h0, .inr (0, [.ref h1, v0, v1, v2])), (h1, .inl (cc0, 1, .inl f0))] sz) := by
  refine Met.ofW (cc := cJ0_isEmpty_aae02) (maxL := 1) (ret := (some .boolean)) (by decide) rfl ?_
  intro p e s m args below meth c s₁ B hml hv
  obtain ⟨rfl, hsz, hP, hK, hD0, hF⟩ := hv
  have hx := B.exec
  have hb := B.bytes
  have hr := B.returns
  have hts := atoms_spec (ws := wbJ0_isEmpty_aae02) B.pre
  have hta : ∀ w ∈ wsALL, w.before _ s = true := fun w h => hts w (List.mem_cons_of_mem _ h)
  have hown : s.vm.findClass RJ0 = some m.cls := findClass_of_methodNamed B.named
  have hlocks := B.notSynchronized
  subst hsz
  have hD := hD0.self (sz := s.heap.size)
  generalize hAe : va_A [(h0, .inr (0, [.ref h1, v0, v1, v2])), (h1, .inl (cc0, 1, .inl f0))] s.heap.size = A at hD hF ⊢
  have hA : ∀ q : Nat, s.heap.size ≤ q → A q := fun q h => by rw [← hAe]; exact Or.inr h
  have hS : va_S A s.heap s.heap [] := va_S.rf
  have hP : va_P (dC, dI) vwCl [(h0, .inr (0, [.ref h1, v0, v1, v2])), (h1, .inl (cc0, 1, .inl f0))] s.heap := hP
  have hl := lv_entry ([.ref h0]) (n := 1) (Nat.le_of_ble_eq_true rfl)
  rw [lg_entry_eq]
  generalize (lg_sl ([.ref h0]) ++ List.replicate (1 - (lg_sl ([.ref h0])).length) Slot.unset).toArray = ls at hl ⊢
  have hl : lv_has ls 1 [(0, .ref h0)] := hl
  refine lv_aload_n hx hb dJ0_isEmpty_aae02_0 rfl (lv_at hl 0 rfl) ?_
  refine va_get (D := (dC, dI)) (ci := 0) (v := .ref h1) (C := RJ0) (T := TJ0) (N := 4) hx hb hta naJ0 hown hK hP 0 rfl rfl 0 (by decide) (hta _ wm341) (fun _ h9 => h9) rfl dJ0_isEmpty_aae02_1 ?_
  refine va_alen (v := 1) hx hb hK hP 1 0 rfl rfl (show Int32.ofNat 1 = 1 by decide) dJ0_isEmpty_aae02_4 ?_
  refine lv_if_ne (tgt := 12) hx hb dJ0_isEmpty_aae02_5 (by decide) (fun c1 => ?_) (fun c1 => absurd c1 (by decide))
  refine lv_iconst (v := 0) hx hb dJ0_isEmpty_aae02_12 (by decide) ?_
  have hP9 := hP.sub (ws' := [(h0, .inr (0, [.ref h1, v0, v1, v2])), (h1, .inl (cc0, 1, .inl f0))]) [0, 1] rfl
  have hD9 := hD.sub (ws' := [(h0, .inr (0, [.ref h1, v0, v1, v2])), (h1, .inl (cc0, 1, .inl f0))]) [0, 1] (by decide) rfl
  have hK9 := hK.sub (tys' := [(cc0, .byte)]) [0] rfl
  refine W.widen (k := 0) (n := 0) (Nat.le_of_ble_eq_true rfl) (Nat.le_of_ble_eq_true rfl) ?_
  exact W.zret (v := 0) hx hb hr (by decide) (fun t ht hW => ⟨⟨_, (), rfl, rfl, by rw [ht]; exact hP9, va_K.moved hW.alike hK9, hD9⟩, hS.F ht⟩) hS.2.2 dJ0_isEmpty_aae02_13
set_option maxHeartbeats 4000000 in
set_option maxRecDepth 100000 in
theorem kX9_ribbon (l : Launch) (dC : Nat → ClassId) (dI : Nat → Nat → Nat) (g : Nat → Nat) (sz : Nat) (h0 : Nat) (x0 : Int32) (ex0 : (-2147483648 : Int) ≤ x0.toInt ∧ x0.toInt ≤ (0 : Int)) (hlt : l.stackTraces = false) : vx_Met l yX9_ribbon wbX9_ribbon ({ frames := 6, cells := 1, slots := 6, locals := 82 }) (va_Pc [.ref h0, .int x0] (fun U => U.heap.size = sz ∧ va_P (dC, dI) vwCl [] U.heap ∧ va_K (dC, dI) vwCl [] U ∧ va_D (fun _ => True) [] ∧ ns_F g (va_A [] sz) U U.heap)) (va_Qv (fun _ : Unit => False) (fun _ _ => True) (va_A [] sz)) (vx_X (fun _ : Unit => True) (fun E _ _ => E = "java/lang/IllegalArgumentException") (va_A [] sz)) 1 6 (va_A [] sz) := by
  refine vx_ofW (cc := cX9_ribbon) (maxL := 3) (ret := (some .int)) (by decide) rfl ?_
  intro p e s m args below meth c s₁ B hml hnox hv
  obtain ⟨rfl, hsz, hP, hK, hD0, hF⟩ := hv
  have hx := B.exec
  have hb := B.bytes
  have hr := B.returns
  have hts := atoms_spec (ws := wbX9_ribbon) B.pre
  have hta : ∀ w ∈ wsALL, w.before _ s = true := fun w h => hts w (List.mem_cons_of_mem _ h)
  have hown : s.vm.findClass RX9 = some m.cls := findClass_of_methodNamed B.named
  have hlocks := B.notSynchronized
  subst hsz
  have hD := hD0.self (sz := s.heap.size)
  generalize hAe : va_A [] s.heap.size = A at hD hF ⊢
  have hA : ∀ q : Nat, s.heap.size ≤ q → A q := fun q h => by rw [← hAe]; exact Or.inr h
  have hS : va_S A s.heap s.heap [] := va_S.rf
  have hP : va_P (dC, dI) vwCl [] s.heap := hP
  have hl := lv_entry ([.ref h0, .int x0]) (n := 3) (Nat.le_of_ble_eq_true rfl)
  rw [lg_entry_eq]
  generalize (lg_sl ([.ref h0, .int x0]) ++ List.replicate (3 - (lg_sl ([.ref h0, .int x0])).length) Slot.unset).toArray = ls at hl ⊢
  have hl : lv_has ls 3 [(0, .ref h0), (1, .int x0)] := hl
  refine lv_iload_n hx hb dX9_ribbon_0 rfl (lv_at hl 1 rfl) ?_
  refine lv_iconst (v := 1) hx hb dX9_ribbon_1 (by decide) ?_
  refine lv_icmp_lt (tgt := 11) hx hb dX9_ribbon_2 (by decide) (fun c1 => ?_) (fun c1 => absurd (show x0 < (1 : Int32) from Int32.lt_iff_toInt_lt.mpr (show x0.toInt < (1 : Int) by omega)) c1)
  exact vx_throwS hx hb hlt (text := "ribbon is 1 to 60") (sa := (g 16)) (names := ["java/lang/RuntimeException", "java/lang/Exception"]) hown (by decide) (by decide) (hta _ wm225) (hta _ wm226) (ns_f24 hF) (vx_hat (B := [.declares ⟨"java/lang/RuntimeException", "<init>", "(Ljava/lang/String;)V"⟩, .declares ⟨"java/lang/Exception", "<init>", "(Ljava/lang/String;)V"⟩, .declares ⟨"java/lang/Throwable", "<init>", "(Ljava/lang/String;)V"⟩, .castable "java/lang/IllegalArgumentException" "java/lang/IllegalArgumentException"]) (fun w9 h9 => hta w9 (vm0 w9 h9)) (by decide +kernel) (vx_c (va_Nw.use rfl (ns_f12 hF)) (vx_c (va_Nw.use rfl (ns_f13 hF)) (vx_c (va_Nw.use rfl (ns_f14 hF)) (vx_c (va_Nw.use rfl (ns_f11 hF)) vx_n))))) (by decide +kernel) (ns_f18 hF) (ns_f19 hF) hS (by rw [hml]; exact hl.1) dX9_ribbon_11 dX9_ribbon_14 dX9_ribbon_15 dX9_ribbon_17 dX9_ribbon_20 (fun x hx => (hnox x hx).elim) (Nat.le_of_ble_eq_true rfl) (Nat.le_of_ble_eq_true rfl) (Nat.le_of_ble_eq_true rfl) (Nat.le_of_ble_eq_true rfl) hlocks (fun t9 hal hsz9 hk9 => ⟨(), trivial, rfl, Nat.le_trans hS.1 hsz9, fun q hq1 hq2 => (hk9 q (Nat.lt_of_lt_of_le hq1 hS.1)).trans (hS.2.1 q hq1 hq2)⟩) hS.2.2 (Nat.le_of_ble_eq_true rfl) (Nat.le_of_ble_eq_true rfl)
set_option maxHeartbeats 4000000 in
set_option maxRecDepth 100000 in
theorem kX16_said_8 (l : Launch) (dC : Nat → ClassId) (dI : Nat → Nat → Nat) (g : Nat → Nat) (sz : Nat) (h0 : Nat) (x0 : Int32) (ex0 : (21 : Int) ≤ x0.toInt ∧ x0.toInt ≤ (21 : Int)) : Met l yX16_said wbX16_said ({ frames := 0, cells := 0, slots := 0, locals := 0 }) (va_Pc [.ref h0, .int x0] (fun U => U.heap.size = sz ∧ va_P (dC, dI) vwCl [] U.heap ∧ va_K (dC, dI) vwCl [] U ∧ va_D (fun _ => True) [] ∧ ns_F g (va_A [] sz) U U.heap)) (va_Qr (fun _ : Unit => True) (fun _ r t => r = (g 34) ∧ va_P (dC, dI) vwCl [] t.heap ∧ va_K (dC, dI) vwCl [] t ∧ va_D (va_A [] sz) []) (va_A [] sz)) 0 0 (va_A [] sz) := by
  refine Met.ofW (cc := cX16_said) (maxL := 2) (ret := (some (.object "java/lang/String"))) (by decide) rfl ?_
  intro p e s m args below meth c s₁ B hml hv
  obtain ⟨rfl, hsz, hP, hK, hD0, hF⟩ := hv
  have hx := B.exec
  have hb := B.bytes
  have hr := B.returns
  have hts := atoms_spec (ws := wbX16_said) B.pre
  have hta : ∀ w ∈ wsALL, w.before _ s = true := fun w h => hts w (List.mem_cons_of_mem _ h)
  have hown : s.vm.findClass RX16 = some m.cls := findClass_of_methodNamed B.named
  have hlocks := B.notSynchronized
  subst hsz
  have hD := hD0.self (sz := s.heap.size)
  generalize hAe : va_A [] s.heap.size = A at hD hF ⊢
  have hA : ∀ q : Nat, s.heap.size ≤ q → A q := fun q h => by rw [← hAe]; exact Or.inr h
  have hS : va_S A s.heap s.heap [] := va_S.rf
  have hP : va_P (dC, dI) vwCl [] s.heap := hP
  have hl := lv_entry ([.ref h0, .int x0]) (n := 2) (Nat.le_of_ble_eq_true rfl)
  rw [lg_entry_eq]
  generalize (lg_sl ([.ref h0, .int x0]) ++ List.replicate (2 - (lg_sl ([.ref h0, .int x0])).length) Slot.unset).toArray = ls at hl ⊢
  have hl : lv_has ls 2 [(0, .ref h0), (1, .int x0)] := hl
  refine lv_iload_n hx hb dX16_said_0 rfl (lv_at hl 1 rfl) ?_
  refine lv_iconst (v := (-1)) hx hb dX16_said_1 (by decide) ?_
  refine lv_icmp_ne (tgt := 7) hx hb dX16_said_2 (by decide) (fun c1 => ?_) (fun c1 => absurd c1 (fun z => absurd (show x0.toInt = (-1 : Int) from congrArg Int32.toInt z) (by omega)))
  refine lv_iload_n hx hb dX16_said_7 rfl (lv_at hl 1 rfl) ?_
  refine lv_bipush (v := 20) hx hb dX16_said_8 (by decide) ?_
  refine lv_icmp_ge (tgt := 37) hx hb dX16_said_10 (by decide) (fun c2 => ?_) (fun c2 => absurd (show (20 : Int32) ≤ x0 from Int32.le_iff_toInt_le.mpr (show (20 : Int) ≤ x0.toInt by omega)) c2)
  refine lv_iload_n hx hb dX16_said_37 rfl (lv_at hl 1 rfl) ?_
  refine lv_bipush (v := 21) hx hb dX16_said_38 (by decide) ?_
  refine lv_icmp_eq (tgt := 50) hx hb dX16_said_40 (by decide) (fun c3 => ?_) (fun c3 => absurd (show x0 = (21 : Int32) from Int32.toInt_inj.mp (show x0.toInt = (21 : Int) by omega)) c3)
  refine va_ldcS hx hb hown (ns_f33 hF) dX16_said_50 ?_
  refine lv_goto (tgt := 66) hx hb dX16_said_52 (by decide) ?_
  have hP9 := hP.sub (ws' := []) [] rfl
  have hD9 := hD.sub (ws' := []) [] (by decide) rfl
  have hK9 := hK.sub (tys' := []) [] rfl
  refine W.widen (k := 0) (n := 0) (Nat.le_of_ble_eq_true rfl) (Nat.le_of_ble_eq_true rfl) ?_
  exact W.aret (v := .ref (g 34)) hx hb hr (by first | exact Or.inl ⟨_, rfl⟩ | exact Or.inr ⟨_, rfl⟩) (Or.inr ⟨_, rfl⟩) (fun t ht hW => ⟨⟨(), _, rfl, trivial, rfl, by rw [ht]; exact hP9, va_K.moved hW.alike hK9, hD9⟩, hS.F ht⟩) hS.2.2 dX16_said_66
set_option maxHeartbeats 4000000 in
set_option maxRecDepth 100000 in
theorem kX16_codeTold_7 (l : Launch) (dC : Nat → ClassId) (dI : Nat → Nat → Nat) (g : Nat → Nat) (sz : Nat) (h0 : Nat) (v0 : Value) (v1 : Value) (v2 : Value) (v3 : Value) (v4 : Value) (v5 : Value) (v6 : Value) (v7 : Value) : Met l yX16_codeTold wbX16_codeTold ({ frames := 0, cells := 0, slots := 0, locals := 0 }) (va_Pc [.ref h0, .int 5] (fun U => U.heap.size = sz ∧ va_P (dC, dI) vwCl [(h0, .inr (23, [v0, v1, v2, v3, v4, .null, v5, v6, v7]))] U.heap ∧ va_K (dC, dI) vwCl [] U ∧ va_D (fun _ => True) [(h0, .inr (23, [v0, v1, v2, v3, v4, .null, v5, v6, v7]))] ∧ ns_F g (va_A [(h0, .inr (23, [v0, v1, v2, v3, v4, .null, v5, v6, v7]))] sz) U U.heap)) (va_Qi (fun (r : Int32) (_ : Unit) => r = 0) (fun _ t => va_P (dC, dI) vwCl [(h0, .inr (23, [v0, v1, v2, v3, v4, .null, v5, v6, v7]))] t.heap ∧ va_K (dC, dI) vwCl [] t ∧ va_D (va_A [(h0, .inr (23, [v0, v1, v2, v3, v4, .null, v5, v6, v7]))] sz) [(h0, .inr (23, [v0, v1, v2, v3, v4, .null, v5, v6, v7]))]) (va_A [(h0, .inr (23, [v0, v1, v2, v3, v4, .null, v5, v6, v7]))] sz)) 0 0 (va_A [(h0, .inr (23, [v0, v1, v2, v3, v4, .null, v5, v6, v7]))] sz) := by
  refine Met.ofW (cc := cX16_codeTold) (maxL := 4) (ret := (some .int)) (by decide) rfl ?_
  intro p e s m args below meth c s₁ B hml hv
  obtain ⟨rfl, hsz, hP, hK, hD0, hF⟩ := hv
  have hx := B.exec
  have hb := B.bytes
  have hr := B.returns
  have hts := atoms_spec (ws := wbX16_codeTold) B.pre
  have hta : ∀ w ∈ wsALL, w.before _ s = true := fun w h => hts w (List.mem_cons_of_mem _ h)
  have hown : s.vm.findClass RX16 = some m.cls := findClass_of_methodNamed B.named
  have hlocks := B.notSynchronized
  subst hsz
  have hD := hD0.self (sz := s.heap.size)
  generalize hAe : va_A [(h0, .inr (23, [v0, v1, v2, v3, v4, .null, v5, v6, v7]))] s.heap.size = A at hD hF ⊢
  have hA : ∀ q : Nat, s.heap.size ≤ q → A q := fun q h => by rw [← hAe]; exact Or.inr h
  have hS : va_S A s.heap s.heap [] := va_S.rf
  have hP : va_P (dC, dI) vwCl [(h0, .inr (23, [v0, v1, v2, v3, v4, .null, v5, v6, v7]))] s.heap := hP
  have hl := lv_entry ([.ref h0, .int 5]) (n := 4) (Nat.le_of_ble_eq_true rfl)
  rw [lg_entry_eq]
  generalize (lg_sl ([.ref h0, .int 5]) ++ List.replicate (4 - (lg_sl ([.ref h0, .int 5])).length) Slot.unset).toArray = ls at hl ⊢
  have hl : lv_has ls 4 [(0, .ref h0), (1, .int 5)] := hl
  refine lv_aload_n hx hb dX16_codeTold_0 rfl (lv_at hl 0 rfl) ?_
  refine va_get (D := (dC, dI)) (ci := 23) (v := .null) (C := RX16) (T := TX16) (N := 9) hx hb hta naX16 hown hK hP 0 rfl rfl 5 (by decide) (hta _ wm947) (fun _ h9 => h9) rfl dX16_codeTold_1 ?_
  refine lv_ifnonnullN hx hb dX16_codeTold_4 ?_
  refine lv_iconst (v := 0) hx hb dX16_codeTold_7 (by decide) ?_
  have hP9 := hP.sub (ws' := [(h0, .inr (23, [v0, v1, v2, v3, v4, .null, v5, v6, v7]))]) [0] rfl
  have hD9 := hD.sub (ws' := [(h0, .inr (23, [v0, v1, v2, v3, v4, .null, v5, v6, v7]))]) [0] (by decide) rfl
  have hK9 := hK.sub (tys' := []) [] rfl
  refine W.widen (k := 0) (n := 0) (Nat.le_of_ble_eq_true rfl) (Nat.le_of_ble_eq_true rfl) ?_
  exact W.iret (v := 0) hx hb hr (fun t ht hW => ⟨⟨_, (), rfl, rfl, by rw [ht]; exact hP9, va_K.moved hW.alike hK9, hD9⟩, hS.F ht⟩) hS.2.2 dX16_codeTold_8
set_option maxHeartbeats 4000000 in
set_option maxRecDepth 100000 in
theorem kJx4a65c_isEmpty_aae02 (l : Launch) (dC : Nat → ClassId) (dI : Nat → Nat → Nat) (g : Nat → Nat) (sz : Nat) (h0 : Nat) (v0 : Value) (v1 : Value) : Met l yJx4a65c_isEmpty_aae02 wbJx4a65c_isEmpty_aae02 ({ frames := 0, cells := 0, slots := 0, locals := 0 }) (va_Pc [.ref h0] (fun U => U.heap.size = sz ∧ va_P (dC, dI) vwCl [(h0, .inr (6, [v0, v1, .int 0]))] U.heap ∧ va_K (dC, dI) vwCl [] U ∧ va_D (fun _ => True) [(h0, .inr (6, [v0, v1, .int 0]))] ∧ ns_F g (va_A [(h0, .inr (6, [v0, v1, .int 0]))] sz) U U.heap)) (va_Qi (fun (r : Int32) (_ : Unit) => r = 1) (fun _ t => va_P (dC, dI) vwCl [(h0, .inr (6, [v0, v1, .int 0]))] t.heap ∧ va_K (dC, dI) vwCl [] t ∧ va_D (va_A [(h0, .inr (6, [v0, v1, .int 0]))] sz) [(h0, .inr (6, [v0, v1, .int 0]))]) (va_A [(h0, .inr (6, [v0, v1, .int 0]))] sz)) 0 0 (va_A [(h0, .inr (6, [v0, v1, .int 0]))] sz) := by
  refine Met.ofW (cc := cJx4a65c_isEmpty_aae02) (maxL := 1) (ret := (some .boolean)) (by decide) rfl ?_
  intro p e s m args below meth c s₁ B hml hv
  obtain ⟨rfl, hsz, hP, hK, hD0, hF⟩ := hv
  have hx := B.exec
  have hb := B.bytes
  have hr := B.returns
  have hts := atoms_spec (ws := wbJx4a65c_isEmpty_aae02) B.pre
  have hta : ∀ w ∈ wsALL, w.before _ s = true := fun w h => hts w (List.mem_cons_of_mem _ h)
  have hown : s.vm.findClass RJx4a65c = some m.cls := findClass_of_methodNamed B.named
  have hlocks := B.notSynchronized
  subst hsz
  have hD := hD0.self (sz := s.heap.size)
  generalize hAe : va_A [(h0, .inr (6, [v0, v1, .int 0]))] s.heap.size = A at hD hF ⊢
  have hA : ∀ q : Nat, s.heap.size ≤ q → A q := fun q h => by rw [← hAe]; exact Or.inr h
  have hS : va_S A s.heap s.heap [] := va_S.rf
  have hP : va_P (dC, dI) vwCl [(h0, .inr (6, [v0, v1, .int 0]))] s.heap := hP
  have hl := lv_entry ([.ref h0]) (n := 1) (Nat.le_of_ble_eq_true rfl)
  rw [lg_entry_eq]
  generalize (lg_sl ([.ref h0]) ++ List.replicate (1 - (lg_sl ([.ref h0])).length) Slot.unset).toArray = ls at hl ⊢
  have hl : lv_has ls 1 [(0, .ref h0)] := hl
  refine lv_aload_n hx hb dJx4a65c_isEmpty_aae02_0 rfl (lv_at hl 0 rfl) ?_
  refine va_get (D := (dC, dI)) (ci := 6) (v := .int 0) (C := RJx4a65c) (T := TJx4a65c) (N := 3) hx hb hta naJx4a65c hown hK hP 0 rfl rfl 2 (by decide) (hta _ wm283) (fun _ h9 => h9) rfl dJx4a65c_isEmpty_aae02_1 ?_
  refine lv_if_ne (tgt := 11) hx hb dJx4a65c_isEmpty_aae02_4 (by decide) (fun c1 => absurd (by decide) c1) (fun c1 => ?_)
  refine lv_iconst (v := 1) hx hb dJx4a65c_isEmpty_aae02_7 (by decide) ?_
  refine lv_goto (tgt := 12) hx hb dJx4a65c_isEmpty_aae02_8 (by decide) ?_
  have hP9 := hP.sub (ws' := [(h0, .inr (6, [v0, v1, .int 0]))]) [0] rfl
  have hD9 := hD.sub (ws' := [(h0, .inr (6, [v0, v1, .int 0]))]) [0] (by decide) rfl
  have hK9 := hK.sub (tys' := []) [] rfl
  refine W.widen (k := 0) (n := 0) (Nat.le_of_ble_eq_true rfl) (Nat.le_of_ble_eq_true rfl) ?_
  exact W.zret (v := 1) hx hb hr (by decide) (fun t ht hW => ⟨⟨_, (), rfl, rfl, by rw [ht]; exact hP9, va_K.moved hW.alike hK9, hD9⟩, hS.F ht⟩) hS.2.2 dJx4a65c_isEmpty_aae02_12
set_option maxHeartbeats 4000000 in
set_option maxRecDepth 100000 in
theorem kX16_isIn_14 (l : Launch) (dC : Nat → ClassId) (dI : Nat → Nat → Nat) (g : Nat → Nat) (sz : Nat) (x0 : Int32) (ex0 : (26 : Int) ≤ x0.toInt ∧ x0.toInt ≤ (2147483647 : Int)) : Met l yX16_isIn wbX16_isIn ({ frames := 0, cells := 0, slots := 0, locals := 0 }) (va_Pc [.int x0, .int 0, .int 25] (fun U => U.heap.size = sz ∧ va_P (dC, dI) vwCl [] U.heap ∧ va_K (dC, dI) vwCl [] U ∧ va_D (fun _ => True) [] ∧ ns_F g (va_A [] sz) U U.heap)) (va_Qi (fun (r : Int32) (_ : Unit) => r = 0) (fun _ t => va_P (dC, dI) vwCl [] t.heap ∧ va_K (dC, dI) vwCl [] t ∧ va_D (va_A [] sz) []) (va_A [] sz)) 0 0 (va_A [] sz) := by
  refine Met.ofW (cc := cX16_isIn) (maxL := 3) (ret := (some .boolean)) (by decide) rfl ?_
  intro p e s m args below meth c s₁ B hml hv
  obtain ⟨rfl, hsz, hP, hK, hD0, hF⟩ := hv
  have hx := B.exec
  have hb := B.bytes
  have hr := B.returns
  have hts := atoms_spec (ws := wbX16_isIn) B.pre
  have hta : ∀ w ∈ wsALL, w.before _ s = true := fun w h => hts w (List.mem_cons_of_mem _ h)
  have hown : s.vm.findClass RX16 = some m.cls := findClass_of_methodNamed B.named
  have hlocks := B.notSynchronized
  subst hsz
  have hD := hD0.self (sz := s.heap.size)
  generalize hAe : va_A [] s.heap.size = A at hD hF ⊢
  have hA : ∀ q : Nat, s.heap.size ≤ q → A q := fun q h => by rw [← hAe]; exact Or.inr h
  have hS : va_S A s.heap s.heap [] := va_S.rf
  have hP : va_P (dC, dI) vwCl [] s.heap := hP
  have hl := lv_entry ([.int x0, .int 0, .int 25]) (n := 3) (Nat.le_of_ble_eq_true rfl)
  rw [lg_entry_eq]
  generalize (lg_sl ([.int x0, .int 0, .int 25]) ++ List.replicate (3 - (lg_sl ([.int x0, .int 0, .int 25])).length) Slot.unset).toArray = ls at hl ⊢
  have hl : lv_has ls 3 [(0, .int x0), (1, .int 0), (2, .int 25)] := hl
  refine lv_iload_n hx hb dX16_isIn_0 rfl (lv_at hl 0 rfl) ?_
  refine lv_iload_n hx hb dX16_isIn_1 rfl (lv_at hl 1 rfl) ?_
  refine lv_icmp_lt (tgt := 14) hx hb dX16_isIn_2 (by decide) (fun c1 => absurd c1 (fun z => absurd (show x0.toInt < (0 : Int) from Int32.lt_iff_toInt_lt.mp z) (by omega))) (fun c1 => ?_)
  refine lv_iload_n hx hb dX16_isIn_5 rfl (lv_at hl 0 rfl) ?_
  refine lv_iload_n hx hb dX16_isIn_6 rfl (lv_at hl 2 rfl) ?_
  refine lv_icmp_gt (tgt := 14) hx hb dX16_isIn_7 (by decide) (fun c2 => ?_) (fun c2 => absurd (show (25 : Int32) < x0 from Int32.lt_iff_toInt_lt.mpr (show (25 : Int) < x0.toInt by omega)) c2)
  refine lv_iconst (v := 0) hx hb dX16_isIn_14 (by decide) ?_
  have hP9 := hP.sub (ws' := []) [] rfl
  have hD9 := hD.sub (ws' := []) [] (by decide) rfl
  have hK9 := hK.sub (tys' := []) [] rfl
  refine W.widen (k := 0) (n := 0) (Nat.le_of_ble_eq_true rfl) (Nat.le_of_ble_eq_true rfl) ?_
  exact W.zret (v := 0) hx hb hr (by decide) (fun t ht hW => ⟨⟨_, (), rfl, rfl, by rw [ht]; exact hP9, va_K.moved hW.alike hK9, hD9⟩, hS.F ht⟩) hS.2.2 dX16_isIn_15
set_option maxHeartbeats 4000000 in
set_option maxRecDepth 100000 in
theorem kJ5_length_8abf5_5 (l : Launch) (dC : Nat → ClassId) (dI : Nat → Nat → Nat) (g : Nat → Nat) (sz : Nat) (h0 : Nat) (v0 : Value) (v1 : Value) (v2 : Value) : Met l yJ5_length_8abf5 wbJ5_length_8abf5 ({ frames := 0, cells := 0, slots := 0, locals := 0 }) (va_Pc [.ref h0] (fun U => U.heap.size = sz ∧ va_P (dC, dI) vwCl [(h0, .inr (1, [v0, v1, v2, .int 5]))] U.heap ∧ va_K (dC, dI) vwCl [] U ∧ va_D (fun _ => True) [(h0, .inr (1, [v0, v1, v2, .int 5]))] ∧ ns_F g (va_A [(h0, .inr (1, [v0, v1, v2, .int 5]))] sz) U U.heap)) (va_Qi (fun (r : Int32) (_ : Unit) => r = 5) (fun _ t => va_P (dC, dI) vwCl [(h0, .inr (1, [v0, v1, v2, .int 5]))] t.heap ∧ va_K (dC, dI) vwCl [] t ∧ va_D (va_A [(h0, .inr (1, [v0, v1, v2, .int 5]))] sz) [(h0, .inr (1, [v0, v1, v2, .int 5]))]) (va_A [(h0, .inr (1, [v0, v1, v2, .int 5]))] sz)) 0 0 (va_A [(h0, .inr (1, [v0, v1, v2, .int 5]))] sz) := by
  refine Met.ofW (cc := cJ5_length_8abf5) (maxL := 1) (ret := (some .int)) (by decide) rfl ?_
  intro p e s m args below meth c s₁ B hml hv
  obtain ⟨rfl, hsz, hP, hK, hD0, hF⟩ := hv
  have hx := B.exec
  have hb := B.bytes
  have hr := B.returns
  have hts := atoms_spec (ws := wbJ5_length_8abf5) B.pre
  have hta : ∀ w ∈ wsALL, w.before _ s = true := fun w h => hts w (List.mem_cons_of_mem _ h)
  have hown : s.vm.findClass RJ5 = some m.cls := findClass_of_methodNamed B.named
  have hlocks := B.notSynchronized
  subst hsz
  have hD := hD0.self (sz := s.heap.size)
  generalize hAe : va_A [(h0, .inr (1, [v0, v1, v2, .int 5]))] s.heap.size = A at hD hF ⊢
  have hA : ∀ q : Nat, s.heap.size ≤ q → A q := fun q h => by rw [← hAe]; exact Or.inr h
  have hS : va_S A s.heap s.heap [] := va_S.rf
  have hP : va_P (dC, dI) vwCl [(h0, .inr (1, [v0, v1, v2, .int 5]))] s.heap := hP
  have hl := lv_entry ([.ref h0]) (n := 1) (Nat.le_of_ble_eq_true rfl)
  rw [lg_entry_eq]
  generalize (lg_sl ([.ref h0]) ++ List.replicate (1 - (lg_sl ([.ref h0])).length) Slot.unset).toArray = ls at hl ⊢
  have hl : lv_has ls 1 [(0, .ref h0)] := hl
  refine lv_aload_n hx hb dJ5_length_8abf5_0 rfl (lv_at hl 0 rfl) ?_
  refine va_get (D := (dC, dI)) (ci := 1) (v := .int 5) (C := RJ4) (T := TJ4) (N := 4) hx hb hta naJ4 hown hK hP 0 rfl rfl 3 (by decide) (hta _ wm290) (fun _ h9 => h9) rfl dJ5_length_8abf5_1 ?_
  have hP9 := hP.sub (ws' := [(h0, .inr (1, [v0, v1, v2, .int 5]))]) [0] rfl
  have hD9 := hD.sub (ws' := [(h0, .inr (1, [v0, v1, v2, .int 5]))]) [0] (by decide) rfl
  have hK9 := hK.sub (tys' := []) [] rfl
  refine W.widen (k := 0) (n := 0) (Nat.le_of_ble_eq_true rfl) (Nat.le_of_ble_eq_true rfl) ?_
  exact W.iret (v := 5) hx hb hr (fun t ht hW => ⟨⟨_, (), rfl, rfl, by rw [ht]; exact hP9, va_K.moved hW.alike hK9, hD9⟩, hS.F ht⟩) hS.2.2 dJ5_length_8abf5_4
set_option maxHeartbeats 4000000 in
set_option maxRecDepth 100000 in
theorem kX16_isIn_31 (l : Launch) (dC : Nat → ClassId) (dI : Nat → Nat → Nat) (g : Nat → Nat) (sz : Nat)  : Met l yX16_isIn wbX16_isIn ({ frames := 0, cells := 0, slots := 0, locals := 0 }) (va_Pc [.int 1, .int 0, .int 7] (fun U => U.heap.size = sz ∧ va_P (dC, dI) vwCl [] U.heap ∧ va_K (dC, dI) vwCl [] U ∧ va_D (fun _ => True) [] ∧ ns_F g (va_A [] sz) U U.heap)) (va_Qi (fun (r : Int32) (_ : Unit) => r = 1) (fun _ t => va_P (dC, dI) vwCl [] t.heap ∧ va_K (dC, dI) vwCl [] t ∧ va_D (va_A [] sz) []) (va_A [] sz)) 0 0 (va_A [] sz) := by
  refine Met.ofW (cc := cX16_isIn) (maxL := 3) (ret := (some .boolean)) (by decide) rfl ?_
  intro p e s m args below meth c s₁ B hml hv
  obtain ⟨rfl, hsz, hP, hK, hD0, hF⟩ := hv
  have hx := B.exec
  have hb := B.bytes
  have hr := B.returns
  have hts := atoms_spec (ws := wbX16_isIn) B.pre
  have hta : ∀ w ∈ wsALL, w.before _ s = true := fun w h => hts w (List.mem_cons_of_mem _ h)
  have hown : s.vm.findClass RX16 = some m.cls := findClass_of_methodNamed B.named
  have hlocks := B.notSynchronized
  subst hsz
  have hD := hD0.self (sz := s.heap.size)
  generalize hAe : va_A [] s.heap.size = A at hD hF ⊢
  have hA : ∀ q : Nat, s.heap.size ≤ q → A q := fun q h => by rw [← hAe]; exact Or.inr h
  have hS : va_S A s.heap s.heap [] := va_S.rf
  have hP : va_P (dC, dI) vwCl [] s.heap := hP
  have hl := lv_entry ([.int 1, .int 0, .int 7]) (n := 3) (Nat.le_of_ble_eq_true rfl)
  rw [lg_entry_eq]
  generalize (lg_sl ([.int 1, .int 0, .int 7]) ++ List.replicate (3 - (lg_sl ([.int 1, .int 0, .int 7])).length) Slot.unset).toArray = ls at hl ⊢
  have hl : lv_has ls 3 [(0, .int 1), (1, .int 0), (2, .int 7)] := hl
  refine lv_iload_n hx hb dX16_isIn_0 rfl (lv_at hl 0 rfl) ?_
  refine lv_iload_n hx hb dX16_isIn_1 rfl (lv_at hl 1 rfl) ?_
  refine lv_icmp_lt (tgt := 14) hx hb dX16_isIn_2 (by decide) (fun c1 => absurd c1 (by decide)) (fun c1 => ?_)
  refine lv_iload_n hx hb dX16_isIn_5 rfl (lv_at hl 0 rfl) ?_
  refine lv_iload_n hx hb dX16_isIn_6 rfl (lv_at hl 2 rfl) ?_
  refine lv_icmp_gt (tgt := 14) hx hb dX16_isIn_7 (by decide) (fun c2 => absurd c2 (by decide)) (fun c2 => ?_)
  refine lv_iconst (v := 1) hx hb dX16_isIn_10 (by decide) ?_
  refine lv_goto (tgt := 15) hx hb dX16_isIn_11 (by decide) ?_
  have hP9 := hP.sub (ws' := []) [] rfl
  have hD9 := hD.sub (ws' := []) [] (by decide) rfl
  have hK9 := hK.sub (tys' := []) [] rfl
  refine W.widen (k := 0) (n := 0) (Nat.le_of_ble_eq_true rfl) (Nat.le_of_ble_eq_true rfl) ?_
  exact W.zret (v := 1) hx hb hr (by decide) (fun t ht hW => ⟨⟨_, (), rfl, rfl, by rw [ht]; exact hP9, va_K.moved hW.alike hK9, hD9⟩, hS.F ht⟩) hS.2.2 dX16_isIn_15
set_option maxHeartbeats 4000000 in
set_option maxRecDepth 100000 in
theorem kX4_size_12 (l : Launch) (dC : Nat → ClassId) (dI : Nat → Nat → Nat) (g : Nat → Nat) (sz : Nat) (h0 : Nat) (v0 : Value) (x0 : Int32) (ex0 : (0 : Int) ≤ x0.toInt ∧ x0.toInt ≤ (2 : Int)) : Met l yX4_size wbX4_size ({ frames := 0, cells := 0, slots := 0, locals := 0 }) (va_Pc [.ref h0] (fun U => U.heap.size = sz ∧ va_P (dC, dI) vwCl [(h0, .inr (11, [v0, .int x0]))] U.heap ∧ va_K (dC, dI) vwCl [] U ∧ va_D (fun _ => True) [(h0, .inr (11, [v0, .int x0]))] ∧ ns_F g (va_A [(h0, .inr (11, [v0, .int x0]))] sz) U U.heap)) (va_Qi (fun (r : Int32) (_ : Unit) => r = x0) (fun _ t => va_P (dC, dI) vwCl [(h0, .inr (11, [v0, .int x0]))] t.heap ∧ va_K (dC, dI) vwCl [] t ∧ va_D (va_A [(h0, .inr (11, [v0, .int x0]))] sz) [(h0, .inr (11, [v0, .int x0]))]) (va_A [(h0, .inr (11, [v0, .int x0]))] sz)) 0 0 (va_A [(h0, .inr (11, [v0, .int x0]))] sz) := by
  refine Met.ofW (cc := cX4_size) (maxL := 1) (ret := (some .int)) (by decide) rfl ?_
  intro p e s m args below meth c s₁ B hml hv
  obtain ⟨rfl, hsz, hP, hK, hD0, hF⟩ := hv
  have hx := B.exec
  have hb := B.bytes
  have hr := B.returns
  have hts := atoms_spec (ws := wbX4_size) B.pre
  have hta : ∀ w ∈ wsALL, w.before _ s = true := fun w h => hts w (List.mem_cons_of_mem _ h)
  have hown : s.vm.findClass RX4 = some m.cls := findClass_of_methodNamed B.named
  have hlocks := B.notSynchronized
  subst hsz
  have hD := hD0.self (sz := s.heap.size)
  generalize hAe : va_A [(h0, .inr (11, [v0, .int x0]))] s.heap.size = A at hD hF ⊢
  have hA : ∀ q : Nat, s.heap.size ≤ q → A q := fun q h => by rw [← hAe]; exact Or.inr h
  have hS : va_S A s.heap s.heap [] := va_S.rf
  have hP : va_P (dC, dI) vwCl [(h0, .inr (11, [v0, .int x0]))] s.heap := hP
  have hl := lv_entry ([.ref h0]) (n := 1) (Nat.le_of_ble_eq_true rfl)
  rw [lg_entry_eq]
  generalize (lg_sl ([.ref h0]) ++ List.replicate (1 - (lg_sl ([.ref h0])).length) Slot.unset).toArray = ls at hl ⊢
  have hl : lv_has ls 1 [(0, .ref h0)] := hl
  refine lv_aload_n hx hb dX4_size_0 rfl (lv_at hl 0 rfl) ?_
  refine va_get (D := (dC, dI)) (ci := 11) (v := .int x0) (C := RX4) (T := TX4) (N := 2) hx hb hta naX4 hown hK hP 0 rfl rfl 1 (by decide) (hta _ wm14) (fun _ h9 => h9) rfl dX4_size_1 ?_
  have hP9 := hP.sub (ws' := [(h0, .inr (11, [v0, .int x0]))]) [0] rfl
  have hD9 := hD.sub (ws' := [(h0, .inr (11, [v0, .int x0]))]) [0] (by decide) rfl
  have hK9 := hK.sub (tys' := []) [] rfl
  refine W.widen (k := 0) (n := 0) (Nat.le_of_ble_eq_true rfl) (Nat.le_of_ble_eq_true rfl) ?_
  exact W.iret (v := x0) hx hb hr (fun t ht hW => ⟨⟨_, (), rfl, rfl, by rw [ht]; exact hP9, va_K.moved hW.alike hK9, hD9⟩, hS.F ht⟩) hS.2.2 dX4_size_4
set_option maxHeartbeats 4000000 in
set_option maxRecDepth 100000 in
theorem kX16_add_18 (l : Launch) (dC : Nat → ClassId) (dI : Nat → Nat → Nat) (g : Nat → Nat) (sz : Nat)  : Met l yX16_add wbX16_add ({ frames := 0, cells := 0, slots := 0, locals := 0 }) (va_Pc [.long (-441982085891630774), .long 0] (fun U => U.heap.size = sz ∧ va_P (dC, dI) vwCl [] U.heap ∧ va_K (dC, dI) vwCl [] U ∧ va_D (fun _ => True) [] ∧ ns_F g (va_A [] sz) U U.heap)) (va_Ql (fun (r : Int64) (_ : Unit) => r = 4745299411068997622) (fun _ t => va_P (dC, dI) vwCl [] t.heap ∧ va_K (dC, dI) vwCl [] t ∧ va_D (va_A [] sz) []) (va_A [] sz)) 0 0 (va_A [] sz) := by
  refine Met.ofW (cc := cX16_add) (maxL := 4) (ret := (some .long)) (by decide) rfl ?_
  intro p e s m args below meth c s₁ B hml hv
  obtain ⟨rfl, hsz, hP, hK, hD0, hF⟩ := hv
  have hx := B.exec
  have hb := B.bytes
  have hr := B.returns
  have hts := atoms_spec (ws := wbX16_add) B.pre
  have hta : ∀ w ∈ wsALL, w.before _ s = true := fun w h => hts w (List.mem_cons_of_mem _ h)
  have hown : s.vm.findClass RX16 = some m.cls := findClass_of_methodNamed B.named
  have hlocks := B.notSynchronized
  subst hsz
  have hD := hD0.self (sz := s.heap.size)
  generalize hAe : va_A [] s.heap.size = A at hD hF ⊢
  have hA : ∀ q : Nat, s.heap.size ≤ q → A q := fun q h => by rw [← hAe]; exact Or.inr h
  have hS : va_S A s.heap s.heap [] := va_S.rf
  have hP : va_P (dC, dI) vwCl [] s.heap := hP
  have hl := lv_entry ([.long (-441982085891630774), .long 0]) (n := 4) (Nat.le_of_ble_eq_true rfl)
  rw [lg_entry_eq]
  generalize (lg_sl ([.long (-441982085891630774), .long 0]) ++ List.replicate (4 - (lg_sl ([.long (-441982085891630774), .long 0])).length) Slot.unset).toArray = ls at hl ⊢
  have hl : lv_has ls 4 [(0, .long (-441982085891630774)), (2, .long 0)] := hl
  refine lv_lload_n hx hb dX16_add_0 rfl (lv_at hl 0 rfl) ?_
  refine lv_ldc2 (v := 31) hx hb hown (hta _ wm1092) dX16_add_1 ?_
  refine lv_lmul hx hb dX16_add_4 ?_
  refine lv_topl (fun y1 ey1 => ?_)
  obtain rfl : y1 = 4745299411068997622 := ey1.trans (by decide)
  refine lv_lload_n hx hb dX16_add_5 rfl (lv_at hl 1 rfl) ?_
  refine lv_ladd hx hb dX16_add_6 ?_
  refine lv_topl (fun y2 ey2 => ?_)
  obtain rfl : y2 = 4745299411068997622 := ey2.trans (by decide)
  have hP9 := hP.sub (ws' := []) [] rfl
  have hD9 := hD.sub (ws' := []) [] (by decide) rfl
  have hK9 := hK.sub (tys' := []) [] rfl
  refine W.widen (k := 0) (n := 0) (Nat.le_of_ble_eq_true rfl) (Nat.le_of_ble_eq_true rfl) ?_
  exact W.lret (v := 4745299411068997622) hx hb hr (fun t ht hW => ⟨⟨_, (), rfl, rfl, by rw [ht]; exact hP9, va_K.moved hW.alike hK9, hD9⟩, hS.F ht⟩) hS.2.2 dX16_add_7
set_option maxHeartbeats 4000000 in
set_option maxRecDepth 100000 in
theorem kX4_size_2 (l : Launch) (dC : Nat → ClassId) (dI : Nat → Nat → Nat) (g : Nat → Nat) (sz : Nat) (h0 : Nat) (v0 : Value) : Met l yX4_size wbX4_size ({ frames := 0, cells := 0, slots := 0, locals := 0 }) (va_Pc [.ref h0] (fun U => U.heap.size = sz ∧ va_P (dC, dI) vwCl [(h0, .inr (11, [v0, .int 1]))] U.heap ∧ va_K (dC, dI) vwCl [] U ∧ va_D (fun _ => True) [(h0, .inr (11, [v0, .int 1]))] ∧ ns_F g (va_A [(h0, .inr (11, [v0, .int 1]))] sz) U U.heap)) (va_Qi (fun (r : Int32) (_ : Unit) => r = 1) (fun _ t => va_P (dC, dI) vwCl [(h0, .inr (11, [v0, .int 1]))] t.heap ∧ va_K (dC, dI) vwCl [] t ∧ va_D (va_A [(h0, .inr (11, [v0, .int 1]))] sz) [(h0, .inr (11, [v0, .int 1]))]) (va_A [(h0, .inr (11, [v0, .int 1]))] sz)) 0 0 (va_A [(h0, .inr (11, [v0, .int 1]))] sz) := by
  refine Met.ofW (cc := cX4_size) (maxL := 1) (ret := (some .int)) (by decide) rfl ?_
  intro p e s m args below meth c s₁ B hml hv
  obtain ⟨rfl, hsz, hP, hK, hD0, hF⟩ := hv
  have hx := B.exec
  have hb := B.bytes
  have hr := B.returns
  have hts := atoms_spec (ws := wbX4_size) B.pre
  have hta : ∀ w ∈ wsALL, w.before _ s = true := fun w h => hts w (List.mem_cons_of_mem _ h)
  have hown : s.vm.findClass RX4 = some m.cls := findClass_of_methodNamed B.named
  have hlocks := B.notSynchronized
  subst hsz
  have hD := hD0.self (sz := s.heap.size)
  generalize hAe : va_A [(h0, .inr (11, [v0, .int 1]))] s.heap.size = A at hD hF ⊢
  have hA : ∀ q : Nat, s.heap.size ≤ q → A q := fun q h => by rw [← hAe]; exact Or.inr h
  have hS : va_S A s.heap s.heap [] := va_S.rf
  have hP : va_P (dC, dI) vwCl [(h0, .inr (11, [v0, .int 1]))] s.heap := hP
  have hl := lv_entry ([.ref h0]) (n := 1) (Nat.le_of_ble_eq_true rfl)
  rw [lg_entry_eq]
  generalize (lg_sl ([.ref h0]) ++ List.replicate (1 - (lg_sl ([.ref h0])).length) Slot.unset).toArray = ls at hl ⊢
  have hl : lv_has ls 1 [(0, .ref h0)] := hl
  refine lv_aload_n hx hb dX4_size_0 rfl (lv_at hl 0 rfl) ?_
  refine va_get (D := (dC, dI)) (ci := 11) (v := .int 1) (C := RX4) (T := TX4) (N := 2) hx hb hta naX4 hown hK hP 0 rfl rfl 1 (by decide) (hta _ wm14) (fun _ h9 => h9) rfl dX4_size_1 ?_
  have hP9 := hP.sub (ws' := [(h0, .inr (11, [v0, .int 1]))]) [0] rfl
  have hD9 := hD.sub (ws' := [(h0, .inr (11, [v0, .int 1]))]) [0] (by decide) rfl
  have hK9 := hK.sub (tys' := []) [] rfl
  refine W.widen (k := 0) (n := 0) (Nat.le_of_ble_eq_true rfl) (Nat.le_of_ble_eq_true rfl) ?_
  exact W.iret (v := 1) hx hb hr (fun t ht hW => ⟨⟨_, (), rfl, rfl, by rw [ht]; exact hP9, va_K.moved hW.alike hK9, hD9⟩, hS.F ht⟩) hS.2.2 dX4_size_4
set_option maxHeartbeats 4000000 in
set_option maxRecDepth 100000 in
theorem kX16_add_6 (l : Launch) (dC : Nat → ClassId) (dI : Nat → Nat → Nat) (g : Nat → Nat) (sz : Nat)  : Met l yX16_add wbX16_add ({ frames := 0, cells := 0, slots := 0, locals := 0 }) (va_Pc [.long 237250427817, .long 0] (fun U => U.heap.size = sz ∧ va_P (dC, dI) vwCl [] U.heap ∧ va_K (dC, dI) vwCl [] U ∧ va_D (fun _ => True) [] ∧ ns_F g (va_A [] sz) U U.heap)) (va_Ql (fun (r : Int64) (_ : Unit) => r = 7354763262327) (fun _ t => va_P (dC, dI) vwCl [] t.heap ∧ va_K (dC, dI) vwCl [] t ∧ va_D (va_A [] sz) []) (va_A [] sz)) 0 0 (va_A [] sz) := by
  refine Met.ofW (cc := cX16_add) (maxL := 4) (ret := (some .long)) (by decide) rfl ?_
  intro p e s m args below meth c s₁ B hml hv
  obtain ⟨rfl, hsz, hP, hK, hD0, hF⟩ := hv
  have hx := B.exec
  have hb := B.bytes
  have hr := B.returns
  have hts := atoms_spec (ws := wbX16_add) B.pre
  have hta : ∀ w ∈ wsALL, w.before _ s = true := fun w h => hts w (List.mem_cons_of_mem _ h)
  have hown : s.vm.findClass RX16 = some m.cls := findClass_of_methodNamed B.named
  have hlocks := B.notSynchronized
  subst hsz
  have hD := hD0.self (sz := s.heap.size)
  generalize hAe : va_A [] s.heap.size = A at hD hF ⊢
  have hA : ∀ q : Nat, s.heap.size ≤ q → A q := fun q h => by rw [← hAe]; exact Or.inr h
  have hS : va_S A s.heap s.heap [] := va_S.rf
  have hP : va_P (dC, dI) vwCl [] s.heap := hP
  have hl := lv_entry ([.long 237250427817, .long 0]) (n := 4) (Nat.le_of_ble_eq_true rfl)
  rw [lg_entry_eq]
  generalize (lg_sl ([.long 237250427817, .long 0]) ++ List.replicate (4 - (lg_sl ([.long 237250427817, .long 0])).length) Slot.unset).toArray = ls at hl ⊢
  have hl : lv_has ls 4 [(0, .long 237250427817), (2, .long 0)] := hl
  refine lv_lload_n hx hb dX16_add_0 rfl (lv_at hl 0 rfl) ?_
  refine lv_ldc2 (v := 31) hx hb hown (hta _ wm1092) dX16_add_1 ?_
  refine lv_lmul hx hb dX16_add_4 ?_
  refine lv_topl (fun y1 ey1 => ?_)
  obtain rfl : y1 = 7354763262327 := ey1.trans (by decide)
  refine lv_lload_n hx hb dX16_add_5 rfl (lv_at hl 1 rfl) ?_
  refine lv_ladd hx hb dX16_add_6 ?_
  refine lv_topl (fun y2 ey2 => ?_)
  obtain rfl : y2 = 7354763262327 := ey2.trans (by decide)
  have hP9 := hP.sub (ws' := []) [] rfl
  have hD9 := hD.sub (ws' := []) [] (by decide) rfl
  have hK9 := hK.sub (tys' := []) [] rfl
  refine W.widen (k := 0) (n := 0) (Nat.le_of_ble_eq_true rfl) (Nat.le_of_ble_eq_true rfl) ?_
  exact W.lret (v := 7354763262327) hx hb hr (fun t ht hW => ⟨⟨_, (), rfl, rfl, by rw [ht]; exact hP9, va_K.moved hW.alike hK9, hD9⟩, hS.F ht⟩) hS.2.2 dX16_add_7
set_option maxHeartbeats 4000000 in
set_option maxRecDepth 100000 in
theorem kJ0_coder_7d493 (l : Launch) (dC : Nat → ClassId) (dI : Nat → Nat → Nat) (g : Nat → Nat) (sz : Nat)  : Met l yJ0_coder_7d493 wbJ0_coder_7d493 ({ frames := 0, cells := 0, slots := 0, locals := 0 }) (va_Pc [.ref (g 32)] (fun U => U.heap.size = sz ∧ va_P (dC, dI) vwCl [] U.heap ∧ va_K (dC, dI) vwCl [] U ∧ va_D (fun _ => True) [] ∧ ns_F g (va_A [] sz) U U.heap)) (va_Qi (fun (r : Int32) (_ : Unit) => r = 0) (fun _ t => va_P (dC, dI) vwCl [] t.heap ∧ va_K (dC, dI) vwCl [] t ∧ va_D (va_A [] sz) []) (va_A [] sz)) 0 0 (va_A [] sz) := by
  refine Met.ofW (cc := cJ0_coder_7d493) (maxL := 1) (ret := (some .byte)) (by decide) rfl ?_
  intro p e s m args below meth c s₁ B hml hv
  obtain ⟨rfl, hsz, hP, hK, hD0, hF⟩ := hv
  have hx := B.exec
  have hb := B.bytes
  have hr := B.returns
  have hts := atoms_spec (ws := wbJ0_coder_7d493) B.pre
  have hta : ∀ w ∈ wsALL, w.before _ s = true := fun w h => hts w (List.mem_cons_of_mem _ h)
  have hown : s.vm.findClass RJ0 = some m.cls := findClass_of_methodNamed B.named
  have hlocks := B.notSynchronized
  subst hsz
  have hD := hD0.self (sz := s.heap.size)
  generalize hAe : va_A [] s.heap.size = A at hD hF ⊢
  have hA : ∀ q : Nat, s.heap.size ≤ q → A q := fun q h => by rw [← hAe]; exact Or.inr h
  have hS : va_S A s.heap s.heap [] := va_S.rf
  have hP : va_P (dC, dI) vwCl [] s.heap := hP
  have hl := lv_entry ([.ref (g 32)]) (n := 1) (Nat.le_of_ble_eq_true rfl)
  rw [lg_entry_eq]
  generalize (lg_sl ([.ref (g 32)]) ++ List.replicate (1 - (lg_sl ([.ref (g 32)])).length) Slot.unset).toArray = ls at hl ⊢
  have hl : lv_has ls 1 [(0, .ref (g 32))] := hl
  refine va_gets hx hb (ns_f15 hF) hS hown (hta _ wm569) (fun _ h9 => h9) dJ0_coder_7d493_0 ?_
  refine lv_if_eq (tgt := 13) hx hb dJ0_coder_7d493_3 (by decide) (fun c1 => absurd c1 (by decide)) (fun c1 => ?_)
  refine lv_aload_n hx hb dJ0_coder_7d493_6 rfl (lv_at hl 0 rfl) ?_
  refine vk_getf hx hb (ns_f47 hF) hS hown (hta _ wm324) (fun _ h9 => h9) dJ0_coder_7d493_7 ?_
  refine lv_goto (tgt := 14) hx hb dJ0_coder_7d493_10 (by decide) ?_
  have hP9 := hP.sub (ws' := []) [] rfl
  have hD9 := hD.sub (ws' := []) [] (by decide) rfl
  have hK9 := hK.sub (tys' := []) [] rfl
  refine W.widen (k := 0) (n := 0) (Nat.le_of_ble_eq_true rfl) (Nat.le_of_ble_eq_true rfl) ?_
  exact W.zret (v := 0) hx hb hr (by decide) (fun t ht hW => ⟨⟨_, (), rfl, rfl, by rw [ht]; exact hP9, va_K.moved hW.alike hK9, hD9⟩, hS.F ht⟩) hS.2.2 dJ0_coder_7d493_14
set_option maxHeartbeats 4000000 in
set_option maxRecDepth 100000 in
theorem kX10_init (l : Launch) (dC : Nat → ClassId) (dI : Nat → Nat → Nat) (g : Nat → Nat) (sz : Nat) (h0 : Nat) : Met l yX10_init wbX10_init ({ frames := 1, cells := 0, slots := 0, locals := 12 }) (va_Pc [.ref h0] (fun U => U.heap.size = sz ∧ va_P (dC, dI) vwCl [] U.heap ∧ va_K (dC, dI) vwCl [] U ∧ va_D (fun _ => True) [] ∧ ns_F g (va_A [] sz) U U.heap)) (va_Qv (fun _ : Unit => True) (fun _ t => va_P (dC, dI) vwCl [] t.heap ∧ va_K (dC, dI) vwCl [] t ∧ va_D (va_A [] sz) []) (va_A [] sz)) 0 0 (va_A [] sz) := by
  refine Met.ofW (cc := cX10_init) (maxL := 1) (ret := none) (by decide) rfl ?_
  intro p e s m args below meth c s₁ B hml hv
  obtain ⟨rfl, hsz, hP, hK, hD0, hF⟩ := hv
  have hx := B.exec
  have hb := B.bytes
  have hr := B.returns
  have hts := atoms_spec (ws := wbX10_init) B.pre
  have hta : ∀ w ∈ wsALL, w.before _ s = true := fun w h => hts w (List.mem_cons_of_mem _ h)
  have hown : s.vm.findClass RX10 = some m.cls := findClass_of_methodNamed B.named
  have hlocks := B.notSynchronized
  have hin : meth.name = "<init>" := (name_of_methodNamed B.named B.method).1
  subst hsz
  have hD := hD0.self (sz := s.heap.size)
  generalize hAe : va_A [] s.heap.size = A at hD hF ⊢
  have hA : ∀ q : Nat, s.heap.size ≤ q → A q := fun q h => by rw [← hAe]; exact Or.inr h
  have hS : va_S A s.heap s.heap [] := va_S.rf
  have hP : va_P (dC, dI) vwCl [] s.heap := hP
  have hl := lv_entry ([.ref h0]) (n := 1) (Nat.le_of_ble_eq_true rfl)
  rw [lg_entry_eq]
  generalize (lg_sl ([.ref h0]) ++ List.replicate (1 - (lg_sl ([.ref h0])).length) Slot.unset).toArray = ls at hl ⊢
  have hl : lv_has ls 1 [(0, .ref h0)] := hl
  refine lv_aload_n hx hb dX10_init_0 rfl (lv_at hl 0 rfl) ?_
  refine W.objInit hx hb hown (hta _ wm222) (hta _ wm4) (hta _ wm5) rfl (by rw [hml]; exact hl.1) rfl dX10_init_1 (Nat.le_of_ble_eq_true rfl) (Nat.le_of_ble_eq_true rfl) ?_
  refine W.eq (g2 := F0 m 4 ls []) rfl ?_
  have hP9 := hP.sub (ws' := []) [] rfl
  have hD9 := hD.sub (ws' := []) [] (by decide) rfl
  have hK9 := hK.sub (tys' := []) [] rfl
  refine W.widen (k := 0) (n := 0) (Nat.le_of_ble_eq_true rfl) (Nat.le_of_ble_eq_true rfl) ?_
  exact W.vret hx hb hr (fun t ht hW => ⟨⟨(), rfl, trivial, by rw [ht]; exact hP9, va_K.moved hW.alike hK9, hD9⟩, hS.F ht⟩) hS.2.2 dX10_init_4
