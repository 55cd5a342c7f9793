
set_option maxHeartbeats 4000000 in
set_option maxRecDepth 100000 in
theorem kX3_addPlace_10 (l : Launch) (dC : Nat → ClassId) (dI : Nat → Nat → Nat) (g : Nat → Nat) (sz : Nat) (h0 : Nat) (x0 : Int32) (h1 : Nat) (h2 : Nat) (h3 : Nat) (h4 : Nat) (h5 : Nat) (h6 : Nat) (h7 : Nat) (h8 : Nat) (h9 : Nat) (h10 : Nat) (h11 : Nat) (h12 : Nat) (v0 : Value) (v1 : Value) (v2 : Value) (cc0 : ClassId) (f0 : Nat → Int32) (cc1 : ClassId) (f1 : Nat → Int32) (cc2 : ClassId) (f2 : Nat → Int32) (cc3 : ClassId) (f3 : Nat → Int32) (cc4 : ClassId) (f4 : Nat → Int32) (cc5 : ClassId) (f5 : Nat → Int32) (ex0 : (1 : Int) ≤ x0.toInt ∧ x0.toInt ≤ (4 : Int)) : Met l yX3_addPlace wbX3_addPlace ({ frames := 1, cells := 0, slots := 0, locals := 21 }) (va_Pc [.ref h0, .int x0, .int 0, .int 0, .int 0, .int 1, .int 1] (fun U => U.heap.size = sz ∧ va_P (dC, dI) vwCl [(h0, .inr (10, [v0, .ref h1, .ref h3, .ref h5, .ref h7, .ref h9, .ref h11, v1, v2])), (h1, .inr (11, [.ref h2, .int 0])), (h2, .inl (cc0, 4960, .inl f0)), (h3, .inr (11, [.ref h4, .int 0])), (h4, .inl (cc1, 4960, .inl f1)), (h5, .inr (11, [.ref h6, .int 0])), (h6, .inl (cc2, 4960, .inl f2)), (h7, .inr (11, [.ref h8, .int 0])), (h8, .inl (cc3, 4960, .inl f3)), (h9, .inr (11, [.ref h10, .int 0])), (h10, .inl (cc4, 4960, .inl f4)), (h11, .inr (11, [.ref h12, .int 0])), (h12, .inl (cc5, 4960, .inl f5))] U.heap ∧ va_K (dC, dI) vwCl [(cc0, .int), (cc1, .int), (cc2, .int), (cc3, .int), (cc4, .int), (cc5, .int)] U ∧ va_D (fun _ => True) [(h0, .inr (10, [v0, .ref h1, .ref h3, .ref h5, .ref h7, .ref h9, .ref h11, v1, v2])), (h1, .inr (11, [.ref h2, .int 0])), (h2, .inl (cc0, 4960, .inl f0)), (h3, .inr (11, [.ref h4, .int 0])), (h4, .inl (cc1, 4960, .inl f1)), (h5, .inr (11, [.ref h6, .int 0])), (h6, .inl (cc2, 4960, .inl f2)), (h7, .inr (11, [.ref h8, .int 0])), (h8, .inl (cc3, 4960, .inl f3)), (h9, .inr (11, [.ref h10, .int 0])), (h10, .inl (cc4, 4960, .inl f4)), (h11, .inr (11, [.ref h12, .int 0])), (h12, .inl (cc5, 4960, .inl f5))] ∧ ns_F g (va_A [(h0, .inr (10, [v0, .ref h1, .ref h3, .ref h5, .ref h7, .ref h9, .ref h11, v1, v2])), (h1, .inr (11, [.ref h2, .int 0])), (h2, .inl (cc0, 4960, .inl f0)), (h3, .inr (11, [.ref h4, .int 0])), (h4, .inl (cc1, 4960, .inl f1)), (h5, .inr (11, [.ref h6, .int 0])), (h6, .inl (cc2, 4960, .inl f2)), (h7, .inr (11, [.ref h8, .int 0])), (h8, .inl (cc3, 4960, .inl f3)), (h9, .inr (11, [.ref h10, .int 0])), (h10, .inl (cc4, 4960, .inl f4)), (h11, .inr (11, [.ref h12, .int 0])), (h12, .inl (cc5, 4960, .inl f5))] sz) U U.heap)) (va_Qi (fun (r : Int32) (_ : Unit) => r = 0) (fun _ t => va_P (dC, dI) vwCl [(h0, .inr (10, [v0, .ref h1, .ref h3, .ref h5, .ref h7, .ref h9, .ref h11, v1, v2])), (h2, .inl (cc0, 4960, .inl (upd (f0) 0 x0))), (h3, .inr (11, [.ref h4, .int 1])), (h4, .inl (cc1, 4960, .inl (upd (f1) 0 0))), (h5, .inr (11, [.ref h6, .int 1])), (h6, .inl (cc2, 4960, .inl (upd (f2) 0 0))), (h7, .inr (11, [.ref h8, .int 1])), (h8, .inl (cc3, 4960, .inl (upd (f3) 0 0))), (h9, .inr (11, [.ref h10, .int 1])), (h10, .inl (cc4, 4960, .inl (upd (f4) 0 1))), (h11, .inr (11, [.ref h12, .int 1])), (h12, .inl (cc5, 4960, .inl (upd (f5) 0 1))), (h1, .inr (11, [.ref h2, .int 1]))] t.heap ∧ va_K (dC, dI) vwCl [(cc0, .int), (cc1, .int), (cc2, .int), (cc3, .int), (cc4, .int), (cc5, .int)] t ∧ va_D (va_A [(h0, .inr (10, [v0, .ref h1, .ref h3, .ref h5, .ref h7, .ref h9, .ref h11, v1, v2])), (h1, .inr (11, [.ref h2, .int 0])), (h2, .inl (cc0, 4960, .inl f0)), (h3, .inr (11, [.ref h4, .int 0])), (h4, .inl (cc1, 4960, .inl f1)), (h5, .inr (11, [.ref h6, .int 0])), (h6, .inl (cc2, 4960, .inl f2)), (h7, .inr (11, [.ref h8, .int 0])), (h8, .inl (cc3, 4960, .inl f3)), (h9, .inr (11, [.ref h10, .int 0])), (h10, .inl (cc4, 4960, .inl f4)), (h11, .inr (11, [.ref h12, .int 0])), (h12, .inl (cc5, 4960, .inl f5))] sz) [(h0, .inr (10, [v0, .ref h1, .ref h3, .ref h5, .ref h7, .ref h9, .ref h11, v1, v2])), (h2, .inl (cc0, 4960, .inl (upd (f0) 0 x0))), (h3, .inr (11, [.ref h4, .int 1])), (h4, .inl (cc1, 4960, .inl (upd (f1) 0 0))), (h5, .inr (11, [.ref h6, .int 1])), (h6, .inl (cc2, 4960, .inl (upd (f2) 0 0))), (h7, .inr (11, [.ref h8, .int 1])), (h8, .inl (cc3, 4960, .inl (upd (f3) 0 0))), (h9, .inr (11, [.ref h10, .int 1])), (h10, .inl (cc4, 4960, .inl (upd (f4) 0 1))), (h11, .inr (11, [.ref h12, .int 1])), (h12, .inl (cc5, 4960, .inl (upd (f5) 0 1))), (h1, .inr (11, [.ref h2, .int 1]))]) (va_A [(h0, .inr (10, [v0, .ref h1, .ref h3, .ref h5, .ref h7, .ref h9, .ref h11, v1, v2])), (h1, .inr (11, [.ref h2, .int 0])), (h2, .inl (cc0, 4960, .inl f0)), (h3, .inr (11, [.ref h4, .int 0])), (h4, .inl (cc1, 4960, .inl f1)), (h5, .inr (11, [.ref h6, .int 0])), (h6, .inl (cc2, 4960, .inl f2)), (h7, .inr (11, [.ref h8, .int 0])), (h8, .inl (cc3, 4960, .inl f3)), (h9, .inr (11, [.ref h10, .int 0])), (h10, .inl (cc4, 4960, .inl f4)), (h11, .inr (11, [.ref h12, .int 0])), (h12, .inl (cc5, 4960, .inl f5))] sz)) 0 0 (va_A [(h0, .inr (10, [v0, .ref h1, .ref h3, .ref h5, .ref h7, .ref h9, .ref h11, v1, v2])), (h1, .inr (11, [.ref h2, .int 0])), (h2, .inl (cc0, 4960, .inl f0)), (h3, .inr (11, [.ref h4, .int 0])), (h4, .inl (cc1, 4960, .inl f1)), (h5, .inr (11, [.ref h6, .int 0])), (h6, .inl (cc2, 4960, .inl f2)), (h7, .inr (11, [.ref h8, .int 0])), (h8, .inl (cc3, 4960, .inl f3)), (h9, .inr (11, [.ref h10, .int 0])), (h10, .inl (cc4, 4960, .inl f4)), (h11, .inr (11, [.ref h12, .int 0])), (h12, .inl (cc5, 4960, .inl f5))] sz) := by
  refine Met.ofW (cc := cX3_addPlace) (maxL := 7) (ret := (some .int)) (by decide) rfl ?_
  intro p e s m args below meth c s₁ B hml hv
  obtain ⟨rfl, hsz, hP, hK, hD0, hF⟩ := hv
  have hx := B.exec
  have hb := B.bytes
  have hr := B.returns
  have hts := atoms_spec (ws := wbX3_addPlace) B.pre
  have hta : ∀ w ∈ wsALL, w.before _ s = true := fun w h => hts w (List.mem_cons_of_mem _ h)
  have hown : s.vm.findClass RX3 = some m.cls := findClass_of_methodNamed B.named
  have hlocks := B.notSynchronized
  subst hsz
  have hD := hD0.self (sz := s.heap.size)
  generalize hAe : va_A [(h0, .inr (10, [v0, .ref h1, .ref h3, .ref h5, .ref h7, .ref h9, .ref h11, v1, v2])), (h1, .inr (11, [.ref h2, .int 0])), (h2, .inl (cc0, 4960, .inl f0)), (h3, .inr (11, [.ref h4, .int 0])), (h4, .inl (cc1, 4960, .inl f1)), (h5, .inr (11, [.ref h6, .int 0])), (h6, .inl (cc2, 4960, .inl f2)), (h7, .inr (11, [.ref h8, .int 0])), (h8, .inl (cc3, 4960, .inl f3)), (h9, .inr (11, [.ref h10, .int 0])), (h10, .inl (cc4, 4960, .inl f4)), (h11, .inr (11, [.ref h12, .int 0])), (h12, .inl (cc5, 4960, .inl f5))] s.heap.size = A at hD hF ⊢
  have hA : ∀ q : Nat, s.heap.size ≤ q → A q := fun q h => by rw [← hAe]; exact Or.inr h
  have hS : va_S A s.heap s.heap [] := va_S.rf
  have hP : va_P (dC, dI) vwCl [(h0, .inr (10, [v0, .ref h1, .ref h3, .ref h5, .ref h7, .ref h9, .ref h11, v1, v2])), (h1, .inr (11, [.ref h2, .int 0])), (h2, .inl (cc0, 4960, .inl f0)), (h3, .inr (11, [.ref h4, .int 0])), (h4, .inl (cc1, 4960, .inl f1)), (h5, .inr (11, [.ref h6, .int 0])), (h6, .inl (cc2, 4960, .inl f2)), (h7, .inr (11, [.ref h8, .int 0])), (h8, .inl (cc3, 4960, .inl f3)), (h9, .inr (11, [.ref h10, .int 0])), (h10, .inl (cc4, 4960, .inl f4)), (h11, .inr (11, [.ref h12, .int 0])), (h12, .inl (cc5, 4960, .inl f5))] s.heap := hP
  have hl := lv_entry ([.ref h0, .int x0, .int 0, .int 0, .int 0, .int 1, .int 1]) (n := 7) (Nat.le_of_ble_eq_true rfl)
  rw [lg_entry_eq]
  generalize (lg_sl ([.ref h0, .int x0, .int 0, .int 0, .int 0, .int 1, .int 1]) ++ List.replicate (7 - (lg_sl ([.ref h0, .int x0, .int 0, .int 0, .int 0, .int 1, .int 1])).length) Slot.unset).toArray = ls at hl ⊢
  have hl : lv_has ls 7 [(0, .ref h0), (1, .int x0), (2, .int 0), (3, .int 0), (4, .int 0), (5, .int 1), (6, .int 1)] := hl
  refine lv_aload_n hx hb dX3_addPlace_0 rfl (lv_at hl 0 rfl) ?_
  refine va_get (D := (dC, dI)) (ci := 10) (v := .ref h1) (C := RX3) (T := TX3) (N := 9) hx hb hta naX3 hown hK hP 0 rfl rfl 1 (by decide) (hta _ wm19) (fun _ h9 => h9) rfl dX3_addPlace_1 ?_
  refine lv_iload_n hx hb dX3_addPlace_4 rfl (lv_at hl 1 rfl) ?_
  have hPc := hP.sub (ws' := [(h1, .inr (11, [.ref h2, .int 0])), (h2, .inl (cc0, 4960, .inl f0))]) [1, 2] rfl
  have hDc := hD.sub (ws' := [(h1, .inr (11, [.ref h2, .int 0])), (h2, .inl (cc0, 4960, .inl f0))]) [1, 2] (by decide) rfl
  have hKc := hK.sub (tys' := [(cc0, .int)]) [0] rfl
  have hFc := va_free (wc := [(h1, .inr (11, [.ref h2, .int 0])), (h2, .inl (cc0, 4960, .inl f0))]) hD hS hA [1, 2] rfl
  refine va_callv (va_runV (As := [.int x0]) (rest := []) ⟨hx, hb, hml, hown, hts⟩ (kX4_add_21 l dC dI g s.heap.size h1 x0 h2 cc0 f0 ⟨by omega, by omega⟩) (cwV 1 hts (ns_gp (List.forall_mem_cons.mpr ⟨wm257, (List.forall_mem_cons.mpr ⟨wm258, (List.forall_mem_cons.mpr ⟨wm259, (List.forall_mem_cons.mpr ⟨wm12, (fun _ h9 => nomatch h9)⟩)⟩)⟩)⟩) wm256) rfl rfl rfl (by decide +kernel) ⟨Nat.le_of_ble_eq_true rfl, Nat.le_of_ble_eq_true rfl⟩) ⟨fun a U gg mk q => by obtain ⟨q0, q1, qP, qK, qD, qF⟩ := q; exact ⟨q0, q1, qP, va_K.moved (u := U) (U := U.calling gg mk a) (Vm.Alike.refl U.vm) qK, qD, ns_same qF⟩, va_recv hK hP (ci := 11) (q0 := 1) rfl rfl, fun U hU hW => ⟨rfl, by rw [hU], by rw [hU]; exact hPc, va_K.moved hW.alike hKc, hDc.weaken (fun _ _ _ _ => trivial), ns_call hF hS hFc hU hW⟩⟩ rfl rfl hl.1 rfl (lv_room (Nat.le_of_ble_eq_true rfl)) dX3_addPlace_5 ⟨Nat.le_of_ble_eq_true rfl, Nat.le_of_ble_eq_true rfl⟩) hS (fun q _ h => hFc q h) hFc (fun u t H1 locs ht hvm hw hB hz1 hk1 hS => ?_)
  obtain ⟨hP1, hK1, hD1⟩ := hB
  rw [ht] at hP1
  have hK1 := va_K.moved hvm.symm hK1
  obtain ⟨hP, hD⟩ := va_join (wr := [(h0, .inr (10, [v0, .ref h1, .ref h3, .ref h5, .ref h7, .ref h9, .ref h11, v1, v2])), (h3, .inr (11, [.ref h4, .int 0])), (h4, .inl (cc1, 4960, .inl f1)), (h5, .inr (11, [.ref h6, .int 0])), (h6, .inl (cc2, 4960, .inl f2)), (h7, .inr (11, [.ref h8, .int 0])), (h8, .inl (cc3, 4960, .inl f3)), (h9, .inr (11, [.ref h10, .int 0])), (h10, .inl (cc4, 4960, .inl f4)), (h11, .inr (11, [.ref h12, .int 0])), (h12, .inl (cc5, 4960, .inl f5))]) (w1 := [(h1, .inr (11, [.ref h2, .int 1])), (h2, .inl (cc0, 4960, .inl (upd (f0) 0 x0)))]) hP hD [1, 2] [0, 3, 4, 5, 6, 7, 8, 9, 10, 11, 12] rfl rfl (by decide) (by decide) hk1 hFc hP1 hD1
  have hK := (hK.sub (tys' := [(cc1, .int), (cc2, .int), (cc3, .int), (cc4, .int), (cc5, .int)]) [1, 2, 3, 4, 5] rfl).app hK1
  generalize H1 = H at hP hS ⊢
  have hP : va_P (dC, dI) vwCl [(h0, .inr (10, [v0, .ref h1, .ref h3, .ref h5, .ref h7, .ref h9, .ref h11, v1, v2])), (h3, .inr (11, [.ref h4, .int 0])), (h4, .inl (cc1, 4960, .inl f1)), (h5, .inr (11, [.ref h6, .int 0])), (h6, .inl (cc2, 4960, .inl f2)), (h7, .inr (11, [.ref h8, .int 0])), (h8, .inl (cc3, 4960, .inl f3)), (h9, .inr (11, [.ref h10, .int 0])), (h10, .inl (cc4, 4960, .inl f4)), (h11, .inr (11, [.ref h12, .int 0])), (h12, .inl (cc5, 4960, .inl f5)), (h1, .inr (11, [.ref h2, .int 1])), (h2, .inl (cc0, 4960, .inl (upd (f0) 0 x0)))] H := hP
  have hD : va_D A [(h0, .inr (10, [v0, .ref h1, .ref h3, .ref h5, .ref h7, .ref h9, .ref h11, v1, v2])), (h3, .inr (11, [.ref h4, .int 0])), (h4, .inl (cc1, 4960, .inl f1)), (h5, .inr (11, [.ref h6, .int 0])), (h6, .inl (cc2, 4960, .inl f2)), (h7, .inr (11, [.ref h8, .int 0])), (h8, .inl (cc3, 4960, .inl f3)), (h9, .inr (11, [.ref h10, .int 0])), (h10, .inl (cc4, 4960, .inl f4)), (h11, .inr (11, [.ref h12, .int 0])), (h12, .inl (cc5, 4960, .inl f5)), (h1, .inr (11, [.ref h2, .int 1])), (h2, .inl (cc0, 4960, .inl (upd (f0) 0 x0)))] := hD
  have hK : va_K (dC, dI) vwCl [(cc1, .int), (cc2, .int), (cc3, .int), (cc4, .int), (cc5, .int), (cc0, .int)] s := hK
  refine W.widen (k := 0) (n := 0) (Nat.le_of_ble_eq_true rfl) (Nat.le_of_ble_eq_true rfl) ?_
  refine lv_aload_n hx hb dX3_addPlace_8 rfl (lv_at hl 0 rfl) ?_
  refine va_get (D := (dC, dI)) (ci := 10) (v := .ref h3) (C := RX3) (T := TX3) (N := 9) hx hb hta naX3 hown hK hP 0 rfl rfl 2 (by decide) (hta _ wm20) (fun _ h9 => h9) rfl dX3_addPlace_9 ?_
  refine lv_iload_n hx hb dX3_addPlace_12 rfl (lv_at hl 2 rfl) ?_
  have hPc := hP.sub (ws' := [(h3, .inr (11, [.ref h4, .int 0])), (h4, .inl (cc1, 4960, .inl f1))]) [1, 2] rfl
  have hDc := hD.sub (ws' := [(h3, .inr (11, [.ref h4, .int 0])), (h4, .inl (cc1, 4960, .inl f1))]) [1, 2] (by decide) rfl
  have hKc := hK.sub (tys' := [(cc1, .int)]) [0] rfl
  have hFc := va_free (wc := [(h3, .inr (11, [.ref h4, .int 0])), (h4, .inl (cc1, 4960, .inl f1))]) hD hS hA [1, 2] rfl
  refine va_callv (va_runV (As := [.int 0]) (rest := []) ⟨hx, hb, hml, hown, hts⟩ (kX4_add_2 l dC dI g H.size h3 h4 cc1 f1 ) (cwV 1 hts (ns_gp (List.forall_mem_cons.mpr ⟨wm257, (List.forall_mem_cons.mpr ⟨wm258, (List.forall_mem_cons.mpr ⟨wm259, (List.forall_mem_cons.mpr ⟨wm12, (fun _ h9 => nomatch h9)⟩)⟩)⟩)⟩) wm256) rfl rfl rfl (by decide +kernel) ⟨Nat.le_of_ble_eq_true rfl, Nat.le_of_ble_eq_true rfl⟩) ⟨fun a U gg mk q => by obtain ⟨q0, q1, qP, qK, qD, qF⟩ := q; exact ⟨q0, q1, qP, va_K.moved (u := U) (U := U.calling gg mk a) (Vm.Alike.refl U.vm) qK, qD, ns_same qF⟩, va_recv hK hP (ci := 11) (q0 := 1) rfl rfl, fun U hU hW => ⟨rfl, by rw [hU], by rw [hU]; exact hPc, va_K.moved hW.alike hKc, hDc.weaken (fun _ _ _ _ => trivial), ns_call hF hS hFc hU hW⟩⟩ rfl rfl hl.1 rfl (lv_room (Nat.le_of_ble_eq_true rfl)) dX3_addPlace_13 ⟨Nat.le_of_ble_eq_true rfl, Nat.le_of_ble_eq_true rfl⟩) hS (fun q _ h => hFc q h) hFc (fun u t H1 locs ht hvm hw hB hz1 hk1 hS => ?_)
  obtain ⟨hP1, hK1, hD1⟩ := hB
  rw [ht] at hP1
  have hK1 := va_K.moved hvm.symm hK1
  obtain ⟨hP, hD⟩ := va_join (wr := [(h0, .inr (10, [v0, .ref h1, .ref h3, .ref h5, .ref h7, .ref h9, .ref h11, v1, v2])), (h5, .inr (11, [.ref h6, .int 0])), (h6, .inl (cc2, 4960, .inl f2)), (h7, .inr (11, [.ref h8, .int 0])), (h8, .inl (cc3, 4960, .inl f3)), (h9, .inr (11, [.ref h10, .int 0])), (h10, .inl (cc4, 4960, .inl f4)), (h11, .inr (11, [.ref h12, .int 0])), (h12, .inl (cc5, 4960, .inl f5)), (h1, .inr (11, [.ref h2, .int 1])), (h2, .inl (cc0, 4960, .inl (upd (f0) 0 x0)))]) (w1 := [(h3, .inr (11, [.ref h4, .int 1])), (h4, .inl (cc1, 4960, .inl (upd (f1) 0 0)))]) hP hD [1, 2] [0, 3, 4, 5, 6, 7, 8, 9, 10, 11, 12] rfl rfl (by decide) (by decide) hk1 hFc hP1 hD1
  have hK := (hK.sub (tys' := [(cc2, .int), (cc3, .int), (cc4, .int), (cc5, .int), (cc0, .int)]) [1, 2, 3, 4, 5] rfl).app hK1
  generalize H1 = H at hP hS ⊢
  have hP : va_P (dC, dI) vwCl [(h0, .inr (10, [v0, .ref h1, .ref h3, .ref h5, .ref h7, .ref h9, .ref h11, v1, v2])), (h5, .inr (11, [.ref h6, .int 0])), (h6, .inl (cc2, 4960, .inl f2)), (h7, .inr (11, [.ref h8, .int 0])), (h8, .inl (cc3, 4960, .inl f3)), (h9, .inr (11, [.ref h10, .int 0])), (h10, .inl (cc4, 4960, .inl f4)), (h11, .inr (11, [.ref h12, .int 0])), (h12, .inl (cc5, 4960, .inl f5)), (h1, .inr (11, [.ref h2, .int 1])), (h2, .inl (cc0, 4960, .inl (upd (f0) 0 x0))), (h3, .inr (11, [.ref h4, .int 1])), (h4, .inl (cc1, 4960, .inl (upd (f1) 0 0)))] H := hP
  have hD : va_D A [(h0, .inr (10, [v0, .ref h1, .ref h3, .ref h5, .ref h7, .ref h9, .ref h11, v1, v2])), (h5, .inr (11, [.ref h6, .int 0])), (h6, .inl (cc2, 4960, .inl f2)), (h7, .inr (11, [.ref h8, .int 0])), (h8, .inl (cc3, 4960, .inl f3)), (h9, .inr (11, [.ref h10, .int 0])), (h10, .inl (cc4, 4960, .inl f4)), (h11, .inr (11, [.ref h12, .int 0])), (h12, .inl (cc5, 4960, .inl f5)), (h1, .inr (11, [.ref h2, .int 1])), (h2, .inl (cc0, 4960, .inl (upd (f0) 0 x0))), (h3, .inr (11, [.ref h4, .int 1])), (h4, .inl (cc1, 4960, .inl (upd (f1) 0 0)))] := hD
  have hK : va_K (dC, dI) vwCl [(cc2, .int), (cc3, .int), (cc4, .int), (cc5, .int), (cc0, .int), (cc1, .int)] s := hK
  refine W.widen (k := 0) (n := 0) (Nat.le_of_ble_eq_true rfl) (Nat.le_of_ble_eq_true rfl) ?_
  refine lv_aload_n hx hb dX3_addPlace_16 rfl (lv_at hl 0 rfl) ?_
  refine va_get (D := (dC, dI)) (ci := 10) (v := .ref h5) (C := RX3) (T := TX3) (N := 9) hx hb hta naX3 hown hK hP 0 rfl rfl 3 (by decide) (hta _ wm21) (fun _ h9 => h9) rfl dX3_addPlace_17 ?_
  refine lv_iload_n hx hb dX3_addPlace_20 rfl (lv_at hl 3 rfl) ?_
  have hPc := hP.sub (ws' := [(h5, .inr (11, [.ref h6, .int 0])), (h6, .inl (cc2, 4960, .inl f2))]) [1, 2] rfl
  have hDc := hD.sub (ws' := [(h5, .inr (11, [.ref h6, .int 0])), (h6, .inl (cc2, 4960, .inl f2))]) [1, 2] (by decide) rfl
  have hKc := hK.sub (tys' := [(cc2, .int)]) [0] rfl
  have hFc := va_free (wc := [(h5, .inr (11, [.ref h6, .int 0])), (h6, .inl (cc2, 4960, .inl f2))]) hD hS hA [1, 2] rfl
  refine va_callv (va_runV (As := [.int 0]) (rest := []) ⟨hx, hb, hml, hown, hts⟩ (kX4_add_2 l dC dI g H.size h5 h6 cc2 f2 ) (cwV 1 hts (ns_gp (List.forall_mem_cons.mpr ⟨wm257, (List.forall_mem_cons.mpr ⟨wm258, (List.forall_mem_cons.mpr ⟨wm259, (List.forall_mem_cons.mpr ⟨wm12, (fun _ h9 => nomatch h9)⟩)⟩)⟩)⟩) wm256) rfl rfl rfl (by decide +kernel) ⟨Nat.le_of_ble_eq_true rfl, Nat.le_of_ble_eq_true rfl⟩) ⟨fun a U gg mk q => by obtain ⟨q0, q1, qP, qK, qD, qF⟩ := q; exact ⟨q0, q1, qP, va_K.moved (u := U) (U := U.calling gg mk a) (Vm.Alike.refl U.vm) qK, qD, ns_same qF⟩, va_recv hK hP (ci := 11) (q0 := 1) rfl rfl, fun U hU hW => ⟨rfl, by rw [hU], by rw [hU]; exact hPc, va_K.moved hW.alike hKc, hDc.weaken (fun _ _ _ _ => trivial), ns_call hF hS hFc hU hW⟩⟩ rfl rfl hl.1 rfl (lv_room (Nat.le_of_ble_eq_true rfl)) dX3_addPlace_21 ⟨Nat.le_of_ble_eq_true rfl, Nat.le_of_ble_eq_true rfl⟩) hS (fun q _ h => hFc q h) hFc (fun u t H1 locs ht hvm hw hB hz1 hk1 hS => ?_)
  obtain ⟨hP1, hK1, hD1⟩ := hB
  rw [ht] at hP1
  have hK1 := va_K.moved hvm.symm hK1
  obtain ⟨hP, hD⟩ := va_join (wr := [(h0, .inr (10, [v0, .ref h1, .ref h3, .ref h5, .ref h7, .ref h9, .ref h11, v1, v2])), (h7, .inr (11, [.ref h8, .int 0])), (h8, .inl (cc3, 4960, .inl f3)), (h9, .inr (11, [.ref h10, .int 0])), (h10, .inl (cc4, 4960, .inl f4)), (h11, .inr (11, [.ref h12, .int 0])), (h12, .inl (cc5, 4960, .inl f5)), (h1, .inr (11, [.ref h2, .int 1])), (h2, .inl (cc0, 4960, .inl (upd (f0) 0 x0))), (h3, .inr (11, [.ref h4, .int 1])), (h4, .inl (cc1, 4960, .inl (upd (f1) 0 0)))]) (w1 := [(h5, .inr (11, [.ref h6, .int 1])), (h6, .inl (cc2, 4960, .inl (upd (f2) 0 0)))]) hP hD [1, 2] [0, 3, 4, 5, 6, 7, 8, 9, 10, 11, 12] rfl rfl (by decide) (by decide) hk1 hFc hP1 hD1
  have hK := (hK.sub (tys' := [(cc3, .int), (cc4, .int), (cc5, .int), (cc0, .int), (cc1, .int)]) [1, 2, 3, 4, 5] rfl).app hK1
  generalize H1 = H at hP hS ⊢
  have hP : va_P (dC, dI) vwCl [(h0, .inr (10, [v0, .ref h1, .ref h3, .ref h5, .ref h7, .ref h9, .ref h11, v1, v2])), (h7, .inr (11, [.ref h8, .int 0])), (h8, .inl (cc3, 4960, .inl f3)), (h9, .inr (11, [.ref h10, .int 0])), (h10, .inl (cc4, 4960, .inl f4)), (h11, .inr (11, [.ref h12, .int 0])), (h12, .inl (cc5, 4960, .inl f5)), (h1, .inr (11, [.ref h2, .int 1])), (h2, .inl (cc0, 4960, .inl (upd (f0) 0 x0))), (h3, .inr (11, [.ref h4, .int 1])), (h4, .inl (cc1, 4960, .inl (upd (f1) 0 0))), (h5, .inr (11, [.ref h6, .int 1])), (h6, .inl (cc2, 4960, .inl (upd (f2) 0 0)))] H := hP
  have hD : va_D A [(h0, .inr (10, [v0, .ref h1, .ref h3, .ref h5, .ref h7, .ref h9, .ref h11, v1, v2])), (h7, .inr (11, [.ref h8, .int 0])), (h8, .inl (cc3, 4960, .inl f3)), (h9, .inr (11, [.ref h10, .int 0])), (h10, .inl (cc4, 4960, .inl f4)), (h11, .inr (11, [.ref h12, .int 0])), (h12, .inl (cc5, 4960, .inl f5)), (h1, .inr (11, [.ref h2, .int 1])), (h2, .inl (cc0, 4960, .inl (upd (f0) 0 x0))), (h3, .inr (11, [.ref h4, .int 1])), (h4, .inl (cc1, 4960, .inl (upd (f1) 0 0))), (h5, .inr (11, [.ref h6, .int 1])), (h6, .inl (cc2, 4960, .inl (upd (f2) 0 0)))] := hD
  have hK : va_K (dC, dI) vwCl [(cc3, .int), (cc4, .int), (cc5, .int), (cc0, .int), (cc1, .int), (cc2, .int)] s := hK
  refine W.widen (k := 0) (n := 0) (Nat.le_of_ble_eq_true rfl) (Nat.le_of_ble_eq_true rfl) ?_
  refine lv_aload_n hx hb dX3_addPlace_24 rfl (lv_at hl 0 rfl) ?_
  refine va_get (D := (dC, dI)) (ci := 10) (v := .ref h7) (C := RX3) (T := TX3) (N := 9) hx hb hta naX3 hown hK hP 0 rfl rfl 4 (by decide) (hta _ wm22) (fun _ h9 => h9) rfl dX3_addPlace_25 ?_
  refine lv_iload hx hb dX3_addPlace_28 (lv_at hl 4 rfl) ?_
  have hPc := hP.sub (ws' := [(h7, .inr (11, [.ref h8, .int 0])), (h8, .inl (cc3, 4960, .inl f3))]) [1, 2] rfl
  have hDc := hD.sub (ws' := [(h7, .inr (11, [.ref h8, .int 0])), (h8, .inl (cc3, 4960, .inl f3))]) [1, 2] (by decide) rfl
  have hKc := hK.sub (tys' := [(cc3, .int)]) [0] rfl
  have hFc := va_free (wc := [(h7, .inr (11, [.ref h8, .int 0])), (h8, .inl (cc3, 4960, .inl f3))]) hD hS hA [1, 2] rfl
  refine va_callv (va_runV (As := [.int 0]) (rest := []) ⟨hx, hb, hml, hown, hts⟩ (kX4_add_2 l dC dI g H.size h7 h8 cc3 f3 ) (cwV 1 hts (ns_gp (List.forall_mem_cons.mpr ⟨wm257, (List.forall_mem_cons.mpr ⟨wm258, (List.forall_mem_cons.mpr ⟨wm259, (List.forall_mem_cons.mpr ⟨wm12, (fun _ h9 => nomatch h9)⟩)⟩)⟩)⟩) wm256) rfl rfl rfl (by decide +kernel) ⟨Nat.le_of_ble_eq_true rfl, Nat.le_of_ble_eq_true rfl⟩) ⟨fun a U gg mk q => by obtain ⟨q0, q1, qP, qK, qD, qF⟩ := q; exact ⟨q0, q1, qP, va_K.moved (u := U) (U := U.calling gg mk a) (Vm.Alike.refl U.vm) qK, qD, ns_same qF⟩, va_recv hK hP (ci := 11) (q0 := 1) rfl rfl, fun U hU hW => ⟨rfl, by rw [hU], by rw [hU]; exact hPc, va_K.moved hW.alike hKc, hDc.weaken (fun _ _ _ _ => trivial), ns_call hF hS hFc hU hW⟩⟩ rfl rfl hl.1 rfl (lv_room (Nat.le_of_ble_eq_true rfl)) dX3_addPlace_30 ⟨Nat.le_of_ble_eq_true rfl, Nat.le_of_ble_eq_true rfl⟩) hS (fun q _ h => hFc q h) hFc (fun u t H1 locs ht hvm hw hB hz1 hk1 hS => ?_)
  obtain ⟨hP1, hK1, hD1⟩ := hB
  rw [ht] at hP1
  have hK1 := va_K.moved hvm.symm hK1
  obtain ⟨hP, hD⟩ := va_join (wr := [(h0, .inr (10, [v0, .ref h1, .ref h3, .ref h5, .ref h7, .ref h9, .ref h11, v1, v2])), (h9, .inr (11, [.ref h10, .int 0])), (h10, .inl (cc4, 4960, .inl f4)), (h11, .inr (11, [.ref h12, .int 0])), (h12, .inl (cc5, 4960, .inl f5)), (h1, .inr (11, [.ref h2, .int 1])), (h2, .inl (cc0, 4960, .inl (upd (f0) 0 x0))), (h3, .inr (11, [.ref h4, .int 1])), (h4, .inl (cc1, 4960, .inl (upd (f1) 0 0))), (h5, .inr (11, [.ref h6, .int 1])), (h6, .inl (cc2, 4960, .inl (upd (f2) 0 0)))]) (w1 := [(h7, .inr (11, [.ref h8, .int 1])), (h8, .inl (cc3, 4960, .inl (upd (f3) 0 0)))]) hP hD [1, 2] [0, 3, 4, 5, 6, 7, 8, 9, 10, 11, 12] rfl rfl (by decide) (by decide) hk1 hFc hP1 hD1
  have hK := (hK.sub (tys' := [(cc4, .int), (cc5, .int), (cc0, .int), (cc1, .int), (cc2, .int)]) [1, 2, 3, 4, 5] rfl).app hK1
  generalize H1 = H at hP hS ⊢
  have hP : va_P (dC, dI) vwCl [(h0, .inr (10, [v0, .ref h1, .ref h3, .ref h5, .ref h7, .ref h9, .ref h11, v1, v2])), (h9, .inr (11, [.ref h10, .int 0])), (h10, .inl (cc4, 4960, .inl f4)), (h11, .inr (11, [.ref h12, .int 0])), (h12, .inl (cc5, 4960, .inl f5)), (h1, .inr (11, [.ref h2, .int 1])), (h2, .inl (cc0, 4960, .inl (upd (f0) 0 x0))), (h3, .inr (11, [.ref h4, .int 1])), (h4, .inl (cc1, 4960, .inl (upd (f1) 0 0))), (h5, .inr (11, [.ref h6, .int 1])), (h6, .inl (cc2, 4960, .inl (upd (f2) 0 0))), (h7, .inr (11, [.ref h8, .int 1])), (h8, .inl (cc3, 4960, .inl (upd (f3) 0 0)))] H := hP
  have hD : va_D A [(h0, .inr (10, [v0, .ref h1, .ref h3, .ref h5, .ref h7, .ref h9, .ref h11, v1, v2])), (h9, .inr (11, [.ref h10, .int 0])), (h10, .inl (cc4, 4960, .inl f4)), (h11, .inr (11, [.ref h12, .int 0])), (h12, .inl (cc5, 4960, .inl f5)), (h1, .inr (11, [.ref h2, .int 1])), (h2, .inl (cc0, 4960, .inl (upd (f0) 0 x0))), (h3, .inr (11, [.ref h4, .int 1])), (h4, .inl (cc1, 4960, .inl (upd (f1) 0 0))), (h5, .inr (11, [.ref h6, .int 1])), (h6, .inl (cc2, 4960, .inl (upd (f2) 0 0))), (h7, .inr (11, [.ref h8, .int 1])), (h8, .inl (cc3, 4960, .inl (upd (f3) 0 0)))] := hD
  have hK : va_K (dC, dI) vwCl [(cc4, .int), (cc5, .int), (cc0, .int), (cc1, .int), (cc2, .int), (cc3, .int)] s := hK
  refine W.widen (k := 0) (n := 0) (Nat.le_of_ble_eq_true rfl) (Nat.le_of_ble_eq_true rfl) ?_
  refine lv_aload_n hx hb dX3_addPlace_33 rfl (lv_at hl 0 rfl) ?_
  refine va_get (D := (dC, dI)) (ci := 10) (v := .ref h9) (C := RX3) (T := TX3) (N := 9) hx hb hta naX3 hown hK hP 0 rfl rfl 5 (by decide) (hta _ wm23) (fun _ h9 => h9) rfl dX3_addPlace_34 ?_
  refine lv_iload hx hb dX3_addPlace_37 (lv_at hl 5 rfl) ?_
  have hPc := hP.sub (ws' := [(h9, .inr (11, [.ref h10, .int 0])), (h10, .inl (cc4, 4960, .inl f4))]) [1, 2] rfl
  have hDc := hD.sub (ws' := [(h9, .inr (11, [.ref h10, .int 0])), (h10, .inl (cc4, 4960, .inl f4))]) [1, 2] (by decide) rfl
  have hKc := hK.sub (tys' := [(cc4, .int)]) [0] rfl
  have hFc := va_free (wc := [(h9, .inr (11, [.ref h10, .int 0])), (h10, .inl (cc4, 4960, .inl f4))]) hD hS hA [1, 2] rfl
  refine va_callv (va_runV (As := [.int 1]) (rest := []) ⟨hx, hb, hml, hown, hts⟩ (kX4_add_3 l dC dI g H.size h9 h10 cc4 f4 ) (cwV 1 hts (ns_gp (List.forall_mem_cons.mpr ⟨wm257, (List.forall_mem_cons.mpr ⟨wm258, (List.forall_mem_cons.mpr ⟨wm259, (List.forall_mem_cons.mpr ⟨wm12, (fun _ h9 => nomatch h9)⟩)⟩)⟩)⟩) wm256) rfl rfl rfl (by decide +kernel) ⟨Nat.le_of_ble_eq_true rfl, Nat.le_of_ble_eq_true rfl⟩) ⟨fun a U gg mk q => by obtain ⟨q0, q1, qP, qK, qD, qF⟩ := q; exact ⟨q0, q1, qP, va_K.moved (u := U) (U := U.calling gg mk a) (Vm.Alike.refl U.vm) qK, qD, ns_same qF⟩, va_recv hK hP (ci := 11) (q0 := 1) rfl rfl, fun U hU hW => ⟨rfl, by rw [hU], by rw [hU]; exact hPc, va_K.moved hW.alike hKc, hDc.weaken (fun _ _ _ _ => trivial), ns_call hF hS hFc hU hW⟩⟩ rfl rfl hl.1 rfl (lv_room (Nat.le_of_ble_eq_true rfl)) dX3_addPlace_39 ⟨Nat.le_of_ble_eq_true rfl, Nat.le_of_ble_eq_true rfl⟩) hS (fun q _ h => hFc q h) hFc (fun u t H1 locs ht hvm hw hB hz1 hk1 hS => ?_)
  obtain ⟨hP1, hK1, hD1⟩ := hB
  rw [ht] at hP1
  have hK1 := va_K.moved hvm.symm hK1
  obtain ⟨hP, hD⟩ := va_join (wr := [(h0, .inr (10, [v0, .ref h1, .ref h3, .ref h5, .ref h7, .ref h9, .ref h11, v1, v2])), (h11, .inr (11, [.ref h12, .int 0])), (h12, .inl (cc5, 4960, .inl f5)), (h1, .inr (11, [.ref h2, .int 1])), (h2, .inl (cc0, 4960, .inl (upd (f0) 0 x0))), (h3, .inr (11, [.ref h4, .int 1])), (h4, .inl (cc1, 4960, .inl (upd (f1) 0 0))), (h5, .inr (11, [.ref h6, .int 1])), (h6, .inl (cc2, 4960, .inl (upd (f2) 0 0))), (h7, .inr (11, [.ref h8, .int 1])), (h8, .inl (cc3, 4960, .inl (upd (f3) 0 0)))]) (w1 := [(h9, .inr (11, [.ref h10, .int 1])), (h10, .inl (cc4, 4960, .inl (upd (f4) 0 1)))]) hP hD [1, 2] [0, 3, 4, 5, 6, 7, 8, 9, 10, 11, 12] rfl rfl (by decide) (by decide) hk1 hFc hP1 hD1
  have hK := (hK.sub (tys' := [(cc5, .int), (cc0, .int), (cc1, .int), (cc2, .int), (cc3, .int)]) [1, 2, 3, 4, 5] rfl).app hK1
  generalize H1 = H at hP hS ⊢
  have hP : va_P (dC, dI) vwCl [(h0, .inr (10, [v0, .ref h1, .ref h3, .ref h5, .ref h7, .ref h9, .ref h11, v1, v2])), (h11, .inr (11, [.ref h12, .int 0])), (h12, .inl (cc5, 4960, .inl f5)), (h1, .inr (11, [.ref h2, .int 1])), (h2, .inl (cc0, 4960, .inl (upd (f0) 0 x0))), (h3, .inr (11, [.ref h4, .int 1])), (h4, .inl (cc1, 4960, .inl (upd (f1) 0 0))), (h5, .inr (11, [.ref h6, .int 1])), (h6, .inl (cc2, 4960, .inl (upd (f2) 0 0))), (h7, .inr (11, [.ref h8, .int 1])), (h8, .inl (cc3, 4960, .inl (upd (f3) 0 0))), (h9, .inr (11, [.ref h10, .int 1])), (h10, .inl (cc4, 4960, .inl (upd (f4) 0 1)))] H := hP
  have hD : va_D A [(h0, .inr (10, [v0, .ref h1, .ref h3, .ref h5, .ref h7, .ref h9, .ref h11, v1, v2])), (h11, .inr (11, [.ref h12, .int 0])), (h12, .inl (cc5, 4960, .inl f5)), (h1, .inr (11, [.ref h2, .int 1])), (h2, .inl (cc0, 4960, .inl (upd (f0) 0 x0))), (h3, .inr (11, [.ref h4, .int 1])), (h4, .inl (cc1, 4960, .inl (upd (f1) 0 0))), (h5, .inr (11, [.ref h6, .int 1])), (h6, .inl (cc2, 4960, .inl (upd (f2) 0 0))), (h7, .inr (11, [.ref h8, .int 1])), (h8, .inl (cc3, 4960, .inl (upd (f3) 0 0))), (h9, .inr (11, [.ref h10, .int 1])), (h10, .inl (cc4, 4960, .inl (upd (f4) 0 1)))] := hD
  have hK : va_K (dC, dI) vwCl [(cc5, .int), (cc0, .int), (cc1, .int), (cc2, .int), (cc3, .int), (cc4, .int)] s := hK
  refine W.widen (k := 0) (n := 0) (Nat.le_of_ble_eq_true rfl) (Nat.le_of_ble_eq_true rfl) ?_
  refine lv_aload_n hx hb dX3_addPlace_42 rfl (lv_at hl 0 rfl) ?_
  refine va_get (D := (dC, dI)) (ci := 10) (v := .ref h11) (C := RX3) (T := TX3) (N := 9) hx hb hta naX3 hown hK hP 0 rfl rfl 6 (by decide) (hta _ wm24) (fun _ h9 => h9) rfl dX3_addPlace_43 ?_
  refine lv_iload hx hb dX3_addPlace_46 (lv_at hl 6 rfl) ?_
  have hPc := hP.sub (ws' := [(h11, .inr (11, [.ref h12, .int 0])), (h12, .inl (cc5, 4960, .inl f5))]) [1, 2] rfl
  have hDc := hD.sub (ws' := [(h11, .inr (11, [.ref h12, .int 0])), (h12, .inl (cc5, 4960, .inl f5))]) [1, 2] (by decide) rfl
  have hKc := hK.sub (tys' := [(cc5, .int)]) [0] rfl
  have hFc := va_free (wc := [(h11, .inr (11, [.ref h12, .int 0])), (h12, .inl (cc5, 4960, .inl f5))]) hD hS hA [1, 2] rfl
  refine va_callv (va_runV (As := [.int 1]) (rest := []) ⟨hx, hb, hml, hown, hts⟩ (kX4_add_3 l dC dI g H.size h11 h12 cc5 f5 ) (cwV 1 hts (ns_gp (List.forall_mem_cons.mpr ⟨wm257, (List.forall_mem_cons.mpr ⟨wm258, (List.forall_mem_cons.mpr ⟨wm259, (List.forall_mem_cons.mpr ⟨wm12, (fun _ h9 => nomatch h9)⟩)⟩)⟩)⟩) wm256) rfl rfl rfl (by decide +kernel) ⟨Nat.le_of_ble_eq_true rfl, Nat.le_of_ble_eq_true rfl⟩) ⟨fun a U gg mk q => by obtain ⟨q0, q1, qP, qK, qD, qF⟩ := q; exact ⟨q0, q1, qP, va_K.moved (u := U) (U := U.calling gg mk a) (Vm.Alike.refl U.vm) qK, qD, ns_same qF⟩, va_recv hK hP (ci := 11) (q0 := 1) rfl rfl, fun U hU hW => ⟨rfl, by rw [hU], by rw [hU]; exact hPc, va_K.moved hW.alike hKc, hDc.weaken (fun _ _ _ _ => trivial), ns_call hF hS hFc hU hW⟩⟩ rfl rfl hl.1 rfl (lv_room (Nat.le_of_ble_eq_true rfl)) dX3_addPlace_48 ⟨Nat.le_of_ble_eq_true rfl, Nat.le_of_ble_eq_true rfl⟩) hS (fun q _ h => hFc q h) hFc (fun u t H1 locs ht hvm hw hB hz1 hk1 hS => ?_)
  obtain ⟨hP1, hK1, hD1⟩ := hB
  rw [ht] at hP1
  have hK1 := va_K.moved hvm.symm hK1
  obtain ⟨hP, hD⟩ := va_join (wr := [(h0, .inr (10, [v0, .ref h1, .ref h3, .ref h5, .ref h7, .ref h9, .ref h11, v1, v2])), (h1, .inr (11, [.ref h2, .int 1])), (h2, .inl (cc0, 4960, .inl (upd (f0) 0 x0))), (h3, .inr (11, [.ref h4, .int 1])), (h4, .inl (cc1, 4960, .inl (upd (f1) 0 0))), (h5, .inr (11, [.ref h6, .int 1])), (h6, .inl (cc2, 4960, .inl (upd (f2) 0 0))), (h7, .inr (11, [.ref h8, .int 1])), (h8, .inl (cc3, 4960, .inl (upd (f3) 0 0))), (h9, .inr (11, [.ref h10, .int 1])), (h10, .inl (cc4, 4960, .inl (upd (f4) 0 1)))]) (w1 := [(h11, .inr (11, [.ref h12, .int 1])), (h12, .inl (cc5, 4960, .inl (upd (f5) 0 1)))]) hP hD [1, 2] [0, 3, 4, 5, 6, 7, 8, 9, 10, 11, 12] rfl rfl (by decide) (by decide) hk1 hFc hP1 hD1
  have hK := (hK.sub (tys' := [(cc0, .int), (cc1, .int), (cc2, .int), (cc3, .int), (cc4, .int)]) [1, 2, 3, 4, 5] rfl).app hK1
  generalize H1 = H at hP hS ⊢
  have hP : va_P (dC, dI) vwCl [(h0, .inr (10, [v0, .ref h1, .ref h3, .ref h5, .ref h7, .ref h9, .ref h11, v1, v2])), (h1, .inr (11, [.ref h2, .int 1])), (h2, .inl (cc0, 4960, .inl (upd (f0) 0 x0))), (h3, .inr (11, [.ref h4, .int 1])), (h4, .inl (cc1, 4960, .inl (upd (f1) 0 0))), (h5, .inr (11, [.ref h6, .int 1])), (h6, .inl (cc2, 4960, .inl (upd (f2) 0 0))), (h7, .inr (11, [.ref h8, .int 1])), (h8, .inl (cc3, 4960, .inl (upd (f3) 0 0))), (h9, .inr (11, [.ref h10, .int 1])), (h10, .inl (cc4, 4960, .inl (upd (f4) 0 1))), (h11, .inr (11, [.ref h12, .int 1])), (h12, .inl (cc5, 4960, .inl (upd (f5) 0 1)))] H := hP
  have hD : va_D A [(h0, .inr (10, [v0, .ref h1, .ref h3, .ref h5, .ref h7, .ref h9, .ref h11, v1, v2])), (h1, .inr (11, [.ref h2, .int 1])), (h2, .inl (cc0, 4960, .inl (upd (f0) 0 x0))), (h3, .inr (11, [.ref h4, .int 1])), (h4, .inl (cc1, 4960, .inl (upd (f1) 0 0))), (h5, .inr (11, [.ref h6, .int 1])), (h6, .inl (cc2, 4960, .inl (upd (f2) 0 0))), (h7, .inr (11, [.ref h8, .int 1])), (h8, .inl (cc3, 4960, .inl (upd (f3) 0 0))), (h9, .inr (11, [.ref h10, .int 1])), (h10, .inl (cc4, 4960, .inl (upd (f4) 0 1))), (h11, .inr (11, [.ref h12, .int 1])), (h12, .inl (cc5, 4960, .inl (upd (f5) 0 1)))] := hD
  have hK : va_K (dC, dI) vwCl [(cc0, .int), (cc1, .int), (cc2, .int), (cc3, .int), (cc4, .int), (cc5, .int)] s := hK
  refine W.widen (k := 0) (n := 0) (Nat.le_of_ble_eq_true rfl) (Nat.le_of_ble_eq_true rfl) ?_
  refine lv_aload_n hx hb dX3_addPlace_51 rfl (lv_at hl 0 rfl) ?_
  refine va_get (D := (dC, dI)) (ci := 10) (v := .ref h1) (C := RX3) (T := TX3) (N := 9) hx hb hta naX3 hown hK hP 0 rfl rfl 1 (by decide) (hta _ wm19) (fun _ h9 => h9) rfl dX3_addPlace_52 ?_
  have hPc := hP.sub (ws' := [(h1, .inr (11, [.ref h2, .int 1]))]) [1] rfl
  have hDc := hD.sub (ws' := [(h1, .inr (11, [.ref h2, .int 1]))]) [1] (by decide) rfl
  have hKc := hK.sub (tys' := []) [] rfl
  have hFc := va_free (wc := [(h1, .inr (11, [.ref h2, .int 1]))]) hD hS hA [1] rfl
  refine va_calli (va_runV (As := []) (rest := []) ⟨hx, hb, hml, hown, hts⟩ (kX4_size_2 l dC dI g H.size h1 (.ref h2) ) (cwV 0 hts (ns_gp (List.forall_mem_cons.mpr ⟨wm248, (List.forall_mem_cons.mpr ⟨wm249, (List.forall_mem_cons.mpr ⟨wm250, (List.forall_mem_cons.mpr ⟨wm12, (fun _ h9 => nomatch h9)⟩)⟩)⟩)⟩) wm247) rfl rfl rfl (by decide +kernel) ⟨Nat.le_of_ble_eq_true rfl, Nat.le_of_ble_eq_true rfl⟩) ⟨fun a U gg mk q => by obtain ⟨q0, q1, qP, qK, qD, qF⟩ := q; exact ⟨q0, q1, qP, va_K.moved (u := U) (U := U.calling gg mk a) (Vm.Alike.refl U.vm) qK, qD, ns_same qF⟩, va_recv hK hP (ci := 11) (q0 := 1) rfl rfl, fun U hU hW => ⟨rfl, by rw [hU], by rw [hU]; exact hPc, va_K.moved hW.alike hKc, hDc.weaken (fun _ _ _ _ => trivial), ns_call hF hS hFc hU hW⟩⟩ rfl rfl hl.1 rfl (lv_room (Nat.le_of_ble_eq_true rfl)) dX3_addPlace_55 ⟨Nat.le_of_ble_eq_true rfl, Nat.le_of_ble_eq_true rfl⟩) hS (fun q _ h => hFc q h) hFc (fun r9 u t H1 locs ht hvm hw hB hz1 hk1 hS => ?_)
  obtain rfl := hw.symm
  obtain ⟨hP1, hK1, hD1⟩ := hB
  rw [ht] at hP1
  have hK1 := va_K.moved hvm.symm hK1
  obtain ⟨hP, hD⟩ := va_join (wr := [(h0, .inr (10, [v0, .ref h1, .ref h3, .ref h5, .ref h7, .ref h9, .ref h11, v1, v2])), (h2, .inl (cc0, 4960, .inl (upd (f0) 0 x0))), (h3, .inr (11, [.ref h4, .int 1])), (h4, .inl (cc1, 4960, .inl (upd (f1) 0 0))), (h5, .inr (11, [.ref h6, .int 1])), (h6, .inl (cc2, 4960, .inl (upd (f2) 0 0))), (h7, .inr (11, [.ref h8, .int 1])), (h8, .inl (cc3, 4960, .inl (upd (f3) 0 0))), (h9, .inr (11, [.ref h10, .int 1])), (h10, .inl (cc4, 4960, .inl (upd (f4) 0 1))), (h11, .inr (11, [.ref h12, .int 1])), (h12, .inl (cc5, 4960, .inl (upd (f5) 0 1)))]) (w1 := [(h1, .inr (11, [.ref h2, .int 1]))]) hP hD [1] [0, 2, 3, 4, 5, 6, 7, 8, 9, 10, 11, 12] rfl rfl (by decide) (by decide) hk1 hFc hP1 hD1
  have hK := (hK.sub (tys' := [(cc0, .int), (cc1, .int), (cc2, .int), (cc3, .int), (cc4, .int), (cc5, .int)]) [0, 1, 2, 3, 4, 5] rfl).app hK1
  generalize H1 = H at hP hS ⊢
  have hP : va_P (dC, dI) vwCl [(h0, .inr (10, [v0, .ref h1, .ref h3, .ref h5, .ref h7, .ref h9, .ref h11, v1, v2])), (h2, .inl (cc0, 4960, .inl (upd (f0) 0 x0))), (h3, .inr (11, [.ref h4, .int 1])), (h4, .inl (cc1, 4960, .inl (upd (f1) 0 0))), (h5, .inr (11, [.ref h6, .int 1])), (h6, .inl (cc2, 4960, .inl (upd (f2) 0 0))), (h7, .inr (11, [.ref h8, .int 1])), (h8, .inl (cc3, 4960, .inl (upd (f3) 0 0))), (h9, .inr (11, [.ref h10, .int 1])), (h10, .inl (cc4, 4960, .inl (upd (f4) 0 1))), (h11, .inr (11, [.ref h12, .int 1])), (h12, .inl (cc5, 4960, .inl (upd (f5) 0 1))), (h1, .inr (11, [.ref h2, .int 1]))] H := hP
  have hD : va_D A [(h0, .inr (10, [v0, .ref h1, .ref h3, .ref h5, .ref h7, .ref h9, .ref h11, v1, v2])), (h2, .inl (cc0, 4960, .inl (upd (f0) 0 x0))), (h3, .inr (11, [.ref h4, .int 1])), (h4, .inl (cc1, 4960, .inl (upd (f1) 0 0))), (h5, .inr (11, [.ref h6, .int 1])), (h6, .inl (cc2, 4960, .inl (upd (f2) 0 0))), (h7, .inr (11, [.ref h8, .int 1])), (h8, .inl (cc3, 4960, .inl (upd (f3) 0 0))), (h9, .inr (11, [.ref h10, .int 1])), (h10, .inl (cc4, 4960, .inl (upd (f4) 0 1))), (h11, .inr (11, [.ref h12, .int 1])), (h12, .inl (cc5, 4960, .inl (upd (f5) 0 1))), (h1, .inr (11, [.ref h2, .int 1]))] := hD
  have hK : va_K (dC, dI) vwCl [(cc0, .int), (cc1, .int), (cc2, .int), (cc3, .int), (cc4, .int), (cc5, .int)] s := hK
  refine W.widen (k := 0) (n := 0) (Nat.le_of_ble_eq_true rfl) (Nat.le_of_ble_eq_true rfl) ?_
  refine lv_iconst (v := 1) hx hb dX3_addPlace_58 (by decide) ?_
  refine lv_isub hx hb dX3_addPlace_59 ?_
  refine lv_topi (fun y1 ey1 => ?_)
  obtain rfl : y1 = 0 := ey1.trans (by decide)
  have hP9 := hP.sub (ws' := [(h0, .inr (10, [v0, .ref h1, .ref h3, .ref h5, .ref h7, .ref h9, .ref h11, v1, v2])), (h2, .inl (cc0, 4960, .inl (upd (f0) 0 x0))), (h3, .inr (11, [.ref h4, .int 1])), (h4, .inl (cc1, 4960, .inl (upd (f1) 0 0))), (h5, .inr (11, [.ref h6, .int 1])), (h6, .inl (cc2, 4960, .inl (upd (f2) 0 0))), (h7, .inr (11, [.ref h8, .int 1])), (h8, .inl (cc3, 4960, .inl (upd (f3) 0 0))), (h9, .inr (11, [.ref h10, .int 1])), (h10, .inl (cc4, 4960, .inl (upd (f4) 0 1))), (h11, .inr (11, [.ref h12, .int 1])), (h12, .inl (cc5, 4960, .inl (upd (f5) 0 1))), (h1, .inr (11, [.ref h2, .int 1]))]) [0, 1, 2, 3, 4, 5, 6, 7, 8, 9, 10, 11, 12] rfl
  have hD9 := hD.sub (ws' := [(h0, .inr (10, [v0, .ref h1, .ref h3, .ref h5, .ref h7, .ref h9, .ref h11, v1, v2])), (h2, .inl (cc0, 4960, .inl (upd (f0) 0 x0))), (h3, .inr (11, [.ref h4, .int 1])), (h4, .inl (cc1, 4960, .inl (upd (f1) 0 0))), (h5, .inr (11, [.ref h6, .int 1])), (h6, .inl (cc2, 4960, .inl (upd (f2) 0 0))), (h7, .inr (11, [.ref h8, .int 1])), (h8, .inl (cc3, 4960, .inl (upd (f3) 0 0))), (h9, .inr (11, [.ref h10, .int 1])), (h10, .inl (cc4, 4960, .inl (upd (f4) 0 1))), (h11, .inr (11, [.ref h12, .int 1])), (h12, .inl (cc5, 4960, .inl (upd (f5) 0 1))), (h1, .inr (11, [.ref h2, .int 1]))]) [0, 1, 2, 3, 4, 5, 6, 7, 8, 9, 10, 11, 12] (by decide) rfl
  have hK9 := hK.sub (tys' := [(cc0, .int), (cc1, .int), (cc2, .int), (cc3, .int), (cc4, .int), (cc5, .int)]) [0, 1, 2, 3, 4, 5] rfl
  refine W.widen (k := 0) (n := 0) (Nat.le_of_ble_eq_true rfl) (Nat.le_of_ble_eq_true rfl) ?_
  exact W.iret (v := 0) hx hb hr (fun t ht hW => ⟨⟨_, (), rfl, rfl, by rw [ht]; exact hP9, va_K.moved hW.alike hK9, hD9⟩, hS.F ht⟩) hS.2.2 dX3_addPlace_60
set_option maxHeartbeats 4000000 in
set_option maxRecDepth 100000 in
theorem kX3_addPlace_6 (l : Launch) (dC : Nat → ClassId) (dI : Nat → Nat → Nat) (g : Nat → Nat) (sz : Nat) (h0 : Nat) (h1 : Nat) (h2 : Nat) (h3 : Nat) (h4 : Nat) (h5 : Nat) (h6 : Nat) (h7 : Nat) (h8 : Nat) (h9 : Nat) (h10 : Nat) (h11 : Nat) (h12 : Nat) (v0 : Value) (v1 : Value) (v2 : Value) (cc0 : ClassId) (f0 : Nat → Int32) (cc1 : ClassId) (f1 : Nat → Int32) (cc2 : ClassId) (f2 : Nat → Int32) (cc3 : ClassId) (f3 : Nat → Int32) (cc4 : ClassId) (f4 : Nat → Int32) (cc5 : ClassId) (f5 : Nat → Int32) : Met l yX3_addPlace wbX3_addPlace ({ frames := 1, cells := 0, slots := 0, locals := 21 }) (va_Pc [.ref h0, .int 0, .int 0, .int 6, .int 0, .int 1, .int 1] (fun U => U.heap.size = sz ∧ va_P (dC, dI) vwCl [(h0, .inr (10, [v0, .ref h1, .ref h3, .ref h5, .ref h7, .ref h9, .ref h11, v1, v2])), (h1, .inr (11, [.ref h2, .int 0])), (h2, .inl (cc0, 4960, .inl f0)), (h3, .inr (11, [.ref h4, .int 0])), (h4, .inl (cc1, 4960, .inl f1)), (h5, .inr (11, [.ref h6, .int 0])), (h6, .inl (cc2, 4960, .inl f2)), (h7, .inr (11, [.ref h8, .int 0])), (h8, .inl (cc3, 4960, .inl f3)), (h9, .inr (11, [.ref h10, .int 0])), (h10, .inl (cc4, 4960, .inl f4)), (h11, .inr (11, [.ref h12, .int 0])), (h12, .inl (cc5, 4960, .inl f5))] U.heap ∧ va_K (dC, dI) vwCl [(cc0, .int), (cc1, .int), (cc2, .int), (cc3, .int), (cc4, .int), (cc5, .int)] U ∧ va_D (fun _ => True) [(h0, .inr (10, [v0, .ref h1, .ref h3, .ref h5, .ref h7, .ref h9, .ref h11, v1, v2])), (h1, .inr (11, [.ref h2, .int 0])), (h2, .inl (cc0, 4960, .inl f0)), (h3, .inr (11, [.ref h4, .int 0])), (h4, .inl (cc1, 4960, .inl f1)), (h5, .inr (11, [.ref h6, .int 0])), (h6, .inl (cc2, 4960, .inl f2)), (h7, .inr (11, [.ref h8, .int 0])), (h8, .inl (cc3, 4960, .inl f3)), (h9, .inr (11, [.ref h10, .int 0])), (h10, .inl (cc4, 4960, .inl f4)), (h11, .inr (11, [.ref h12, .int 0])), (h12, .inl (cc5, 4960, .inl f5))] ∧ ns_F g (va_A [(h0, .inr (10, [v0, .ref h1, .ref h3, .ref h5, .ref h7, .ref h9, .ref h11, v1, v2])), (h1, .inr (11, [.ref h2, .int 0])), (h2, .inl (cc0, 4960, .inl f0)), (h3, .inr (11, [.ref h4, .int 0])), (h4, .inl (cc1, 4960, .inl f1)), (h5, .inr (11, [.ref h6, .int 0])), (h6, .inl (cc2, 4960, .inl f2)), (h7, .inr (11, [.ref h8, .int 0])), (h8, .inl (cc3, 4960, .inl f3)), (h9, .inr (11, [.ref h10, .int 0])), (h10, .inl (cc4, 4960, .inl f4)), (h11, .inr (11, [.ref h12, .int 0])), (h12, .inl (cc5, 4960, .inl f5))] sz) U U.heap)) (va_Qi (fun (r : Int32) (_ : Unit) => r = 0) (fun _ t => va_P (dC, dI) vwCl [(h0, .inr (10, [v0, .ref h1, .ref h3, .ref h5, .ref h7, .ref h9, .ref h11, v1, v2])), (h2, .inl (cc0, 4960, .inl (upd (f0) 0 0))), (h3, .inr (11, [.ref h4, .int 1])), (h4, .inl (cc1, 4960, .inl (upd (f1) 0 0))), (h5, .inr (11, [.ref h6, .int 1])), (h6, .inl (cc2, 4960, .inl (upd (f2) 0 6))), (h7, .inr (11, [.ref h8, .int 1])), (h8, .inl (cc3, 4960, .inl (upd (f3) 0 0))), (h9, .inr (11, [.ref h10, .int 1])), (h10, .inl (cc4, 4960, .inl (upd (f4) 0 1))), (h11, .inr (11, [.ref h12, .int 1])), (h12, .inl (cc5, 4960, .inl (upd (f5) 0 1))), (h1, .inr (11, [.ref h2, .int 1]))] t.heap ∧ va_K (dC, dI) vwCl [(cc0, .int), (cc1, .int), (cc2, .int), (cc3, .int), (cc4, .int), (cc5, .int)] t ∧ va_D (va_A [(h0, .inr (10, [v0, .ref h1, .ref h3, .ref h5, .ref h7, .ref h9, .ref h11, v1, v2])), (h1, .inr (11, [.ref h2, .int 0])), (h2, .inl (cc0, 4960, .inl f0)), (h3, .inr (11, [.ref h4, .int 0])), (h4, .inl (cc1, 4960, .inl f1)), (h5, .inr (11, [.ref h6, .int 0])), (h6, .inl (cc2, 4960, .inl f2)), (h7, .inr (11, [.ref h8, .int 0])), (h8, .inl (cc3, 4960, .inl f3)), (h9, .inr (11, [.ref h10, .int 0])), (h10, .inl (cc4, 4960, .inl f4)), (h11, .inr (11, [.ref h12, .int 0])), (h12, .inl (cc5, 4960, .inl f5))] sz) [(h0, .inr (10, [v0, .ref h1, .ref h3, .ref h5, .ref h7, .ref h9, .ref h11, v1, v2])), (h2, .inl (cc0, 4960, .inl (upd (f0) 0 0))), (h3, .inr (11, [.ref h4, .int 1])), (h4, .inl (cc1, 4960, .inl (upd (f1) 0 0))), (h5, .inr (11, [.ref h6, .int 1])), (h6, .inl (cc2, 4960, .inl (upd (f2) 0 6))), (h7, .inr (11, [.ref h8, .int 1])), (h8, .inl (cc3, 4960, .inl (upd (f3) 0 0))), (h9, .inr (11, [.ref h10, .int 1])), (h10, .inl (cc4, 4960, .inl (upd (f4) 0 1))), (h11, .inr (11, [.ref h12, .int 1])), (h12, .inl (cc5, 4960, .inl (upd (f5) 0 1))), (h1, .inr (11, [.ref h2, .int 1]))]) (va_A [(h0, .inr (10, [v0, .ref h1, .ref h3, .ref h5, .ref h7, .ref h9, .ref h11, v1, v2])), (h1, .inr (11, [.ref h2, .int 0])), (h2, .inl (cc0, 4960, .inl f0)), (h3, .inr (11, [.ref h4, .int 0])), (h4, .inl (cc1, 4960, .inl f1)), (h5, .inr (11, [.ref h6, .int 0])), (h6, .inl (cc2, 4960, .inl f2)), (h7, .inr (11, [.ref h8, .int 0])), (h8, .inl (cc3, 4960, .inl f3)), (h9, .inr (11, [.ref h10, .int 0])), (h10, .inl (cc4, 4960, .inl f4)), (h11, .inr (11, [.ref h12, .int 0])), (h12, .inl (cc5, 4960, .inl f5))] sz)) 0 0 (va_A [(h0, .inr (10, [v0, .ref h1, .ref h3, .ref h5, .ref h7, .ref h9, .ref h11, v1, v2])), (h1, .inr (11, [.ref h2, .int 0])), (h2, .inl (cc0, 4960, .inl f0)), (h3, .inr (11, [.ref h4, .int 0])), (h4, .inl (cc1, 4960, .inl f1)), (h5, .inr (11, [.ref h6, .int 0])), (h6, .inl (cc2, 4960, .inl f2)), (h7, .inr (11, [.ref h8, .int 0])), (h8, .inl (cc3, 4960, .inl f3)), (h9, .inr (11, [.ref h10, .int 0])), (h10, .inl (cc4, 4960, .inl f4)), (h11, .inr (11, [.ref h12, .int 0])), (h12, .inl (cc5, 4960, .inl f5))] sz) := by
  refine Met.ofW (cc := cX3_addPlace) (maxL := 7) (ret := (some .int)) (by decide) rfl ?_
  intro p e s m args below meth c s₁ B hml hv
  obtain ⟨rfl, hsz, hP, hK, hD0, hF⟩ := hv
  have hx := B.exec
  have hb := B.bytes
  have hr := B.returns
  have hts := atoms_spec (ws := wbX3_addPlace) B.pre
  have hta : ∀ w ∈ wsALL, w.before _ s = true := fun w h => hts w (List.mem_cons_of_mem _ h)
  have hown : s.vm.findClass RX3 = some m.cls := findClass_of_methodNamed B.named
  have hlocks := B.notSynchronized
  subst hsz
  have hD := hD0.self (sz := s.heap.size)
  generalize hAe : va_A [(h0, .inr (10, [v0, .ref h1, .ref h3, .ref h5, .ref h7, .ref h9, .ref h11, v1, v2])), (h1, .inr (11, [.ref h2, .int 0])), (h2, .inl (cc0, 4960, .inl f0)), (h3, .inr (11, [.ref h4, .int 0])), (h4, .inl (cc1, 4960, .inl f1)), (h5, .inr (11, [.ref h6, .int 0])), (h6, .inl (cc2, 4960, .inl f2)), (h7, .inr (11, [.ref h8, .int 0])), (h8, .inl (cc3, 4960, .inl f3)), (h9, .inr (11, [.ref h10, .int 0])), (h10, .inl (cc4, 4960, .inl f4)), (h11, .inr (11, [.ref h12, .int 0])), (h12, .inl (cc5, 4960, .inl f5))] s.heap.size = A at hD hF ⊢
  have hA : ∀ q : Nat, s.heap.size ≤ q → A q := fun q h => by rw [← hAe]; exact Or.inr h
  have hS : va_S A s.heap s.heap [] := va_S.rf
  have hP : va_P (dC, dI) vwCl [(h0, .inr (10, [v0, .ref h1, .ref h3, .ref h5, .ref h7, .ref h9, .ref h11, v1, v2])), (h1, .inr (11, [.ref h2, .int 0])), (h2, .inl (cc0, 4960, .inl f0)), (h3, .inr (11, [.ref h4, .int 0])), (h4, .inl (cc1, 4960, .inl f1)), (h5, .inr (11, [.ref h6, .int 0])), (h6, .inl (cc2, 4960, .inl f2)), (h7, .inr (11, [.ref h8, .int 0])), (h8, .inl (cc3, 4960, .inl f3)), (h9, .inr (11, [.ref h10, .int 0])), (h10, .inl (cc4, 4960, .inl f4)), (h11, .inr (11, [.ref h12, .int 0])), (h12, .inl (cc5, 4960, .inl f5))] s.heap := hP
  have hl := lv_entry ([.ref h0, .int 0, .int 0, .int 6, .int 0, .int 1, .int 1]) (n := 7) (Nat.le_of_ble_eq_true rfl)
  rw [lg_entry_eq]
  generalize (lg_sl ([.ref h0, .int 0, .int 0, .int 6, .int 0, .int 1, .int 1]) ++ List.replicate (7 - (lg_sl ([.ref h0, .int 0, .int 0, .int 6, .int 0, .int 1, .int 1])).length) Slot.unset).toArray = ls at hl ⊢
  have hl : lv_has ls 7 [(0, .ref h0), (1, .int 0), (2, .int 0), (3, .int 6), (4, .int 0), (5, .int 1), (6, .int 1)] := hl
  refine lv_aload_n hx hb dX3_addPlace_0 rfl (lv_at hl 0 rfl) ?_
  refine va_get (D := (dC, dI)) (ci := 10) (v := .ref h1) (C := RX3) (T := TX3) (N := 9) hx hb hta naX3 hown hK hP 0 rfl rfl 1 (by decide) (hta _ wm19) (fun _ h9 => h9) rfl dX3_addPlace_1 ?_
  refine lv_iload_n hx hb dX3_addPlace_4 rfl (lv_at hl 1 rfl) ?_
  have hPc := hP.sub (ws' := [(h1, .inr (11, [.ref h2, .int 0])), (h2, .inl (cc0, 4960, .inl f0))]) [1, 2] rfl
  have hDc := hD.sub (ws' := [(h1, .inr (11, [.ref h2, .int 0])), (h2, .inl (cc0, 4960, .inl f0))]) [1, 2] (by decide) rfl
  have hKc := hK.sub (tys' := [(cc0, .int)]) [0] rfl
  have hFc := va_free (wc := [(h1, .inr (11, [.ref h2, .int 0])), (h2, .inl (cc0, 4960, .inl f0))]) hD hS hA [1, 2] rfl
  refine va_callv (va_runV (As := [.int 0]) (rest := []) ⟨hx, hb, hml, hown, hts⟩ (kX4_add_2 l dC dI g s.heap.size h1 h2 cc0 f0 ) (cwV 1 hts (ns_gp (List.forall_mem_cons.mpr ⟨wm257, (List.forall_mem_cons.mpr ⟨wm258, (List.forall_mem_cons.mpr ⟨wm259, (List.forall_mem_cons.mpr ⟨wm12, (fun _ h9 => nomatch h9)⟩)⟩)⟩)⟩) wm256) rfl rfl rfl (by decide +kernel) ⟨Nat.le_of_ble_eq_true rfl, Nat.le_of_ble_eq_true rfl⟩) ⟨fun a U gg mk q => by obtain ⟨q0, q1, qP, qK, qD, qF⟩ := q; exact ⟨q0, q1, qP, va_K.moved (u := U) (U := U.calling gg mk a) (Vm.Alike.refl U.vm) qK, qD, ns_same qF⟩, va_recv hK hP (ci := 11) (q0 := 1) rfl rfl, fun U hU hW => ⟨rfl, by rw [hU], by rw [hU]; exact hPc, va_K.moved hW.alike hKc, hDc.weaken (fun _ _ _ _ => trivial), ns_call hF hS hFc hU hW⟩⟩ rfl rfl hl.1 rfl (lv_room (Nat.le_of_ble_eq_true rfl)) dX3_addPlace_5 ⟨Nat.le_of_ble_eq_true rfl, Nat.le_of_ble_eq_true rfl⟩) hS (fun q _ h => hFc q h) hFc (fun u t H1 locs ht hvm hw hB hz1 hk1 hS => ?_)
  obtain ⟨hP1, hK1, hD1⟩ := hB
  rw [ht] at hP1
  have hK1 := va_K.moved hvm.symm hK1
  obtain ⟨hP, hD⟩ := va_join (wr := [(h0, .inr (10, [v0, .ref h1, .ref h3, .ref h5, .ref h7, .ref h9, .ref h11, v1, v2])), (h3, .inr (11, [.ref h4, .int 0])), (h4, .inl (cc1, 4960, .inl f1)), (h5, .inr (11, [.ref h6, .int 0])), (h6, .inl (cc2, 4960, .inl f2)), (h7, .inr (11, [.ref h8, .int 0])), (h8, .inl (cc3, 4960, .inl f3)), (h9, .inr (11, [.ref h10, .int 0])), (h10, .inl (cc4, 4960, .inl f4)), (h11, .inr (11, [.ref h12, .int 0])), (h12, .inl (cc5, 4960, .inl f5))]) (w1 := [(h1, .inr (11, [.ref h2, .int 1])), (h2, .inl (cc0, 4960, .inl (upd (f0) 0 0)))]) hP hD [1, 2] [0, 3, 4, 5, 6, 7, 8, 9, 10, 11, 12] rfl rfl (by decide) (by decide) hk1 hFc hP1 hD1
  have hK := (hK.sub (tys' := [(cc1, .int), (cc2, .int), (cc3, .int), (cc4, .int), (cc5, .int)]) [1, 2, 3, 4, 5] rfl).app hK1
  generalize H1 = H at hP hS ⊢
  have hP : va_P (dC, dI) vwCl [(h0, .inr (10, [v0, .ref h1, .ref h3, .ref h5, .ref h7, .ref h9, .ref h11, v1, v2])), (h3, .inr (11, [.ref h4, .int 0])), (h4, .inl (cc1, 4960, .inl f1)), (h5, .inr (11, [.ref h6, .int 0])), (h6, .inl (cc2, 4960, .inl f2)), (h7, .inr (11, [.ref h8, .int 0])), (h8, .inl (cc3, 4960, .inl f3)), (h9, .inr (11, [.ref h10, .int 0])), (h10, .inl (cc4, 4960, .inl f4)), (h11, .inr (11, [.ref h12, .int 0])), (h12, .inl (cc5, 4960, .inl f5)), (h1, .inr (11, [.ref h2, .int 1])), (h2, .inl (cc0, 4960, .inl (upd (f0) 0 0)))] H := hP
  have hD : va_D A [(h0, .inr (10, [v0, .ref h1, .ref h3, .ref h5, .ref h7, .ref h9, .ref h11, v1, v2])), (h3, .inr (11, [.ref h4, .int 0])), (h4, .inl (cc1, 4960, .inl f1)), (h5, .inr (11, [.ref h6, .int 0])), (h6, .inl (cc2, 4960, .inl f2)), (h7, .inr (11, [.ref h8, .int 0])), (h8, .inl (cc3, 4960, .inl f3)), (h9, .inr (11, [.ref h10, .int 0])), (h10, .inl (cc4, 4960, .inl f4)), (h11, .inr (11, [.ref h12, .int 0])), (h12, .inl (cc5, 4960, .inl f5)), (h1, .inr (11, [.ref h2, .int 1])), (h2, .inl (cc0, 4960, .inl (upd (f0) 0 0)))] := hD
  have hK : va_K (dC, dI) vwCl [(cc1, .int), (cc2, .int), (cc3, .int), (cc4, .int), (cc5, .int), (cc0, .int)] s := hK
  refine W.widen (k := 0) (n := 0) (Nat.le_of_ble_eq_true rfl) (Nat.le_of_ble_eq_true rfl) ?_
  refine lv_aload_n hx hb dX3_addPlace_8 rfl (lv_at hl 0 rfl) ?_
  refine va_get (D := (dC, dI)) (ci := 10) (v := .ref h3) (C := RX3) (T := TX3) (N := 9) hx hb hta naX3 hown hK hP 0 rfl rfl 2 (by decide) (hta _ wm20) (fun _ h9 => h9) rfl dX3_addPlace_9 ?_
  refine lv_iload_n hx hb dX3_addPlace_12 rfl (lv_at hl 2 rfl) ?_
  have hPc := hP.sub (ws' := [(h3, .inr (11, [.ref h4, .int 0])), (h4, .inl (cc1, 4960, .inl f1))]) [1, 2] rfl
  have hDc := hD.sub (ws' := [(h3, .inr (11, [.ref h4, .int 0])), (h4, .inl (cc1, 4960, .inl f1))]) [1, 2] (by decide) rfl
  have hKc := hK.sub (tys' := [(cc1, .int)]) [0] rfl
  have hFc := va_free (wc := [(h3, .inr (11, [.ref h4, .int 0])), (h4, .inl (cc1, 4960, .inl f1))]) hD hS hA [1, 2] rfl
  refine va_callv (va_runV (As := [.int 0]) (rest := []) ⟨hx, hb, hml, hown, hts⟩ (kX4_add_2 l dC dI g H.size h3 h4 cc1 f1 ) (cwV 1 hts (ns_gp (List.forall_mem_cons.mpr ⟨wm257, (List.forall_mem_cons.mpr ⟨wm258, (List.forall_mem_cons.mpr ⟨wm259, (List.forall_mem_cons.mpr ⟨wm12, (fun _ h9 => nomatch h9)⟩)⟩)⟩)⟩) wm256) rfl rfl rfl (by decide +kernel) ⟨Nat.le_of_ble_eq_true rfl, Nat.le_of_ble_eq_true rfl⟩) ⟨fun a U gg mk q => by obtain ⟨q0, q1, qP, qK, qD, qF⟩ := q; exact ⟨q0, q1, qP, va_K.moved (u := U) (U := U.calling gg mk a) (Vm.Alike.refl U.vm) qK, qD, ns_same qF⟩, va_recv hK hP (ci := 11) (q0 := 1) rfl rfl, fun U hU hW => ⟨rfl, by rw [hU], by rw [hU]; exact hPc, va_K.moved hW.alike hKc, hDc.weaken (fun _ _ _ _ => trivial), ns_call hF hS hFc hU hW⟩⟩ rfl rfl hl.1 rfl (lv_room (Nat.le_of_ble_eq_true rfl)) dX3_addPlace_13 ⟨Nat.le_of_ble_eq_true rfl, Nat.le_of_ble_eq_true rfl⟩) hS (fun q _ h => hFc q h) hFc (fun u t H1 locs ht hvm hw hB hz1 hk1 hS => ?_)
  obtain ⟨hP1, hK1, hD1⟩ := hB
  rw [ht] at hP1
  have hK1 := va_K.moved hvm.symm hK1
  obtain ⟨hP, hD⟩ := va_join (wr := [(h0, .inr (10, [v0, .ref h1, .ref h3, .ref h5, .ref h7, .ref h9, .ref h11, v1, v2])), (h5, .inr (11, [.ref h6, .int 0])), (h6, .inl (cc2, 4960, .inl f2)), (h7, .inr (11, [.ref h8, .int 0])), (h8, .inl (cc3, 4960, .inl f3)), (h9, .inr (11, [.ref h10, .int 0])), (h10, .inl (cc4, 4960, .inl f4)), (h11, .inr (11, [.ref h12, .int 0])), (h12, .inl (cc5, 4960, .inl f5)), (h1, .inr (11, [.ref h2, .int 1])), (h2, .inl (cc0, 4960, .inl (upd (f0) 0 0)))]) (w1 := [(h3, .inr (11, [.ref h4, .int 1])), (h4, .inl (cc1, 4960, .inl (upd (f1) 0 0)))]) hP hD [1, 2] [0, 3, 4, 5, 6, 7, 8, 9, 10, 11, 12] rfl rfl (by decide) (by decide) hk1 hFc hP1 hD1
  have hK := (hK.sub (tys' := [(cc2, .int), (cc3, .int), (cc4, .int), (cc5, .int), (cc0, .int)]) [1, 2, 3, 4, 5] rfl).app hK1
  generalize H1 = H at hP hS ⊢
  have hP : va_P (dC, dI) vwCl [(h0, .inr (10, [v0, .ref h1, .ref h3, .ref h5, .ref h7, .ref h9, .ref h11, v1, v2])), (h5, .inr (11, [.ref h6, .int 0])), (h6, .inl (cc2, 4960, .inl f2)), (h7, .inr (11, [.ref h8, .int 0])), (h8, .inl (cc3, 4960, .inl f3)), (h9, .inr (11, [.ref h10, .int 0])), (h10, .inl (cc4, 4960, .inl f4)), (h11, .inr (11, [.ref h12, .int 0])), (h12, .inl (cc5, 4960, .inl f5)), (h1, .inr (11, [.ref h2, .int 1])), (h2, .inl (cc0, 4960, .inl (upd (f0) 0 0))), (h3, .inr (11, [.ref h4, .int 1])), (h4, .inl (cc1, 4960, .inl (upd (f1) 0 0)))] H := hP
  have hD : va_D A [(h0, .inr (10, [v0, .ref h1, .ref h3, .ref h5, .ref h7, .ref h9, .ref h11, v1, v2])), (h5, .inr (11, [.ref h6, .int 0])), (h6, .inl (cc2, 4960, .inl f2)), (h7, .inr (11, [.ref h8, .int 0])), (h8, .inl (cc3, 4960, .inl f3)), (h9, .inr (11, [.ref h10, .int 0])), (h10, .inl (cc4, 4960, .inl f4)), (h11, .inr (11, [.ref h12, .int 0])), (h12, .inl (cc5, 4960, .inl f5)), (h1, .inr (11, [.ref h2, .int 1])), (h2, .inl (cc0, 4960, .inl (upd (f0) 0 0))), (h3, .inr (11, [.ref h4, .int 1])), (h4, .inl (cc1, 4960, .inl (upd (f1) 0 0)))] := hD
  have hK : va_K (dC, dI) vwCl [(cc2, .int), (cc3, .int), (cc4, .int), (cc5, .int), (cc0, .int), (cc1, .int)] s := hK
  refine W.widen (k := 0) (n := 0) (Nat.le_of_ble_eq_true rfl) (Nat.le_of_ble_eq_true rfl) ?_
  refine lv_aload_n hx hb dX3_addPlace_16 rfl (lv_at hl 0 rfl) ?_
  refine va_get (D := (dC, dI)) (ci := 10) (v := .ref h5) (C := RX3) (T := TX3) (N := 9) hx hb hta naX3 hown hK hP 0 rfl rfl 3 (by decide) (hta _ wm21) (fun _ h9 => h9) rfl dX3_addPlace_17 ?_
  refine lv_iload_n hx hb dX3_addPlace_20 rfl (lv_at hl 3 rfl) ?_
  have hPc := hP.sub (ws' := [(h5, .inr (11, [.ref h6, .int 0])), (h6, .inl (cc2, 4960, .inl f2))]) [1, 2] rfl
  have hDc := hD.sub (ws' := [(h5, .inr (11, [.ref h6, .int 0])), (h6, .inl (cc2, 4960, .inl f2))]) [1, 2] (by decide) rfl
  have hKc := hK.sub (tys' := [(cc2, .int)]) [0] rfl
  have hFc := va_free (wc := [(h5, .inr (11, [.ref h6, .int 0])), (h6, .inl (cc2, 4960, .inl f2))]) hD hS hA [1, 2] rfl
  refine va_callv (va_runV (As := [.int 6]) (rest := []) ⟨hx, hb, hml, hown, hts⟩ (kX4_add_14 l dC dI g H.size h5 h6 cc2 f2 ) (cwV 1 hts (ns_gp (List.forall_mem_cons.mpr ⟨wm257, (List.forall_mem_cons.mpr ⟨wm258, (List.forall_mem_cons.mpr ⟨wm259, (List.forall_mem_cons.mpr ⟨wm12, (fun _ h9 => nomatch h9)⟩)⟩)⟩)⟩) wm256) rfl rfl rfl (by decide +kernel) ⟨Nat.le_of_ble_eq_true rfl, Nat.le_of_ble_eq_true rfl⟩) ⟨fun a U gg mk q => by obtain ⟨q0, q1, qP, qK, qD, qF⟩ := q; exact ⟨q0, q1, qP, va_K.moved (u := U) (U := U.calling gg mk a) (Vm.Alike.refl U.vm) qK, qD, ns_same qF⟩, va_recv hK hP (ci := 11) (q0 := 1) rfl rfl, fun U hU hW => ⟨rfl, by rw [hU], by rw [hU]; exact hPc, va_K.moved hW.alike hKc, hDc.weaken (fun _ _ _ _ => trivial), ns_call hF hS hFc hU hW⟩⟩ rfl rfl hl.1 rfl (lv_room (Nat.le_of_ble_eq_true rfl)) dX3_addPlace_21 ⟨Nat.le_of_ble_eq_true rfl, Nat.le_of_ble_eq_true rfl⟩) hS (fun q _ h => hFc q h) hFc (fun u t H1 locs ht hvm hw hB hz1 hk1 hS => ?_)
  obtain ⟨hP1, hK1, hD1⟩ := hB
  rw [ht] at hP1
  have hK1 := va_K.moved hvm.symm hK1
  obtain ⟨hP, hD⟩ := va_join (wr := [(h0, .inr (10, [v0, .ref h1, .ref h3, .ref h5, .ref h7, .ref h9, .ref h11, v1, v2])), (h7, .inr (11, [.ref h8, .int 0])), (h8, .inl (cc3, 4960, .inl f3)), (h9, .inr (11, [.ref h10, .int 0])), (h10, .inl (cc4, 4960, .inl f4)), (h11, .inr (11, [.ref h12, .int 0])), (h12, .inl (cc5, 4960, .inl f5)), (h1, .inr (11, [.ref h2, .int 1])), (h2, .inl (cc0, 4960, .inl (upd (f0) 0 0))), (h3, .inr (11, [.ref h4, .int 1])), (h4, .inl (cc1, 4960, .inl (upd (f1) 0 0)))]) (w1 := [(h5, .inr (11, [.ref h6, .int 1])), (h6, .inl (cc2, 4960, .inl (upd (f2) 0 6)))]) hP hD [1, 2] [0, 3, 4, 5, 6, 7, 8, 9, 10, 11, 12] rfl rfl (by decide) (by decide) hk1 hFc hP1 hD1
  have hK := (hK.sub (tys' := [(cc3, .int), (cc4, .int), (cc5, .int), (cc0, .int), (cc1, .int)]) [1, 2, 3, 4, 5] rfl).app hK1
  generalize H1 = H at hP hS ⊢
  have hP : va_P (dC, dI) vwCl [(h0, .inr (10, [v0, .ref h1, .ref h3, .ref h5, .ref h7, .ref h9, .ref h11, v1, v2])), (h7, .inr (11, [.ref h8, .int 0])), (h8, .inl (cc3, 4960, .inl f3)), (h9, .inr (11, [.ref h10, .int 0])), (h10, .inl (cc4, 4960, .inl f4)), (h11, .inr (11, [.ref h12, .int 0])), (h12, .inl (cc5, 4960, .inl f5)), (h1, .inr (11, [.ref h2, .int 1])), (h2, .inl (cc0, 4960, .inl (upd (f0) 0 0))), (h3, .inr (11, [.ref h4, .int 1])), (h4, .inl (cc1, 4960, .inl (upd (f1) 0 0))), (h5, .inr (11, [.ref h6, .int 1])), (h6, .inl (cc2, 4960, .inl (upd (f2) 0 6)))] H := hP
  have hD : va_D A [(h0, .inr (10, [v0, .ref h1, .ref h3, .ref h5, .ref h7, .ref h9, .ref h11, v1, v2])), (h7, .inr (11, [.ref h8, .int 0])), (h8, .inl (cc3, 4960, .inl f3)), (h9, .inr (11, [.ref h10, .int 0])), (h10, .inl (cc4, 4960, .inl f4)), (h11, .inr (11, [.ref h12, .int 0])), (h12, .inl (cc5, 4960, .inl f5)), (h1, .inr (11, [.ref h2, .int 1])), (h2, .inl (cc0, 4960, .inl (upd (f0) 0 0))), (h3, .inr (11, [.ref h4, .int 1])), (h4, .inl (cc1, 4960, .inl (upd (f1) 0 0))), (h5, .inr (11, [.ref h6, .int 1])), (h6, .inl (cc2, 4960, .inl (upd (f2) 0 6)))] := hD
  have hK : va_K (dC, dI) vwCl [(cc3, .int), (cc4, .int), (cc5, .int), (cc0, .int), (cc1, .int), (cc2, .int)] s := hK
  refine W.widen (k := 0) (n := 0) (Nat.le_of_ble_eq_true rfl) (Nat.le_of_ble_eq_true rfl) ?_
  refine lv_aload_n hx hb dX3_addPlace_24 rfl (lv_at hl 0 rfl) ?_
  refine va_get (D := (dC, dI)) (ci := 10) (v := .ref h7) (C := RX3) (T := TX3) (N := 9) hx hb hta naX3 hown hK hP 0 rfl rfl 4 (by decide) (hta _ wm22) (fun _ h9 => h9) rfl dX3_addPlace_25 ?_
  refine lv_iload hx hb dX3_addPlace_28 (lv_at hl 4 rfl) ?_
  have hPc := hP.sub (ws' := [(h7, .inr (11, [.ref h8, .int 0])), (h8, .inl (cc3, 4960, .inl f3))]) [1, 2] rfl
  have hDc := hD.sub (ws' := [(h7, .inr (11, [.ref h8, .int 0])), (h8, .inl (cc3, 4960, .inl f3))]) [1, 2] (by decide) rfl
  have hKc := hK.sub (tys' := [(cc3, .int)]) [0] rfl
  have hFc := va_free (wc := [(h7, .inr (11, [.ref h8, .int 0])), (h8, .inl (cc3, 4960, .inl f3))]) hD hS hA [1, 2] rfl
  refine va_callv (va_runV (As := [.int 0]) (rest := []) ⟨hx, hb, hml, hown, hts⟩ (kX4_add_2 l dC dI g H.size h7 h8 cc3 f3 ) (cwV 1 hts (ns_gp (List.forall_mem_cons.mpr ⟨wm257, (List.forall_mem_cons.mpr ⟨wm258, (List.forall_mem_cons.mpr ⟨wm259, (List.forall_mem_cons.mpr ⟨wm12, (fun _ h9 => nomatch h9)⟩)⟩)⟩)⟩) wm256) rfl rfl rfl (by decide +kernel) ⟨Nat.le_of_ble_eq_true rfl, Nat.le_of_ble_eq_true rfl⟩) ⟨fun a U gg mk q => by obtain ⟨q0, q1, qP, qK, qD, qF⟩ := q; exact ⟨q0, q1, qP, va_K.moved (u := U) (U := U.calling gg mk a) (Vm.Alike.refl U.vm) qK, qD, ns_same qF⟩, va_recv hK hP (ci := 11) (q0 := 1) rfl rfl, fun U hU hW => ⟨rfl, by rw [hU], by rw [hU]; exact hPc, va_K.moved hW.alike hKc, hDc.weaken (fun _ _ _ _ => trivial), ns_call hF hS hFc hU hW⟩⟩ rfl rfl hl.1 rfl (lv_room (Nat.le_of_ble_eq_true rfl)) dX3_addPlace_30 ⟨Nat.le_of_ble_eq_true rfl, Nat.le_of_ble_eq_true rfl⟩) hS (fun q _ h => hFc q h) hFc (fun u t H1 locs ht hvm hw hB hz1 hk1 hS => ?_)
  obtain ⟨hP1, hK1, hD1⟩ := hB
  rw [ht] at hP1
  have hK1 := va_K.moved hvm.symm hK1
  obtain ⟨hP, hD⟩ := va_join (wr := [(h0, .inr (10, [v0, .ref h1, .ref h3, .ref h5, .ref h7, .ref h9, .ref h11, v1, v2])), (h9, .inr (11, [.ref h10, .int 0])), (h10, .inl (cc4, 4960, .inl f4)), (h11, .inr (11, [.ref h12, .int 0])), (h12, .inl (cc5, 4960, .inl f5)), (h1, .inr (11, [.ref h2, .int 1])), (h2, .inl (cc0, 4960, .inl (upd (f0) 0 0))), (h3, .inr (11, [.ref h4, .int 1])), (h4, .inl (cc1, 4960, .inl (upd (f1) 0 0))), (h5, .inr (11, [.ref h6, .int 1])), (h6, .inl (cc2, 4960, .inl (upd (f2) 0 6)))]) (w1 := [(h7, .inr (11, [.ref h8, .int 1])), (h8, .inl (cc3, 4960, .inl (upd (f3) 0 0)))]) hP hD [1, 2] [0, 3, 4, 5, 6, 7, 8, 9, 10, 11, 12] rfl rfl (by decide) (by decide) hk1 hFc hP1 hD1
  have hK := (hK.sub (tys' := [(cc4, .int), (cc5, .int), (cc0, .int), (cc1, .int), (cc2, .int)]) [1, 2, 3, 4, 5] rfl).app hK1
  generalize H1 = H at hP hS ⊢
  have hP : va_P (dC, dI) vwCl [(h0, .inr (10, [v0, .ref h1, .ref h3, .ref h5, .ref h7, .ref h9, .ref h11, v1, v2])), (h9, .inr (11, [.ref h10, .int 0])), (h10, .inl (cc4, 4960, .inl f4)), (h11, .inr (11, [.ref h12, .int 0])), (h12, .inl (cc5, 4960, .inl f5)), (h1, .inr (11, [.ref h2, .int 1])), (h2, .inl (cc0, 4960, .inl (upd (f0) 0 0))), (h3, .inr (11, [.ref h4, .int 1])), (h4, .inl (cc1, 4960, .inl (upd (f1) 0 0))), (h5, .inr (11, [.ref h6, .int 1])), (h6, .inl (cc2, 4960, .inl (upd (f2) 0 6))), (h7, .inr (11, [.ref h8, .int 1])), (h8, .inl (cc3, 4960, .inl (upd (f3) 0 0)))] H := hP
  have hD : va_D A [(h0, .inr (10, [v0, .ref h1, .ref h3, .ref h5, .ref h7, .ref h9, .ref h11, v1, v2])), (h9, .inr (11, [.ref h10, .int 0])), (h10, .inl (cc4, 4960, .inl f4)), (h11, .inr (11, [.ref h12, .int 0])), (h12, .inl (cc5, 4960, .inl f5)), (h1, .inr (11, [.ref h2, .int 1])), (h2, .inl (cc0, 4960, .inl (upd (f0) 0 0))), (h3, .inr (11, [.ref h4, .int 1])), (h4, .inl (cc1, 4960, .inl (upd (f1) 0 0))), (h5, .inr (11, [.ref h6, .int 1])), (h6, .inl (cc2, 4960, .inl (upd (f2) 0 6))), (h7, .inr (11, [.ref h8, .int 1])), (h8, .inl (cc3, 4960, .inl (upd (f3) 0 0)))] := hD
  have hK : va_K (dC, dI) vwCl [(cc4, .int), (cc5, .int), (cc0, .int), (cc1, .int), (cc2, .int), (cc3, .int)] s := hK
  refine W.widen (k := 0) (n := 0) (Nat.le_of_ble_eq_true rfl) (Nat.le_of_ble_eq_true rfl) ?_
  refine lv_aload_n hx hb dX3_addPlace_33 rfl (lv_at hl 0 rfl) ?_
  refine va_get (D := (dC, dI)) (ci := 10) (v := .ref h9) (C := RX3) (T := TX3) (N := 9) hx hb hta naX3 hown hK hP 0 rfl rfl 5 (by decide) (hta _ wm23) (fun _ h9 => h9) rfl dX3_addPlace_34 ?_
  refine lv_iload hx hb dX3_addPlace_37 (lv_at hl 5 rfl) ?_
  have hPc := hP.sub (ws' := [(h9, .inr (11, [.ref h10, .int 0])), (h10, .inl (cc4, 4960, .inl f4))]) [1, 2] rfl
  have hDc := hD.sub (ws' := [(h9, .inr (11, [.ref h10, .int 0])), (h10, .inl (cc4, 4960, .inl f4))]) [1, 2] (by decide) rfl
  have hKc := hK.sub (tys' := [(cc4, .int)]) [0] rfl
  have hFc := va_free (wc := [(h9, .inr (11, [.ref h10, .int 0])), (h10, .inl (cc4, 4960, .inl f4))]) hD hS hA [1, 2] rfl
  refine va_callv (va_runV (As := [.int 1]) (rest := []) ⟨hx, hb, hml, hown, hts⟩ (kX4_add_3 l dC dI g H.size h9 h10 cc4 f4 ) (cwV 1 hts (ns_gp (List.forall_mem_cons.mpr ⟨wm257, (List.forall_mem_cons.mpr ⟨wm258, (List.forall_mem_cons.mpr ⟨wm259, (List.forall_mem_cons.mpr ⟨wm12, (fun _ h9 => nomatch h9)⟩)⟩)⟩)⟩) wm256) rfl rfl rfl (by decide +kernel) ⟨Nat.le_of_ble_eq_true rfl, Nat.le_of_ble_eq_true rfl⟩) ⟨fun a U gg mk q => by obtain ⟨q0, q1, qP, qK, qD, qF⟩ := q; exact ⟨q0, q1, qP, va_K.moved (u := U) (U := U.calling gg mk a) (Vm.Alike.refl U.vm) qK, qD, ns_same qF⟩, va_recv hK hP (ci := 11) (q0 := 1) rfl rfl, fun U hU hW => ⟨rfl, by rw [hU], by rw [hU]; exact hPc, va_K.moved hW.alike hKc, hDc.weaken (fun _ _ _ _ => trivial), ns_call hF hS hFc hU hW⟩⟩ rfl rfl hl.1 rfl (lv_room (Nat.le_of_ble_eq_true rfl)) dX3_addPlace_39 ⟨Nat.le_of_ble_eq_true rfl, Nat.le_of_ble_eq_true rfl⟩) hS (fun q _ h => hFc q h) hFc (fun u t H1 locs ht hvm hw hB hz1 hk1 hS => ?_)
  obtain ⟨hP1, hK1, hD1⟩ := hB
  rw [ht] at hP1
  have hK1 := va_K.moved hvm.symm hK1
  obtain ⟨hP, hD⟩ := va_join (wr := [(h0, .inr (10, [v0, .ref h1, .ref h3, .ref h5, .ref h7, .ref h9, .ref h11, v1, v2])), (h11, .inr (11, [.ref h12, .int 0])), (h12, .inl (cc5, 4960, .inl f5)), (h1, .inr (11, [.ref h2, .int 1])), (h2, .inl (cc0, 4960, .inl (upd (f0) 0 0))), (h3, .inr (11, [.ref h4, .int 1])), (h4, .inl (cc1, 4960, .inl (upd (f1) 0 0))), (h5, .inr (11, [.ref h6, .int 1])), (h6, .inl (cc2, 4960, .inl (upd (f2) 0 6))), (h7, .inr (11, [.ref h8, .int 1])), (h8, .inl (cc3, 4960, .inl (upd (f3) 0 0)))]) (w1 := [(h9, .inr (11, [.ref h10, .int 1])), (h10, .inl (cc4, 4960, .inl (upd (f4) 0 1)))]) hP hD [1, 2] [0, 3, 4, 5, 6, 7, 8, 9, 10, 11, 12] rfl rfl (by decide) (by decide) hk1 hFc hP1 hD1
  have hK := (hK.sub (tys' := [(cc5, .int), (cc0, .int), (cc1, .int), (cc2, .int), (cc3, .int)]) [1, 2, 3, 4, 5] rfl).app hK1
  generalize H1 = H at hP hS ⊢
  have hP : va_P (dC, dI) vwCl [(h0, .inr (10, [v0, .ref h1, .ref h3, .ref h5, .ref h7, .ref h9, .ref h11, v1, v2])), (h11, .inr (11, [.ref h12, .int 0])), (h12, .inl (cc5, 4960, .inl f5)), (h1, .inr (11, [.ref h2, .int 1])), (h2, .inl (cc0, 4960, .inl (upd (f0) 0 0))), (h3, .inr (11, [.ref h4, .int 1])), (h4, .inl (cc1, 4960, .inl (upd (f1) 0 0))), (h5, .inr (11, [.ref h6, .int 1])), (h6, .inl (cc2, 4960, .inl (upd (f2) 0 6))), (h7, .inr (11, [.ref h8, .int 1])), (h8, .inl (cc3, 4960, .inl (upd (f3) 0 0))), (h9, .inr (11, [.ref h10, .int 1])), (h10, .inl (cc4, 4960, .inl (upd (f4) 0 1)))] H := hP
  have hD : va_D A [(h0, .inr (10, [v0, .ref h1, .ref h3, .ref h5, .ref h7, .ref h9, .ref h11, v1, v2])), (h11, .inr (11, [.ref h12, .int 0])), (h12, .inl (cc5, 4960, .inl f5)), (h1, .inr (11, [.ref h2, .int 1])), (h2, .inl (cc0, 4960, .inl (upd (f0) 0 0))), (h3, .inr (11, [.ref h4, .int 1])), (h4, .inl (cc1, 4960, .inl (upd (f1) 0 0))), (h5, .inr (11, [.ref h6, .int 1])), (h6, .inl (cc2, 4960, .inl (upd (f2) 0 6))), (h7, .inr (11, [.ref h8, .int 1])), (h8, .inl (cc3, 4960, .inl (upd (f3) 0 0))), (h9, .inr (11, [.ref h10, .int 1])), (h10, .inl (cc4, 4960, .inl (upd (f4) 0 1)))] := hD
  have hK : va_K (dC, dI) vwCl [(cc5, .int), (cc0, .int), (cc1, .int), (cc2, .int), (cc3, .int), (cc4, .int)] s := hK
  refine W.widen (k := 0) (n := 0) (Nat.le_of_ble_eq_true rfl) (Nat.le_of_ble_eq_true rfl) ?_
  refine lv_aload_n hx hb dX3_addPlace_42 rfl (lv_at hl 0 rfl) ?_
  refine va_get (D := (dC, dI)) (ci := 10) (v := .ref h11) (C := RX3) (T := TX3) (N := 9) hx hb hta naX3 hown hK hP 0 rfl rfl 6 (by decide) (hta _ wm24) (fun _ h9 => h9) rfl dX3_addPlace_43 ?_
  refine lv_iload hx hb dX3_addPlace_46 (lv_at hl 6 rfl) ?_
  have hPc := hP.sub (ws' := [(h11, .inr (11, [.ref h12, .int 0])), (h12, .inl (cc5, 4960, .inl f5))]) [1, 2] rfl
  have hDc := hD.sub (ws' := [(h11, .inr (11, [.ref h12, .int 0])), (h12, .inl (cc5, 4960, .inl f5))]) [1, 2] (by decide) rfl
  have hKc := hK.sub (tys' := [(cc5, .int)]) [0] rfl
  have hFc := va_free (wc := [(h11, .inr (11, [.ref h12, .int 0])), (h12, .inl (cc5, 4960, .inl f5))]) hD hS hA [1, 2] rfl
  refine va_callv (va_runV (As := [.int 1]) (rest := []) ⟨hx, hb, hml, hown, hts⟩ (kX4_add_3 l dC dI g H.size h11 h12 cc5 f5 ) (cwV 1 hts (ns_gp (List.forall_mem_cons.mpr ⟨wm257, (List.forall_mem_cons.mpr ⟨wm258, (List.forall_mem_cons.mpr ⟨wm259, (List.forall_mem_cons.mpr ⟨wm12, (fun _ h9 => nomatch h9)⟩)⟩)⟩)⟩) wm256) rfl rfl rfl (by decide +kernel) ⟨Nat.le_of_ble_eq_true rfl, Nat.le_of_ble_eq_true rfl⟩) ⟨fun a U gg mk q => by obtain ⟨q0, q1, qP, qK, qD, qF⟩ := q; exact ⟨q0, q1, qP, va_K.moved (u := U) (U := U.calling gg mk a) (Vm.Alike.refl U.vm) qK, qD, ns_same qF⟩, va_recv hK hP (ci := 11) (q0 := 1) rfl rfl, fun U hU hW => ⟨rfl, by rw [hU], by rw [hU]; exact hPc, va_K.moved hW.alike hKc, hDc.weaken (fun _ _ _ _ => trivial), ns_call hF hS hFc hU hW⟩⟩ rfl rfl hl.1 rfl (lv_room (Nat.le_of_ble_eq_true rfl)) dX3_addPlace_48 ⟨Nat.le_of_ble_eq_true rfl, Nat.le_of_ble_eq_true rfl⟩) hS (fun q _ h => hFc q h) hFc (fun u t H1 locs ht hvm hw hB hz1 hk1 hS => ?_)
  obtain ⟨hP1, hK1, hD1⟩ := hB
  rw [ht] at hP1
  have hK1 := va_K.moved hvm.symm hK1
  obtain ⟨hP, hD⟩ := va_join (wr := [(h0, .inr (10, [v0, .ref h1, .ref h3, .ref h5, .ref h7, .ref h9, .ref h11, v1, v2])), (h1, .inr (11, [.ref h2, .int 1])), (h2, .inl (cc0, 4960, .inl (upd (f0) 0 0))), (h3, .inr (11, [.ref h4, .int 1])), (h4, .inl (cc1, 4960, .inl (upd (f1) 0 0))), (h5, .inr (11, [.ref h6, .int 1])), (h6, .inl (cc2, 4960, .inl (upd (f2) 0 6))), (h7, .inr (11, [.ref h8, .int 1])), (h8, .inl (cc3, 4960, .inl (upd (f3) 0 0))), (h9, .inr (11, [.ref h10, .int 1])), (h10, .inl (cc4, 4960, .inl (upd (f4) 0 1)))]) (w1 := [(h11, .inr (11, [.ref h12, .int 1])), (h12, .inl (cc5, 4960, .inl (upd (f5) 0 1)))]) hP hD [1, 2] [0, 3, 4, 5, 6, 7, 8, 9, 10, 11, 12] rfl rfl (by decide) (by decide) hk1 hFc hP1 hD1
  have hK := (hK.sub (tys' := [(cc0, .int), (cc1, .int), (cc2, .int), (cc3, .int), (cc4, .int)]) [1, 2, 3, 4, 5] rfl).app hK1
  generalize H1 = H at hP hS ⊢
  have hP : va_P (dC, dI) vwCl [(h0, .inr (10, [v0, .ref h1, .ref h3, .ref h5, .ref h7, .ref h9, .ref h11, v1, v2])), (h1, .inr (11, [.ref h2, .int 1])), (h2, .inl (cc0, 4960, .inl (upd (f0) 0 0))), (h3, .inr (11, [.ref h4, .int 1])), (h4, .inl (cc1, 4960, .inl (upd (f1) 0 0))), (h5, .inr (11, [.ref h6, .int 1])), (h6, .inl (cc2, 4960, .inl (upd (f2) 0 6))), (h7, .inr (11, [.ref h8, .int 1])), (h8, .inl (cc3, 4960, .inl (upd (f3) 0 0))), (h9, .inr (11, [.ref h10, .int 1])), (h10, .inl (cc4, 4960, .inl (upd (f4) 0 1))), (h11, .inr (11, [.ref h12, .int 1])), (h12, .inl (cc5, 4960, .inl (upd (f5) 0 1)))] H := hP
  have hD : va_D A [(h0, .inr (10, [v0, .ref h1, .ref h3, .ref h5, .ref h7, .ref h9, .ref h11, v1, v2])), (h1, .inr (11, [.ref h2, .int 1])), (h2, .inl (cc0, 4960, .inl (upd (f0) 0 0))), (h3, .inr (11, [.ref h4, .int 1])), (h4, .inl (cc1, 4960, .inl (upd (f1) 0 0))), (h5, .inr (11, [.ref h6, .int 1])), (h6, .inl (cc2, 4960, .inl (upd (f2) 0 6))), (h7, .inr (11, [.ref h8, .int 1])), (h8, .inl (cc3, 4960, .inl (upd (f3) 0 0))), (h9, .inr (11, [.ref h10, .int 1])), (h10, .inl (cc4, 4960, .inl (upd (f4) 0 1))), (h11, .inr (11, [.ref h12, .int 1])), (h12, .inl (cc5, 4960, .inl (upd (f5) 0 1)))] := hD
  have hK : va_K (dC, dI) vwCl [(cc0, .int), (cc1, .int), (cc2, .int), (cc3, .int), (cc4, .int), (cc5, .int)] s := hK
  refine W.widen (k := 0) (n := 0) (Nat.le_of_ble_eq_true rfl) (Nat.le_of_ble_eq_true rfl) ?_
  refine lv_aload_n hx hb dX3_addPlace_51 rfl (lv_at hl 0 rfl) ?_
  refine va_get (D := (dC, dI)) (ci := 10) (v := .ref h1) (C := RX3) (T := TX3) (N := 9) hx hb hta naX3 hown hK hP 0 rfl rfl 1 (by decide) (hta _ wm19) (fun _ h9 => h9) rfl dX3_addPlace_52 ?_
  have hPc := hP.sub (ws' := [(h1, .inr (11, [.ref h2, .int 1]))]) [1] rfl
  have hDc := hD.sub (ws' := [(h1, .inr (11, [.ref h2, .int 1]))]) [1] (by decide) rfl
  have hKc := hK.sub (tys' := []) [] rfl
  have hFc := va_free (wc := [(h1, .inr (11, [.ref h2, .int 1]))]) hD hS hA [1] rfl
  refine va_calli (va_runV (As := []) (rest := []) ⟨hx, hb, hml, hown, hts⟩ (kX4_size_2 l dC dI g H.size h1 (.ref h2) ) (cwV 0 hts (ns_gp (List.forall_mem_cons.mpr ⟨wm248, (List.forall_mem_cons.mpr ⟨wm249, (List.forall_mem_cons.mpr ⟨wm250, (List.forall_mem_cons.mpr ⟨wm12, (fun _ h9 => nomatch h9)⟩)⟩)⟩)⟩) wm247) rfl rfl rfl (by decide +kernel) ⟨Nat.le_of_ble_eq_true rfl, Nat.le_of_ble_eq_true rfl⟩) ⟨fun a U gg mk q => by obtain ⟨q0, q1, qP, qK, qD, qF⟩ := q; exact ⟨q0, q1, qP, va_K.moved (u := U) (U := U.calling gg mk a) (Vm.Alike.refl U.vm) qK, qD, ns_same qF⟩, va_recv hK hP (ci := 11) (q0 := 1) rfl rfl, fun U hU hW => ⟨rfl, by rw [hU], by rw [hU]; exact hPc, va_K.moved hW.alike hKc, hDc.weaken (fun _ _ _ _ => trivial), ns_call hF hS hFc hU hW⟩⟩ rfl rfl hl.1 rfl (lv_room (Nat.le_of_ble_eq_true rfl)) dX3_addPlace_55 ⟨Nat.le_of_ble_eq_true rfl, Nat.le_of_ble_eq_true rfl⟩) hS (fun q _ h => hFc q h) hFc (fun r9 u t H1 locs ht hvm hw hB hz1 hk1 hS => ?_)
  obtain rfl := hw.symm
  obtain ⟨hP1, hK1, hD1⟩ := hB
  rw [ht] at hP1
  have hK1 := va_K.moved hvm.symm hK1
  obtain ⟨hP, hD⟩ := va_join (wr := [(h0, .inr (10, [v0, .ref h1, .ref h3, .ref h5, .ref h7, .ref h9, .ref h11, v1, v2])), (h2, .inl (cc0, 4960, .inl (upd (f0) 0 0))), (h3, .inr (11, [.ref h4, .int 1])), (h4, .inl (cc1, 4960, .inl (upd (f1) 0 0))), (h5, .inr (11, [.ref h6, .int 1])), (h6, .inl (cc2, 4960, .inl (upd (f2) 0 6))), (h7, .inr (11, [.ref h8, .int 1])), (h8, .inl (cc3, 4960, .inl (upd (f3) 0 0))), (h9, .inr (11, [.ref h10, .int 1])), (h10, .inl (cc4, 4960, .inl (upd (f4) 0 1))), (h11, .inr (11, [.ref h12, .int 1])), (h12, .inl (cc5, 4960, .inl (upd (f5) 0 1)))]) (w1 := [(h1, .inr (11, [.ref h2, .int 1]))]) hP hD [1] [0, 2, 3, 4, 5, 6, 7, 8, 9, 10, 11, 12] rfl rfl (by decide) (by decide) hk1 hFc hP1 hD1
  have hK := (hK.sub (tys' := [(cc0, .int), (cc1, .int), (cc2, .int), (cc3, .int), (cc4, .int), (cc5, .int)]) [0, 1, 2, 3, 4, 5] rfl).app hK1
  generalize H1 = H at hP hS ⊢
  have hP : va_P (dC, dI) vwCl [(h0, .inr (10, [v0, .ref h1, .ref h3, .ref h5, .ref h7, .ref h9, .ref h11, v1, v2])), (h2, .inl (cc0, 4960, .inl (upd (f0) 0 0))), (h3, .inr (11, [.ref h4, .int 1])), (h4, .inl (cc1, 4960, .inl (upd (f1) 0 0))), (h5, .inr (11, [.ref h6, .int 1])), (h6, .inl (cc2, 4960, .inl (upd (f2) 0 6))), (h7, .inr (11, [.ref h8, .int 1])), (h8, .inl (cc3, 4960, .inl (upd (f3) 0 0))), (h9, .inr (11, [.ref h10, .int 1])), (h10, .inl (cc4, 4960, .inl (upd (f4) 0 1))), (h11, .inr (11, [.ref h12, .int 1])), (h12, .inl (cc5, 4960, .inl (upd (f5) 0 1))), (h1, .inr (11, [.ref h2, .int 1]))] H := hP
  have hD : va_D A [(h0, .inr (10, [v0, .ref h1, .ref h3, .ref h5, .ref h7, .ref h9, .ref h11, v1, v2])), (h2, .inl (cc0, 4960, .inl (upd (f0) 0 0))), (h3, .inr (11, [.ref h4, .int 1])), (h4, .inl (cc1, 4960, .inl (upd (f1) 0 0))), (h5, .inr (11, [.ref h6, .int 1])), (h6, .inl (cc2, 4960, .inl (upd (f2) 0 6))), (h7, .inr (11, [.ref h8, .int 1])), (h8, .inl (cc3, 4960, .inl (upd (f3) 0 0))), (h9, .inr (11, [.ref h10, .int 1])), (h10, .inl (cc4, 4960, .inl (upd (f4) 0 1))), (h11, .inr (11, [.ref h12, .int 1])), (h12, .inl (cc5, 4960, .inl (upd (f5) 0 1))), (h1, .inr (11, [.ref h2, .int 1]))] := hD
  have hK : va_K (dC, dI) vwCl [(cc0, .int), (cc1, .int), (cc2, .int), (cc3, .int), (cc4, .int), (cc5, .int)] s := hK
  refine W.widen (k := 0) (n := 0) (Nat.le_of_ble_eq_true rfl) (Nat.le_of_ble_eq_true rfl) ?_
  refine lv_iconst (v := 1) hx hb dX3_addPlace_58 (by decide) ?_
  refine lv_isub hx hb dX3_addPlace_59 ?_
  refine lv_topi (fun y1 ey1 => ?_)
  obtain rfl : y1 = 0 := ey1.trans (by decide)
  have hP9 := hP.sub (ws' := [(h0, .inr (10, [v0, .ref h1, .ref h3, .ref h5, .ref h7, .ref h9, .ref h11, v1, v2])), (h2, .inl (cc0, 4960, .inl (upd (f0) 0 0))), (h3, .inr (11, [.ref h4, .int 1])), (h4, .inl (cc1, 4960, .inl (upd (f1) 0 0))), (h5, .inr (11, [.ref h6, .int 1])), (h6, .inl (cc2, 4960, .inl (upd (f2) 0 6))), (h7, .inr (11, [.ref h8, .int 1])), (h8, .inl (cc3, 4960, .inl (upd (f3) 0 0))), (h9, .inr (11, [.ref h10, .int 1])), (h10, .inl (cc4, 4960, .inl (upd (f4) 0 1))), (h11, .inr (11, [.ref h12, .int 1])), (h12, .inl (cc5, 4960, .inl (upd (f5) 0 1))), (h1, .inr (11, [.ref h2, .int 1]))]) [0, 1, 2, 3, 4, 5, 6, 7, 8, 9, 10, 11, 12] rfl
  have hD9 := hD.sub (ws' := [(h0, .inr (10, [v0, .ref h1, .ref h3, .ref h5, .ref h7, .ref h9, .ref h11, v1, v2])), (h2, .inl (cc0, 4960, .inl (upd (f0) 0 0))), (h3, .inr (11, [.ref h4, .int 1])), (h4, .inl (cc1, 4960, .inl (upd (f1) 0 0))), (h5, .inr (11, [.ref h6, .int 1])), (h6, .inl (cc2, 4960, .inl (upd (f2) 0 6))), (h7, .inr (11, [.ref h8, .int 1])), (h8, .inl (cc3, 4960, .inl (upd (f3) 0 0))), (h9, .inr (11, [.ref h10, .int 1])), (h10, .inl (cc4, 4960, .inl (upd (f4) 0 1))), (h11, .inr (11, [.ref h12, .int 1])), (h12, .inl (cc5, 4960, .inl (upd (f5) 0 1))), (h1, .inr (11, [.ref h2, .int 1]))]) [0, 1, 2, 3, 4, 5, 6, 7, 8, 9, 10, 11, 12] (by decide) rfl
  have hK9 := hK.sub (tys' := [(cc0, .int), (cc1, .int), (cc2, .int), (cc3, .int), (cc4, .int), (cc5, .int)]) [0, 1, 2, 3, 4, 5] rfl
  refine W.widen (k := 0) (n := 0) (Nat.le_of_ble_eq_true rfl) (Nat.le_of_ble_eq_true rfl) ?_
  exact W.iret (v := 0) hx hb hr (fun t ht hW => ⟨⟨_, (), rfl, rfl, by rw [ht]; exact hP9, va_K.moved hW.alike hK9, hD9⟩, hS.F ht⟩) hS.2.2 dX3_addPlace_60
set_option maxHeartbeats 4000000 in
set_option maxRecDepth 100000 in
theorem kX9_withCode (l : Launch) (dC : Nat → ClassId) (dI : Nat → Nat → Nat) (g : Nat → Nat) (sz : Nat) (h0 : Nat) (h1 : Nat) (v0 : Value) (v1 : Value) (v2 : Value) (v3 : Value) (v4 : Value) (v5 : Value) (v6 : Value) (v7 : Value) (v8 : Value) (v9 : Value) (v10 : Value) (v11 : Value) (v12 : Value) (v13 : Value) (v14 : Value) (v15 : Value) (v16 : Value) (v17 : Value) (v18 : Value) (v19 : Value) (v20 : Value) (v21 : Value) (v22 : Value) (v23 : Value) : Met l yX9_withCode wbX9_withCode ({ frames := 1, cells := 0, slots := 0, locals := 20 }) (va_Pc [.ref h0, .long 7646443195607226570] (fun U => U.heap.size = sz ∧ va_P (dC, dI) vwCl [(h0, .inr (16, [v0, v1, v2, v3, v4, v5, v6, v7, v8, .ref h1, v9, v10, v11, v12, v13, v14])), (h1, .inr (14, [v15, v16, v17, v18, v19, v20, v21, v22, v23, .int (-1)]))] U.heap ∧ va_K (dC, dI) vwCl [] U ∧ va_D (fun _ => True) [(h0, .inr (16, [v0, v1, v2, v3, v4, v5, v6, v7, v8, .ref h1, v9, v10, v11, v12, v13, v14])), (h1, .inr (14, [v15, v16, v17, v18, v19, v20, v21, v22, v23, .int (-1)]))] ∧ ns_F g (va_A [(h0, .inr (16, [v0, v1, v2, v3, v4, v5, v6, v7, v8, .ref h1, v9, v10, v11, v12, v13, v14])), (h1, .inr (14, [v15, v16, v17, v18, v19, v20, v21, v22, v23, .int (-1)]))] sz) U U.heap)) (va_Ql (fun (r : Int64) (_ : Unit) => r = (-8631825753495428022)) (fun _ t => va_P (dC, dI) vwCl [(h0, .inr (16, [v0, v1, v2, v3, v4, v5, v6, v7, v8, .ref h1, v9, v10, v11, v12, v13, v14])), (h1, .inr (14, [v15, v16, v17, v18, v19, v20, v21, v22, v23, .int (-1)]))] t.heap ∧ va_K (dC, dI) vwCl [] t ∧ va_D (va_A [(h0, .inr (16, [v0, v1, v2, v3, v4, v5, v6, v7, v8, .ref h1, v9, v10, v11, v12, v13, v14])), (h1, .inr (14, [v15, v16, v17, v18, v19, v20, v21, v22, v23, .int (-1)]))] sz) [(h0, .inr (16, [v0, v1, v2, v3, v4, v5, v6, v7, v8, .ref h1, v9, v10, v11, v12, v13, v14])), (h1, .inr (14, [v15, v16, v17, v18, v19, v20, v21, v22, v23, .int (-1)]))]) (va_A [(h0, .inr (16, [v0, v1, v2, v3, v4, v5, v6, v7, v8, .ref h1, v9, v10, v11, v12, v13, v14])), (h1, .inr (14, [v15, v16, v17, v18, v19, v20, v21, v22, v23, .int (-1)]))] sz)) 0 0 (va_A [(h0, .inr (16, [v0, v1, v2, v3, v4, v5, v6, v7, v8, .ref h1, v9, v10, v11, v12, v13, v14])), (h1, .inr (14, [v15, v16, v17, v18, v19, v20, v21, v22, v23, .int (-1)]))] sz) := by
  refine Met.ofW (cc := cX9_withCode) (maxL := 6) (ret := (some .long)) (by decide) rfl ?_
  intro p e s m args below meth c s₁ B hml hv
  obtain ⟨rfl, hsz, hP, hK, hD0, hF⟩ := hv
  have hx := B.exec
  have hb := B.bytes
  have hr := B.returns
  have hts := atoms_spec (ws := wbX9_withCode) B.pre
  have hta : ∀ w ∈ wsALL, w.before _ s = true := fun w h => hts w (List.mem_cons_of_mem _ h)
  have hown : s.vm.findClass RX9 = some m.cls := findClass_of_methodNamed B.named
  have hlocks := B.notSynchronized
  subst hsz
  have hD := hD0.self (sz := s.heap.size)
  generalize hAe : va_A [(h0, .inr (16, [v0, v1, v2, v3, v4, v5, v6, v7, v8, .ref h1, v9, v10, v11, v12, v13, v14])), (h1, .inr (14, [v15, v16, v17, v18, v19, v20, v21, v22, v23, .int (-1)]))] s.heap.size = A at hD hF ⊢
  have hA : ∀ q : Nat, s.heap.size ≤ q → A q := fun q h => by rw [← hAe]; exact Or.inr h
  have hS : va_S A s.heap s.heap [] := va_S.rf
  have hP : va_P (dC, dI) vwCl [(h0, .inr (16, [v0, v1, v2, v3, v4, v5, v6, v7, v8, .ref h1, v9, v10, v11, v12, v13, v14])), (h1, .inr (14, [v15, v16, v17, v18, v19, v20, v21, v22, v23, .int (-1)]))] s.heap := hP
  have hl := lv_entry ([.ref h0, .long 7646443195607226570]) (n := 6) (Nat.le_of_ble_eq_true rfl)
  rw [lg_entry_eq]
  generalize (lg_sl ([.ref h0, .long 7646443195607226570]) ++ List.replicate (6 - (lg_sl ([.ref h0, .long 7646443195607226570])).length) Slot.unset).toArray = ls at hl ⊢
  have hl : lv_has ls 6 [(0, .ref h0), (1, .long 7646443195607226570)] := hl
  refine lv_lload_n hx hb dX9_withCode_0 rfl (lv_at hl 1 rfl) ?_
  refine lv_lstore_n (lv' := [(3, .long 7646443195607226570), (0, .ref h0), (1, .long 7646443195607226570)]) hx hb dX9_withCode_1 rfl hl (by decide) rfl (fun ls hl => ?_)
  refine lv_aload_n hx hb dX9_withCode_2 rfl (lv_at hl 1 rfl) ?_
  refine va_get (D := (dC, dI)) (ci := 16) (v := .ref h1) (C := RX9) (T := TX9) (N := 16) hx hb hta naX9 hown hK hP 0 rfl rfl 9 (by decide) (hta _ wm166) (fun _ h9 => h9) rfl dX9_withCode_3 ?_
  have hPc := hP.sub (ws' := [(h1, .inr (14, [v15, v16, v17, v18, v19, v20, v21, v22, v23, .int (-1)]))]) [1] rfl
  have hDc := hD.sub (ws' := [(h1, .inr (14, [v15, v16, v17, v18, v19, v20, v21, v22, v23, .int (-1)]))]) [1] (by decide) rfl
  have hKc := hK.sub (tys' := []) [] rfl
  have hFc := va_free (wc := [(h1, .inr (14, [v15, v16, v17, v18, v19, v20, v21, v22, v23, .int (-1)]))]) hD hS hA [1] rfl
  refine va_calli (va_runV (As := []) (rest := []) ⟨hx, hb, hml, hown, hts⟩ (kX7_isThere l dC dI g s.heap.size h1 v15 v16 v17 v18 v19 v20 v21 v22 v23 ) (cwV 0 hts (ns_gp (List.forall_mem_cons.mpr ⟨wm944, (List.forall_mem_cons.mpr ⟨wm945, (List.forall_mem_cons.mpr ⟨wm946, (List.forall_mem_cons.mpr ⟨wm151, (fun _ h9 => nomatch h9)⟩)⟩)⟩)⟩) wm943) rfl rfl rfl (by decide +kernel) ⟨Nat.le_of_ble_eq_true rfl, Nat.le_of_ble_eq_true rfl⟩) ⟨fun a U gg mk q => by obtain ⟨q0, q1, qP, qK, qD, qF⟩ := q; exact ⟨q0, q1, qP, va_K.moved (u := U) (U := U.calling gg mk a) (Vm.Alike.refl U.vm) qK, qD, ns_same qF⟩, va_recv hK hP (ci := 14) (q0 := 1) rfl rfl, fun U hU hW => ⟨rfl, by rw [hU], by rw [hU]; exact hPc, va_K.moved hW.alike hKc, hDc.weaken (fun _ _ _ _ => trivial), ns_call hF hS hFc hU hW⟩⟩ rfl rfl hl.1 rfl (lv_room (Nat.le_of_ble_eq_true rfl)) dX9_withCode_6 ⟨Nat.le_of_ble_eq_true rfl, Nat.le_of_ble_eq_true rfl⟩) hS (fun q _ h => hFc q h) hFc (fun r9 u t H1 locs ht hvm hw hB hz1 hk1 hS => ?_)
  obtain rfl := hw.symm
  obtain ⟨hP1, hK1, hD1⟩ := hB
  rw [ht] at hP1
  have hK1 := va_K.moved hvm.symm hK1
  obtain ⟨hP, hD⟩ := va_join (wr := [(h0, .inr (16, [v0, v1, v2, v3, v4, v5, v6, v7, v8, .ref h1, v9, v10, v11, v12, v13, v14]))]) (w1 := [(h1, .inr (14, [v15, v16, v17, v18, v19, v20, v21, v22, v23, .int (-1)]))]) hP hD [1] [0] rfl rfl (by decide) (by decide) hk1 hFc hP1 hD1
  have hK := (hK.sub (tys' := []) [] rfl).app hK1
  generalize H1 = H at hP hS ⊢
  have hP : va_P (dC, dI) vwCl [(h0, .inr (16, [v0, v1, v2, v3, v4, v5, v6, v7, v8, .ref h1, v9, v10, v11, v12, v13, v14])), (h1, .inr (14, [v15, v16, v17, v18, v19, v20, v21, v22, v23, .int (-1)]))] H := hP
  have hD : va_D A [(h0, .inr (16, [v0, v1, v2, v3, v4, v5, v6, v7, v8, .ref h1, v9, v10, v11, v12, v13, v14])), (h1, .inr (14, [v15, v16, v17, v18, v19, v20, v21, v22, v23, .int (-1)]))] := hD
  have hK : va_K (dC, dI) vwCl [] s := hK
  refine W.widen (k := 0) (n := 0) (Nat.le_of_ble_eq_true rfl) (Nat.le_of_ble_eq_true rfl) ?_
  refine lv_if_ne (tgt := 36) hx hb dX9_withCode_9 (by decide) (fun c1 => absurd (by decide) c1) (fun c1 => ?_)
  refine lv_iconst (v := 0) hx hb dX9_withCode_12 (by decide) ?_
  refine lv_istore (lv' := [(5, .int 0), (3, .long 7646443195607226570), (0, .ref h0), (1, .long 7646443195607226570)]) hx hb dX9_withCode_13 hl (by decide) rfl (fun ls hl => ?_)
  refine lv_iload hx hb dX9_withCode_15 (lv_at hl 0 rfl) ?_
  refine lv_bipush (v := 9) hx hb dX9_withCode_17 (by decide) ?_
  refine lv_icmp_gt (tgt := 34) hx hb dX9_withCode_19 (by decide) (fun c2 => absurd c2 (by decide)) (fun c2 => ?_)
  refine lv_lload_n hx hb dX9_withCode_22 rfl (lv_at hl 1 rfl) ?_
  refine lv_ldc2 (v := 31) hx hb hown (hta _ wm1085) dX9_withCode_23 ?_
  refine lv_lmul hx hb dX9_withCode_26 ?_
  refine lv_topl (fun y3 ey3 => ?_)
  obtain rfl : y3 = (-2767933894400147338) := ey3.trans (by decide)
  refine lv_lstore_n (lv' := [(3, .long (-2767933894400147338)), (5, .int 0), (0, .ref h0), (1, .long 7646443195607226570)]) hx hb dX9_withCode_27 rfl hl (by decide) rfl (fun ls hl => ?_)
  refine lv_iinc (v := 1) (lv' := [(5, .int 1), (3, .long (-2767933894400147338)), (0, .ref h0), (1, .long 7646443195607226570)]) hx hb dX9_withCode_28 hl (k := 1) rfl (by decide) (by decide) rfl (fun ls hl => ?_)
  refine lv_goto (tgt := 15) hx hb dX9_withCode_31 (by decide) ?_
  refine lv_iload hx hb dX9_withCode_15 (lv_at hl 0 rfl) ?_
  refine lv_bipush (v := 9) hx hb dX9_withCode_17 (by decide) ?_
  refine lv_icmp_gt (tgt := 34) hx hb dX9_withCode_19 (by decide) (fun c4 => absurd c4 (by decide)) (fun c4 => ?_)
  refine lv_lload_n hx hb dX9_withCode_22 rfl (lv_at hl 1 rfl) ?_
  refine lv_ldc2 (v := 31) hx hb hown (hta _ wm1085) dX9_withCode_23 ?_
  refine lv_lmul hx hb dX9_withCode_26 ?_
  refine lv_topl (fun y5 ey5 => ?_)
  obtain rfl : y5 = 6427769642143190602 := ey5.trans (by decide)
  refine lv_lstore_n (lv' := [(3, .long 6427769642143190602), (5, .int 1), (0, .ref h0), (1, .long 7646443195607226570)]) hx hb dX9_withCode_27 rfl hl (by decide) rfl (fun ls hl => ?_)
  refine lv_iinc (v := 2) (lv' := [(5, .int 2), (3, .long 6427769642143190602), (0, .ref h0), (1, .long 7646443195607226570)]) hx hb dX9_withCode_28 hl (k := 1) rfl (by decide) (by decide) rfl (fun ls hl => ?_)
  refine lv_goto (tgt := 15) hx hb dX9_withCode_31 (by decide) ?_
  refine lv_iload hx hb dX9_withCode_15 (lv_at hl 0 rfl) ?_
  refine lv_bipush (v := 9) hx hb dX9_withCode_17 (by decide) ?_
  refine lv_icmp_gt (tgt := 34) hx hb dX9_withCode_19 (by decide) (fun c6 => absurd c6 (by decide)) (fun c6 => ?_)
  refine lv_lload_n hx hb dX9_withCode_22 rfl (lv_at hl 1 rfl) ?_
  refine lv_ldc2 (v := 31) hx hb hown (hta _ wm1085) dX9_withCode_23 ?_
  refine lv_lmul hx hb dX9_withCode_26 ?_
  refine lv_topl (fun y7 ey7 => ?_)
  obtain rfl : y7 = (-3653325904366159114) := ey7.trans (by decide)
  refine lv_lstore_n (lv' := [(3, .long (-3653325904366159114)), (5, .int 2), (0, .ref h0), (1, .long 7646443195607226570)]) hx hb dX9_withCode_27 rfl hl (by decide) rfl (fun ls hl => ?_)
  refine lv_iinc (v := 3) (lv' := [(5, .int 3), (3, .long (-3653325904366159114)), (0, .ref h0), (1, .long 7646443195607226570)]) hx hb dX9_withCode_28 hl (k := 1) rfl (by decide) (by decide) rfl (fun ls hl => ?_)
  refine lv_goto (tgt := 15) hx hb dX9_withCode_31 (by decide) ?_
  refine lv_iload hx hb dX9_withCode_15 (lv_at hl 0 rfl) ?_
  refine lv_bipush (v := 9) hx hb dX9_withCode_17 (by decide) ?_
  refine lv_icmp_gt (tgt := 34) hx hb dX9_withCode_19 (by decide) (fun c8 => absurd c8 (by decide)) (fun c8 => ?_)
  refine lv_lload_n hx hb dX9_withCode_22 rfl (lv_at hl 1 rfl) ?_
  refine lv_ldc2 (v := 31) hx hb hown (hta _ wm1085) dX9_withCode_23 ?_
  refine lv_lmul hx hb dX9_withCode_26 ?_
  refine lv_topl (fun y9 ey9 => ?_)
  obtain rfl : y9 = (-2572638593093622838) := ey9.trans (by decide)
  refine lv_lstore_n (lv' := [(3, .long (-2572638593093622838)), (5, .int 3), (0, .ref h0), (1, .long 7646443195607226570)]) hx hb dX9_withCode_27 rfl hl (by decide) rfl (fun ls hl => ?_)
  refine lv_iinc (v := 4) (lv' := [(5, .int 4), (3, .long (-2572638593093622838)), (0, .ref h0), (1, .long 7646443195607226570)]) hx hb dX9_withCode_28 hl (k := 1) rfl (by decide) (by decide) rfl (fun ls hl => ?_)
  refine lv_goto (tgt := 15) hx hb dX9_withCode_31 (by decide) ?_
  refine lv_iload hx hb dX9_withCode_15 (lv_at hl 0 rfl) ?_
  refine lv_bipush (v := 9) hx hb dX9_withCode_17 (by decide) ?_
  refine lv_icmp_gt (tgt := 34) hx hb dX9_withCode_19 (by decide) (fun c10 => absurd c10 (by decide)) (fun c10 => ?_)
  refine lv_lload_n hx hb dX9_withCode_22 rfl (lv_at hl 1 rfl) ?_
  refine lv_ldc2 (v := 31) hx hb hown (hta _ wm1085) dX9_withCode_23 ?_
  refine lv_lmul hx hb dX9_withCode_26 ?_
  refine lv_topl (fun y11 ey11 => ?_)
  obtain rfl : y11 = (-5964820091064101514) := ey11.trans (by decide)
  refine lv_lstore_n (lv' := [(3, .long (-5964820091064101514)), (5, .int 4), (0, .ref h0), (1, .long 7646443195607226570)]) hx hb dX9_withCode_27 rfl hl (by decide) rfl (fun ls hl => ?_)
  refine lv_iinc (v := 5) (lv' := [(5, .int 5), (3, .long (-5964820091064101514)), (0, .ref h0), (1, .long 7646443195607226570)]) hx hb dX9_withCode_28 hl (k := 1) rfl (by decide) (by decide) rfl (fun ls hl => ?_)
  refine lv_goto (tgt := 15) hx hb dX9_withCode_31 (by decide) ?_
  refine lv_iload hx hb dX9_withCode_15 (lv_at hl 0 rfl) ?_
  refine lv_bipush (v := 9) hx hb dX9_withCode_17 (by decide) ?_
  refine lv_icmp_gt (tgt := 34) hx hb dX9_withCode_19 (by decide) (fun c12 => absurd c12 (by decide)) (fun c12 => ?_)
  refine lv_lload_n hx hb dX9_withCode_22 rfl (lv_at hl 1 rfl) ?_
  refine lv_ldc2 (v := 31) hx hb hown (hta _ wm1085) dX9_withCode_23 ?_
  refine lv_lmul hx hb dX9_withCode_26 ?_
  refine lv_topl (fun y13 ey13 => ?_)
  obtain rfl : y13 = (-441982085891630774) := ey13.trans (by decide)
  refine lv_lstore_n (lv' := [(3, .long (-441982085891630774)), (5, .int 5), (0, .ref h0), (1, .long 7646443195607226570)]) hx hb dX9_withCode_27 rfl hl (by decide) rfl (fun ls hl => ?_)
  refine lv_iinc (v := 6) (lv' := [(5, .int 6), (3, .long (-441982085891630774)), (0, .ref h0), (1, .long 7646443195607226570)]) hx hb dX9_withCode_28 hl (k := 1) rfl (by decide) (by decide) rfl (fun ls hl => ?_)
  refine lv_goto (tgt := 15) hx hb dX9_withCode_31 (by decide) ?_
  refine lv_iload hx hb dX9_withCode_15 (lv_at hl 0 rfl) ?_
  refine lv_bipush (v := 9) hx hb dX9_withCode_17 (by decide) ?_
  refine lv_icmp_gt (tgt := 34) hx hb dX9_withCode_19 (by decide) (fun c14 => absurd c14 (by decide)) (fun c14 => ?_)
  refine lv_lload_n hx hb dX9_withCode_22 rfl (lv_at hl 1 rfl) ?_
  refine lv_ldc2 (v := 31) hx hb hown (hta _ wm1085) dX9_withCode_23 ?_
  refine lv_lmul hx hb dX9_withCode_26 ?_
  refine lv_topl (fun y15 ey15 => ?_)
  obtain rfl : y15 = 4745299411068997622 := ey15.trans (by decide)
  refine lv_lstore_n (lv' := [(3, .long 4745299411068997622), (5, .int 6), (0, .ref h0), (1, .long 7646443195607226570)]) hx hb dX9_withCode_27 rfl hl (by decide) rfl (fun ls hl => ?_)
  refine lv_iinc (v := 7) (lv' := [(5, .int 7), (3, .long 4745299411068997622), (0, .ref h0), (1, .long 7646443195607226570)]) hx hb dX9_withCode_28 hl (k := 1) rfl (by decide) (by decide) rfl (fun ls hl => ?_)
  refine lv_goto (tgt := 15) hx hb dX9_withCode_31 (by decide) ?_
  refine lv_iload hx hb dX9_withCode_15 (lv_at hl 0 rfl) ?_
  refine lv_bipush (v := 9) hx hb dX9_withCode_17 (by decide) ?_
  refine lv_icmp_gt (tgt := 34) hx hb dX9_withCode_19 (by decide) (fun c16 => absurd c16 (by decide)) (fun c16 => ?_)
  refine lv_lload_n hx hb dX9_withCode_22 rfl (lv_at hl 1 rfl) ?_
  refine lv_ldc2 (v := 31) hx hb hown (hta _ wm1085) dX9_withCode_23 ?_
  refine lv_lmul hx hb dX9_withCode_26 ?_
  refine lv_topl (fun y17 ey17 => ?_)
  obtain rfl : y17 = (-469670846537486646) := ey17.trans (by decide)
  refine lv_lstore_n (lv' := [(3, .long (-469670846537486646)), (5, .int 7), (0, .ref h0), (1, .long 7646443195607226570)]) hx hb dX9_withCode_27 rfl hl (by decide) rfl (fun ls hl => ?_)
  refine lv_iinc (v := 8) (lv' := [(5, .int 8), (3, .long (-469670846537486646)), (0, .ref h0), (1, .long 7646443195607226570)]) hx hb dX9_withCode_28 hl (k := 1) rfl (by decide) (by decide) rfl (fun ls hl => ?_)
  refine lv_goto (tgt := 15) hx hb dX9_withCode_31 (by decide) ?_
  refine lv_iload hx hb dX9_withCode_15 (lv_at hl 0 rfl) ?_
  refine lv_bipush (v := 9) hx hb dX9_withCode_17 (by decide) ?_
  refine lv_icmp_gt (tgt := 34) hx hb dX9_withCode_19 (by decide) (fun c18 => absurd c18 (by decide)) (fun c18 => ?_)
  refine lv_lload_n hx hb dX9_withCode_22 rfl (lv_at hl 1 rfl) ?_
  refine lv_ldc2 (v := 31) hx hb hown (hta _ wm1085) dX9_withCode_23 ?_
  refine lv_lmul hx hb dX9_withCode_26 ?_
  refine lv_topl (fun y19 ey19 => ?_)
  obtain rfl : y19 = 3886947831047465590 := ey19.trans (by decide)
  refine lv_lstore_n (lv' := [(3, .long 3886947831047465590), (5, .int 8), (0, .ref h0), (1, .long 7646443195607226570)]) hx hb dX9_withCode_27 rfl hl (by decide) rfl (fun ls hl => ?_)
  refine lv_iinc (v := 9) (lv' := [(5, .int 9), (3, .long 3886947831047465590), (0, .ref h0), (1, .long 7646443195607226570)]) hx hb dX9_withCode_28 hl (k := 1) rfl (by decide) (by decide) rfl (fun ls hl => ?_)
  refine lv_goto (tgt := 15) hx hb dX9_withCode_31 (by decide) ?_
  refine lv_iload hx hb dX9_withCode_15 (lv_at hl 0 rfl) ?_
  refine lv_bipush (v := 9) hx hb dX9_withCode_17 (by decide) ?_
  refine lv_icmp_gt (tgt := 34) hx hb dX9_withCode_19 (by decide) (fun c20 => absurd c20 (by decide)) (fun c20 => ?_)
  refine lv_lload_n hx hb dX9_withCode_22 rfl (lv_at hl 1 rfl) ?_
  refine lv_ldc2 (v := 31) hx hb hown (hta _ wm1085) dX9_withCode_23 ?_
  refine lv_lmul hx hb dX9_withCode_26 ?_
  refine lv_topl (fun y21 ey21 => ?_)
  obtain rfl : y21 = (-8631825753495428022) := ey21.trans (by decide)
  refine lv_lstore_n (lv' := [(3, .long (-8631825753495428022)), (5, .int 9), (0, .ref h0), (1, .long 7646443195607226570)]) hx hb dX9_withCode_27 rfl hl (by decide) rfl (fun ls hl => ?_)
  refine lv_iinc (v := 10) (lv' := [(5, .int 10), (3, .long (-8631825753495428022)), (0, .ref h0), (1, .long 7646443195607226570)]) hx hb dX9_withCode_28 hl (k := 1) rfl (by decide) (by decide) rfl (fun ls hl => ?_)
  refine lv_goto (tgt := 15) hx hb dX9_withCode_31 (by decide) ?_
  refine lv_iload hx hb dX9_withCode_15 (lv_at hl 0 rfl) ?_
  refine lv_bipush (v := 9) hx hb dX9_withCode_17 (by decide) ?_
  refine lv_icmp_gt (tgt := 34) hx hb dX9_withCode_19 (by decide) (fun c22 => ?_) (fun c22 => absurd (by decide) c22)
  refine lv_lload_n hx hb dX9_withCode_34 rfl (lv_at hl 1 rfl) ?_
  have hP9 := hP.sub (ws' := [(h0, .inr (16, [v0, v1, v2, v3, v4, v5, v6, v7, v8, .ref h1, v9, v10, v11, v12, v13, v14])), (h1, .inr (14, [v15, v16, v17, v18, v19, v20, v21, v22, v23, .int (-1)]))]) [0, 1] rfl
  have hD9 := hD.sub (ws' := [(h0, .inr (16, [v0, v1, v2, v3, v4, v5, v6, v7, v8, .ref h1, v9, v10, v11, v12, v13, v14])), (h1, .inr (14, [v15, v16, v17, v18, v19, v20, v21, v22, v23, .int (-1)]))]) [0, 1] (by decide) rfl
  have hK9 := hK.sub (tys' := []) [] rfl
  refine W.widen (k := 0) (n := 0) (Nat.le_of_ble_eq_true rfl) (Nat.le_of_ble_eq_true rfl) ?_
  exact W.lret (v := (-8631825753495428022)) hx hb hr (fun t ht hW => ⟨⟨_, (), rfl, rfl, by rw [ht]; exact hP9, va_K.moved hW.alike hK9, hD9⟩, hS.F ht⟩) hS.2.2 dX9_withCode_35
set_option maxHeartbeats 4000000 in
set_option maxRecDepth 100000 in
theorem kJ5_append_3fe6f_2 (l : Launch) (dC : Nat → ClassId) (dI : Nat → Nat → Nat) (g : Nat → Nat) (sz : Nat) (h0 : Nat) (x0 : Int32) (h1 : Nat) (v0 : Value) (cc0 : ClassId) (f0 : Nat → Int32) (hf0 : sb_Fit f0) (ex0 : (97 : Int) ≤ x0.toInt ∧ x0.toInt ≤ (122 : Int)) : Met l yJ5_append_3fe6f wbJ5_append_3fe6f ({ frames := 1, cells := 0, slots := 0, locals := 22 }) (va_Pc [.ref h0, .int x0] (fun U => U.heap.size = sz ∧ va_P (dC, dI) vwCl [(h0, .inr (1, [.ref h1, .int 0, v0, .int 1])), (h1, .inl (cc0, 16, .inl f0))] U.heap ∧ va_K (dC, dI) vwCl [(cc0, .byte)] U ∧ va_D (fun _ => True) [(h0, .inr (1, [.ref h1, .int 0, v0, .int 1])), (h1, .inl (cc0, 16, .inl f0))] ∧ ns_F g (va_A [(h0, .inr (1, [.ref h1, .int 0, v0, .int 1])), (h1, .inl (cc0, 16, .inl f0))] sz) U U.heap)) (va_Qr (fun _ : Unit => True) (fun _ r t => r = h0 ∧ va_P (dC, dI) vwCl [(h1, .inl (cc0, 16, .inl (upd (f0) 1 (vp_nar .byte x0.toInt8.toInt32)))), (h0, .inr (1, [.ref h1, .int 0, v0, .int 2]))] t.heap ∧ va_K (dC, dI) vwCl [(cc0, .byte)] t ∧ va_D (va_A [(h0, .inr (1, [.ref h1, .int 0, v0, .int 1])), (h1, .inl (cc0, 16, .inl f0))] sz) [(h1, .inl (cc0, 16, .inl (upd (f0) 1 (vp_nar .byte x0.toInt8.toInt32)))), (h0, .inr (1, [.ref h1, .int 0, v0, .int 2]))]) (va_A [(h0, .inr (1, [.ref h1, .int 0, v0, .int 1])), (h1, .inl (cc0, 16, .inl f0))] sz)) 0 0 (va_A [(h0, .inr (1, [.ref h1, .int 0, v0, .int 1])), (h1, .inl (cc0, 16, .inl f0))] sz) := by
  refine Met.ofW (cc := cJ5_append_3fe6f) (maxL := 2) (ret := (some (.object "java/lang/AbstractStringBuilder"))) (by decide) rfl ?_
  intro p e s m args below meth c s₁ B hml hv
  obtain ⟨rfl, hsz, hP, hK, hD0, hF⟩ := hv
  have hx := B.exec
  have hb := B.bytes
  have hr := B.returns
  have hts := atoms_spec (ws := wbJ5_append_3fe6f) B.pre
  have hta : ∀ w ∈ wsALL, w.before _ s = true := fun w h => hts w (List.mem_cons_of_mem _ h)
  have hown : s.vm.findClass RJ5 = some m.cls := findClass_of_methodNamed B.named
  have hlocks := B.notSynchronized
  subst hsz
  have hD := hD0.self (sz := s.heap.size)
  generalize hAe : va_A [(h0, .inr (1, [.ref h1, .int 0, v0, .int 1])), (h1, .inl (cc0, 16, .inl f0))] s.heap.size = A at hD hF ⊢
  have hA : ∀ q : Nat, s.heap.size ≤ q → A q := fun q h => by rw [← hAe]; exact Or.inr h
  have hS : va_S A s.heap s.heap [] := va_S.rf
  have hP : va_P (dC, dI) vwCl [(h0, .inr (1, [.ref h1, .int 0, v0, .int 1])), (h1, .inl (cc0, 16, .inl f0))] s.heap := hP
  have hl := lv_entry ([.ref h0, .int x0]) (n := 2) (Nat.le_of_ble_eq_true rfl)
  rw [lg_entry_eq]
  generalize (lg_sl ([.ref h0, .int x0]) ++ List.replicate (2 - (lg_sl ([.ref h0, .int x0])).length) Slot.unset).toArray = ls at hl ⊢
  have hl : lv_has ls 2 [(0, .ref h0), (1, .int x0)] := hl
  refine lv_aload_n hx hb dJ5_append_3fe6f_0 rfl (lv_at hl 0 rfl) ?_
  refine lv_aload_n hx hb dJ5_append_3fe6f_1 rfl (lv_at hl 0 rfl) ?_
  refine va_get (D := (dC, dI)) (ci := 1) (v := .int 1) (C := RJ4) (T := TJ4) (N := 4) hx hb hta naJ4 hown hK hP 0 rfl rfl 3 (by decide) (hta _ wm290) (fun _ h9 => h9) rfl dJ5_append_3fe6f_2 ?_
  refine lv_iconst (v := 1) hx hb dJ5_append_3fe6f_5 (by decide) ?_
  refine lv_iadd hx hb dJ5_append_3fe6f_6 ?_
  refine lv_topi (fun y1 ey1 => ?_)
  obtain rfl : y1 = 2 := ey1.trans (by decide)
  have hPc := hP.sub (ws' := [(h0, .inr (1, [.ref h1, .int 0, v0, .int 1])), (h1, .inl (cc0, 16, .inl f0))]) [0, 1] rfl
  have hDc := hD.sub (ws' := [(h0, .inr (1, [.ref h1, .int 0, v0, .int 1])), (h1, .inl (cc0, 16, .inl f0))]) [0, 1] (by decide) rfl
  have hKc := hK.sub (tys' := [(cc0, .byte)]) [0] rfl
  have hFc := va_free (wc := [(h0, .inr (1, [.ref h1, .int 0, v0, .int 1])), (h1, .inl (cc0, 16, .inl f0))]) hD hS hA [0, 1] rfl
  refine va_callv (va_runU (As := [.int 2]) (rest := []) ⟨hx, hb, hml, hown, hts⟩ (kJ5_ensureCapacityInternal_d00df_2 l dC dI g s.heap.size h0 h1 v0 (.int 1) cc0 f0 hf0 ) (va_cwU 1 hts (ns_gp (List.forall_mem_cons.mpr ⟨wm294, (List.forall_mem_cons.mpr ⟨wm295, (List.forall_mem_cons.mpr ⟨wm296, (List.forall_mem_cons.mpr ⟨wm297, (List.forall_mem_cons.mpr ⟨wm144, (fun _ h9 => nomatch h9)⟩)⟩)⟩)⟩)⟩) wm291) rfl rfl rfl rfl (by decide +kernel) ⟨Nat.le_of_ble_eq_true rfl, Nat.le_of_ble_eq_true rfl⟩) ⟨fun a U gg mk q => by obtain ⟨q0, q1, qP, qK, qD, qF⟩ := q; exact ⟨q0, q1, qP, va_K.moved (u := U) (U := U.calling gg mk a) (Vm.Alike.refl U.vm) qK, qD, ns_same qF⟩, va_recv hK hP (ci := 1) (q0 := 0) rfl rfl, fun U hU hW => ⟨rfl, by rw [hU], by rw [hU]; exact hPc, va_K.moved hW.alike hKc, hDc.weaken (fun _ _ _ _ => trivial), ns_call hF hS hFc hU hW⟩⟩ rfl rfl hl.1 rfl (lv_room (Nat.le_of_ble_eq_true rfl)) dJ5_append_3fe6f_7 ⟨Nat.le_of_ble_eq_true rfl, Nat.le_of_ble_eq_true rfl⟩) hS (fun q _ h => hFc q h) hFc (fun u t H1 locs ht hvm hw hB hz1 hk1 hS => ?_)
  obtain ⟨hP1, hK1, hD1⟩ := hB
  rw [ht] at hP1
  have hK1 := va_K.moved hvm.symm hK1
  obtain ⟨hP, hD⟩ := va_join (wr := []) (w1 := [(h0, .inr (1, [.ref h1, .int 0, v0, .int 1])), (h1, .inl (cc0, 16, .inl f0))]) hP hD [0, 1] [] rfl rfl (by decide) (by decide) hk1 hFc hP1 hD1
  have hK := (hK.sub (tys' := []) [] rfl).app hK1
  generalize H1 = H at hP hS ⊢
  have hP : va_P (dC, dI) vwCl [(h0, .inr (1, [.ref h1, .int 0, v0, .int 1])), (h1, .inl (cc0, 16, .inl f0))] H := hP
  have hD : va_D A [(h0, .inr (1, [.ref h1, .int 0, v0, .int 1])), (h1, .inl (cc0, 16, .inl f0))] := hD
  have hK : va_K (dC, dI) vwCl [(cc0, .byte)] s := hK
  refine W.widen (k := 0) (n := 0) (Nat.le_of_ble_eq_true rfl) (Nat.le_of_ble_eq_true rfl) ?_
  refine lv_aload_n hx hb dJ5_append_3fe6f_10 rfl (lv_at hl 0 rfl) ?_
  have hPc := hP.sub (ws' := [(h0, .inr (1, [.ref h1, .int 0, v0, .int 1]))]) [0] rfl
  have hDc := hD.sub (ws' := [(h0, .inr (1, [.ref h1, .int 0, v0, .int 1]))]) [0] (by decide) rfl
  have hKc := hK.sub (tys' := []) [] rfl
  have hFc := va_free (wc := [(h0, .inr (1, [.ref h1, .int 0, v0, .int 1]))]) hD hS hA [0] rfl
  refine va_calli (va_runU (As := []) (rest := []) ⟨hx, hb, hml, hown, hts⟩ (kJ5_isLatin1_aae02 l dC dI g H.size h0 (.ref h1) v0 (.int 1) ) (va_cwU 0 hts (ns_gp (List.forall_mem_cons.mpr ⟨wm298, (List.forall_mem_cons.mpr ⟨wm299, (List.forall_mem_cons.mpr ⟨wm300, (List.forall_mem_cons.mpr ⟨wm301, (List.forall_mem_cons.mpr ⟨wm144, (fun _ h9 => nomatch h9)⟩)⟩)⟩)⟩)⟩) wm292) rfl rfl rfl rfl (by decide +kernel) ⟨Nat.le_of_ble_eq_true rfl, Nat.le_of_ble_eq_true rfl⟩) ⟨fun a U gg mk q => by obtain ⟨q0, q1, qP, qK, qD, qF⟩ := q; exact ⟨q0, q1, qP, va_K.moved (u := U) (U := U.calling gg mk a) (Vm.Alike.refl U.vm) qK, qD, ns_same qF⟩, va_recv hK hP (ci := 1) (q0 := 0) rfl rfl, fun U hU hW => ⟨rfl, by rw [hU], by rw [hU]; exact hPc, va_K.moved hW.alike hKc, hDc.weaken (fun _ _ _ _ => trivial), ns_call hF hS hFc hU hW⟩⟩ rfl rfl hl.1 rfl (lv_room (Nat.le_of_ble_eq_true rfl)) dJ5_append_3fe6f_11 ⟨Nat.le_of_ble_eq_true rfl, Nat.le_of_ble_eq_true rfl⟩) hS (fun q _ h => hFc q h) hFc (fun r9 u t H1 locs ht hvm hw hB hz1 hk1 hS => ?_)
  obtain rfl := hw.symm
  obtain ⟨hP1, hK1, hD1⟩ := hB
  rw [ht] at hP1
  have hK1 := va_K.moved hvm.symm hK1
  obtain ⟨hP, hD⟩ := va_join (wr := [(h1, .inl (cc0, 16, .inl f0))]) (w1 := [(h0, .inr (1, [.ref h1, .int 0, v0, .int 1]))]) hP hD [0] [1] rfl rfl (by decide) (by decide) hk1 hFc hP1 hD1
  have hK := (hK.sub (tys' := [(cc0, .byte)]) [0] rfl).app hK1
  generalize H1 = H at hP hS ⊢
  have hP : va_P (dC, dI) vwCl [(h1, .inl (cc0, 16, .inl f0)), (h0, .inr (1, [.ref h1, .int 0, v0, .int 1]))] H := hP
  have hD : va_D A [(h1, .inl (cc0, 16, .inl f0)), (h0, .inr (1, [.ref h1, .int 0, v0, .int 1]))] := hD
  have hK : va_K (dC, dI) vwCl [(cc0, .byte)] s := hK
  refine W.widen (k := 0) (n := 0) (Nat.le_of_ble_eq_true rfl) (Nat.le_of_ble_eq_true rfl) ?_
  refine lv_if_eq (tgt := 45) hx hb dJ5_append_3fe6f_14 (by decide) (fun c2 => absurd c2 (by decide)) (fun c2 => ?_)
  refine lv_iload_n hx hb dJ5_append_3fe6f_17 rfl (lv_at hl 1 rfl) ?_
  have hPc := hP.sub (ws' := []) [] rfl
  have hDc := hD.sub (ws' := []) [] (by decide) rfl
  have hKc := hK.sub (tys' := []) [] rfl
  have hFc := va_free (wc := []) hD hS hA [] rfl
  refine va_calli (va_runS (As := [.int x0]) (rest := []) ⟨hx, hb, hml, hown, hts⟩ (kJ1_canEncode_fc78d l dC dI g H.size x0 ⟨by omega, by omega⟩) (va_cwS 1 hts (ns_gp (List.forall_mem_cons.mpr ⟨wm303, (List.forall_mem_cons.mpr ⟨wm304, (List.forall_mem_cons.mpr ⟨wm302, (fun _ h9 => nomatch h9)⟩)⟩)⟩) wm293) rfl rfl rfl (by decide +kernel) ⟨Nat.le_of_ble_eq_true rfl, Nat.le_of_ble_eq_true rfl⟩) ⟨fun a U gg mk q => by obtain ⟨q0, q1, qP, qK, qD, qF⟩ := q; exact ⟨q0, q1, qP, va_K.moved (u := U) (U := U.calling gg mk a) (Vm.Alike.refl U.vm) qK, qD, ns_same qF⟩, fun U hU hW => ⟨rfl, by rw [hU], by rw [hU]; exact hPc, va_K.moved hW.alike hKc, hDc.weaken (fun _ _ _ _ => trivial), ns_call hF hS hFc hU hW⟩⟩ rfl rfl hl.1 rfl (lv_room (Nat.le_of_ble_eq_true rfl)) dJ5_append_3fe6f_18 ⟨Nat.le_of_ble_eq_true rfl, Nat.le_of_ble_eq_true rfl⟩) hS (fun q _ h => hFc q h) hFc (fun r9 u t H1 locs ht hvm hw hB hz1 hk1 hS => ?_)
  obtain rfl := hw.symm
  obtain ⟨hP1, hK1, hD1⟩ := hB
  rw [ht] at hP1
  have hK1 := va_K.moved hvm.symm hK1
  obtain ⟨hP, hD⟩ := va_join (wr := [(h1, .inl (cc0, 16, .inl f0)), (h0, .inr (1, [.ref h1, .int 0, v0, .int 1]))]) (w1 := []) hP hD [] [0, 1] rfl rfl (by decide) (by decide) hk1 hFc hP1 hD1
  have hK := (hK.sub (tys' := [(cc0, .byte)]) [0] rfl).app hK1
  generalize H1 = H at hP hS ⊢
  have hP : va_P (dC, dI) vwCl [(h1, .inl (cc0, 16, .inl f0)), (h0, .inr (1, [.ref h1, .int 0, v0, .int 1]))] H := hP
  have hD : va_D A [(h1, .inl (cc0, 16, .inl f0)), (h0, .inr (1, [.ref h1, .int 0, v0, .int 1]))] := hD
  have hK : va_K (dC, dI) vwCl [(cc0, .byte)] s := hK
  refine W.widen (k := 0) (n := 0) (Nat.le_of_ble_eq_true rfl) (Nat.le_of_ble_eq_true rfl) ?_
  refine lv_if_eq (tgt := 45) hx hb dJ5_append_3fe6f_21 (by decide) (fun c3 => absurd c3 (by decide)) (fun c3 => ?_)
  refine lv_aload_n hx hb dJ5_append_3fe6f_24 rfl (lv_at hl 0 rfl) ?_
  refine va_get (D := (dC, dI)) (ci := 1) (v := .ref h1) (C := RJ4) (T := TJ4) (N := 4) hx hb hta naJ4 hown hK hP 1 rfl rfl 0 (by decide) (hta _ wm141) (fun _ h9 => h9) rfl dJ5_append_3fe6f_25 ?_
  refine lv_aload_n hx hb dJ5_append_3fe6f_28 rfl (lv_at hl 0 rfl) ?_
  refine lv_dup hx hb dJ5_append_3fe6f_29 rfl ?_
  refine va_get (D := (dC, dI)) (ci := 1) (v := .int 1) (C := RJ4) (T := TJ4) (N := 4) hx hb hta naJ4 hown hK hP 1 rfl rfl 3 (by decide) (hta _ wm290) (fun _ h9 => h9) rfl dJ5_append_3fe6f_30 ?_
  refine lv_dup_x1 hx hb dJ5_append_3fe6f_33 rfl rfl ?_
  refine lv_iconst (v := 1) hx hb dJ5_append_3fe6f_34 (by decide) ?_
  refine lv_iadd hx hb dJ5_append_3fe6f_35 ?_
  refine lv_topi (fun y4 ey4 => ?_)
  obtain rfl : y4 = 2 := ey4.trans (by decide)
  refine va_put (D := (dC, dI)) (ci := 1) (v := .int 2) (ty := .int) (C := RJ4) (T := TJ4) (N := 4) hx hb hta naJ4 tyJ4 tyJ4_ok nmJ4 hown hK hP hD hS 1 rfl rfl 3 (by decide) (hta _ wm290) (fun _ h9 => h9) rfl (by decide +kernel) rfl rfl (Nat.le_of_ble_eq_true rfl) dJ5_append_3fe6f_36 (fun H locs hP hD hS => ?_)
  have hP : va_P (dC, dI) vwCl [(h1, .inl (cc0, 16, .inl f0)), (h0, .inr (1, [.ref h1, .int 0, v0, .int 2]))] H := hP
  have hD : va_D A [(h1, .inl (cc0, 16, .inl f0)), (h0, .inr (1, [.ref h1, .int 0, v0, .int 2]))] := hD
  refine lv_iload_n hx hb dJ5_append_3fe6f_39 rfl (lv_at hl 1 rfl) ?_
  refine lv_i2b (v := x0.toInt8.toInt32) hx hb dJ5_append_3fe6f_40 rfl ?_
  refine va_bast hx hb hK hP hD hS 0 0 rfl rfl (vp_in_nI (n := 1) (by decide) (by decide)) dJ5_append_3fe6f_41 (fun H locs hP hD hS => ?_)
  have hP : va_P (dC, dI) vwCl [(h1, .inl (cc0, 16, .inl (upd (f0) 1 (vp_nar .byte x0.toInt8.toInt32)))), (h0, .inr (1, [.ref h1, .int 0, v0, .int 2]))] H := hP
  have hD : va_D A [(h1, .inl (cc0, 16, .inl (upd (f0) 1 (vp_nar .byte x0.toInt8.toInt32)))), (h0, .inr (1, [.ref h1, .int 0, v0, .int 2]))] := hD
  refine lv_goto (tgt := 75) hx hb dJ5_append_3fe6f_42 (by decide) ?_
  refine lv_aload_n hx hb dJ5_append_3fe6f_75 rfl (lv_at hl 0 rfl) ?_
  have hP9 := hP.sub (ws' := [(h1, .inl (cc0, 16, .inl (upd (f0) 1 (vp_nar .byte x0.toInt8.toInt32)))), (h0, .inr (1, [.ref h1, .int 0, v0, .int 2]))]) [0, 1] rfl
  have hD9 := hD.sub (ws' := [(h1, .inl (cc0, 16, .inl (upd (f0) 1 (vp_nar .byte x0.toInt8.toInt32)))), (h0, .inr (1, [.ref h1, .int 0, v0, .int 2]))]) [0, 1] (by decide) rfl
  have hK9 := hK.sub (tys' := [(cc0, .byte)]) [0] rfl
  refine W.widen (k := 0) (n := 0) (Nat.le_of_ble_eq_true rfl) (Nat.le_of_ble_eq_true rfl) ?_
  exact W.aret (v := .ref h0) hx hb hr (by first | exact Or.inl ⟨_, rfl⟩ | exact Or.inr ⟨_, rfl⟩) (Or.inr ⟨_, rfl⟩) (fun t ht hW => ⟨⟨(), _, rfl, trivial, rfl, by rw [ht]; exact hP9, va_K.moved hW.alike hK9, hD9⟩, hS.F ht⟩) hS.2.2 dJ5_append_3fe6f_76
set_option maxHeartbeats 4000000 in
set_option maxRecDepth 100000 in
theorem kX6_init (l : Launch) (dC : Nat → ClassId) (dI : Nat → Nat → Nat) (g : Nat → Nat) (sz : Nat) (h0 : Nat) (h1 : Nat) (h2 : Nat) (h3 : Nat) (h4 : Nat) (v0 : Value) (v1 : Value) (v2 : Value) (v3 : Value) (v4 : Value) : Met l yX6_init wbX6_init ({ frames := 2, cells := 2, slots := 6002, locals := 33 }) (va_Pc [.ref h0, .ref h1, .ref h2, .ref h3, .ref h4] (fun U => U.heap.size = sz ∧ va_P (dC, dI) vwCl [(h0, .inr (13, [v0, v1, v2, v3, v4]))] U.heap ∧ va_K (dC, dI) vwCl [] U ∧ va_D (fun _ => True) [(h0, .inr (13, [v0, v1, v2, v3, v4]))] ∧ ns_F g (va_A [(h0, .inr (13, [v0, v1, v2, v3, v4]))] sz) U U.heap)) (va_Qv (fun _ : Unit => True) (fun _ t => ∃ k0 : Nat, va_P (dC, dI) vwCl [(h0, .inr (13, [.ref h1, .ref h2, .ref h3, .ref h4, .ref k0]))] t.heap ∧ va_K (dC, dI) vwCl [] t ∧ va_D (va_A [(h0, .inr (13, [v0, v1, v2, v3, v4]))] sz) [(h0, .inr (13, [.ref h1, .ref h2, .ref h3, .ref h4, .ref k0]))]) (va_A [(h0, .inr (13, [v0, v1, v2, v3, v4]))] sz)) 2 6002 (va_A [(h0, .inr (13, [v0, v1, v2, v3, v4]))] sz) := by
  refine Met.ofW (cc := cX6_init) (maxL := 5) (ret := none) (by decide) rfl ?_
  intro p e s m args below meth c s₁ B hml hv
  obtain ⟨rfl, hsz, hP, hK, hD0, hF⟩ := hv
  have hx := B.exec
  have hb := B.bytes
  have hr := B.returns
  have hts := atoms_spec (ws := wbX6_init) B.pre
  have hta : ∀ w ∈ wsALL, w.before _ s = true := fun w h => hts w (List.mem_cons_of_mem _ h)
  have hown : s.vm.findClass RX6 = some m.cls := findClass_of_methodNamed B.named
  have hlocks := B.notSynchronized
  have hin : meth.name = "<init>" := (name_of_methodNamed B.named B.method).1
  subst hsz
  have hD := hD0.self (sz := s.heap.size)
  generalize hAe : va_A [(h0, .inr (13, [v0, v1, v2, v3, v4]))] s.heap.size = A at hD hF ⊢
  have hA : ∀ q : Nat, s.heap.size ≤ q → A q := fun q h => by rw [← hAe]; exact Or.inr h
  have hS : va_S A s.heap s.heap [] := va_S.rf
  have hP : va_P (dC, dI) vwCl [(h0, .inr (13, [v0, v1, v2, v3, v4]))] s.heap := hP
  have hl := lv_entry ([.ref h0, .ref h1, .ref h2, .ref h3, .ref h4]) (n := 5) (Nat.le_of_ble_eq_true rfl)
  rw [lg_entry_eq]
  generalize (lg_sl ([.ref h0, .ref h1, .ref h2, .ref h3, .ref h4]) ++ List.replicate (5 - (lg_sl ([.ref h0, .ref h1, .ref h2, .ref h3, .ref h4])).length) Slot.unset).toArray = ls at hl ⊢
  have hl : lv_has ls 5 [(0, .ref h0), (1, .ref h1), (2, .ref h2), (3, .ref h3), (4, .ref h4)] := hl
  refine lv_aload_n hx hb dX6_init_0 rfl (lv_at hl 0 rfl) ?_
  refine W.objInit hx hb hown (hta _ wm125) (hta _ wm4) (hta _ wm5) rfl (by rw [hml]; exact hl.1) rfl dX6_init_1 (Nat.le_of_ble_eq_true rfl) (Nat.le_of_ble_eq_true rfl) ?_
  refine W.eq (g2 := F0 m 4 ls []) rfl ?_
  refine lv_aload_n hx hb dX6_init_4 rfl (lv_at hl 0 rfl) ?_
  refine va_new (ci := 11) (fs := [.null, .int 0]) (C := RX4) (T := TX4) (N := 2) hx hb hta naX4 tyX4 tyX4_ok hown (hta _ wm126) (hta _ wm11) (hta _ wm12) hK hP hD hS hA rfl (fun j hj => by rcases (show j = 0 ∨ j = 1 by omega) with rfl | rfl <;> rfl) (Nat.le_of_ble_eq_true rfl) (Nat.le_of_ble_eq_true rfl) dX6_init_5 (fun q1 H hP hD hS => ?_)
  have hP : va_P (dC, dI) vwCl [(h0, .inr (13, [v0, v1, v2, v3, v4])), (q1, .inr (11, [.null, .int 0]))] H := hP
  have hD : va_D A [(h0, .inr (13, [v0, v1, v2, v3, v4])), (q1, .inr (11, [.null, .int 0]))] := hD
  refine W.widen (k := 1) (n := 2) (Nat.le_of_ble_eq_true rfl) (Nat.le_of_ble_eq_true rfl) ?_
  refine lv_dup hx hb dX6_init_8 rfl ?_
  refine lv_sipush (v := 6000) hx hb dX6_init_9 (by decide) ?_
  have hPc := hP.sub (ws' := [(q1, .inr (11, [.null, .int 0]))]) [1] rfl
  have hDc := hD.sub (ws' := [(q1, .inr (11, [.null, .int 0]))]) [1] (by decide) rfl
  have hKc := hK.sub (tys' := []) [] rfl
  have hFc := va_free (wc := [(q1, .inr (11, [.null, .int 0]))]) hD hS hA [1] rfl
  refine va_callv (va_runI (As := [.int 6000]) (rest := [.ref q1, .ref h0]) ⟨hx, hb, hml, hown, hts⟩ (kX4_init_10 l dC dI g H.size q1 .null (.int 0) ) (cwI 1 hts (ns_g0 wm17) rfl rfl rfl (hta _ wm12) (hta _ wm132) (hta _ wm28) rfl (by decide +kernel) ⟨Nat.le_of_ble_eq_true rfl, Nat.le_of_ble_eq_true rfl⟩) ⟨fun a U gg mk q => by obtain ⟨q0, q1, qP, qK, qD, qF⟩ := q; exact ⟨q0, q1, qP, va_K.moved (u := U) (U := U.calling gg mk a) (Vm.Alike.refl U.vm) qK, qD, ns_same qF⟩, fun U hU hW => ⟨rfl, by rw [hU], by rw [hU]; exact hPc, va_K.moved hW.alike hKc, hDc.weaken (fun _ _ _ _ => trivial), ns_call hF hS hFc hU hW⟩⟩ rfl rfl hl.1 rfl (lv_room (Nat.le_of_ble_eq_true rfl)) dX6_init_12 ⟨Nat.le_of_ble_eq_true rfl, Nat.le_of_ble_eq_true rfl⟩) hS (fun q _ h => hFc q h) hFc (fun u t H1 locs ht hvm hw hB hz1 hk1 hS => ?_)
  obtain ⟨q2, cy3, hP1, hK1, hD1⟩ := hB
  rw [ht] at hP1
  have hK1 := va_K.moved hvm.symm hK1
  obtain ⟨hP, hD⟩ := va_join (wr := [(h0, .inr (13, [v0, v1, v2, v3, v4]))]) (w1 := [(q1, .inr (11, [.ref q2, .int 0])), (q2, .inl (cy3, 6000, .inl (fun _ => 0)))]) hP hD [1] [0] rfl rfl (by decide) (by decide) hk1 hFc hP1 hD1
  have hK := (hK.sub (tys' := []) [] rfl).app hK1
  generalize H1 = H at hP hS ⊢
  have hP : va_P (dC, dI) vwCl [(h0, .inr (13, [v0, v1, v2, v3, v4])), (q1, .inr (11, [.ref q2, .int 0])), (q2, .inl (cy3, 6000, .inl (fun _ => 0)))] H := hP
  have hD : va_D A [(h0, .inr (13, [v0, v1, v2, v3, v4])), (q1, .inr (11, [.ref q2, .int 0])), (q2, .inl (cy3, 6000, .inl (fun _ => 0)))] := hD
  have hK : va_K (dC, dI) vwCl [(cy3, .int)] s := hK
  refine W.widen (k := 2) (n := 6002) (Nat.le_of_ble_eq_true rfl) (Nat.le_of_ble_eq_true rfl) ?_
  refine va_putF (D := (dC, dI)) (ci := 13) (v := .ref q1) (ty := .object "Nestprint$Row") (C := RX6) (T := TX6) (N := 5) hx hb hta naX6 tyX6 tyX6_ok nmX6 hown hK hP hD hS 0 rfl rfl 4 (by decide) (hta _ wm127) (fun _ h9 => h9) rfl hin rfl (by decide +kernel) rfl rfl (Nat.le_of_ble_eq_true rfl) dX6_init_15 (fun H locs hP hD hS => ?_)
  have hP : va_P (dC, dI) vwCl [(h0, .inr (13, [v0, v1, v2, v3, .ref q1])), (q1, .inr (11, [.ref q2, .int 0])), (q2, .inl (cy3, 6000, .inl (fun _ => 0)))] H := hP
  have hD : va_D A [(h0, .inr (13, [v0, v1, v2, v3, .ref q1])), (q1, .inr (11, [.ref q2, .int 0])), (q2, .inl (cy3, 6000, .inl (fun _ => 0)))] := hD
  refine lv_aload_n hx hb dX6_init_18 rfl (lv_at hl 0 rfl) ?_
  refine lv_aload_n hx hb dX6_init_19 rfl (lv_at hl 1 rfl) ?_
  refine va_putF (D := (dC, dI)) (ci := 13) (v := .ref h1) (ty := .object "Nestprint$Nodes") (C := RX6) (T := TX6) (N := 5) hx hb hta naX6 tyX6 tyX6_ok nmX6 hown hK hP hD hS 0 rfl rfl 0 (by decide) (hta _ wm128) (fun _ h9 => h9) rfl hin rfl (by decide +kernel) rfl rfl (Nat.le_of_ble_eq_true rfl) dX6_init_20 (fun H locs hP hD hS => ?_)
  have hP : va_P (dC, dI) vwCl [(h0, .inr (13, [.ref h1, v1, v2, v3, .ref q1])), (q1, .inr (11, [.ref q2, .int 0])), (q2, .inl (cy3, 6000, .inl (fun _ => 0)))] H := hP
  have hD : va_D A [(h0, .inr (13, [.ref h1, v1, v2, v3, .ref q1])), (q1, .inr (11, [.ref q2, .int 0])), (q2, .inl (cy3, 6000, .inl (fun _ => 0)))] := hD
  refine lv_aload_n hx hb dX6_init_23 rfl (lv_at hl 0 rfl) ?_
  refine lv_aload_n hx hb dX6_init_24 rfl (lv_at hl 2 rfl) ?_
  refine va_putF (D := (dC, dI)) (ci := 13) (v := .ref h2) (ty := .object "Nestprint$CodeReader") (C := RX6) (T := TX6) (N := 5) hx hb hta naX6 tyX6 tyX6_ok nmX6 hown hK hP hD hS 0 rfl rfl 1 (by decide) (hta _ wm129) (fun _ h9 => h9) rfl hin rfl (by decide +kernel) rfl rfl (Nat.le_of_ble_eq_true rfl) dX6_init_25 (fun H locs hP hD hS => ?_)
  have hP : va_P (dC, dI) vwCl [(h0, .inr (13, [.ref h1, .ref h2, v2, v3, .ref q1])), (q1, .inr (11, [.ref q2, .int 0])), (q2, .inl (cy3, 6000, .inl (fun _ => 0)))] H := hP
  have hD : va_D A [(h0, .inr (13, [.ref h1, .ref h2, v2, v3, .ref q1])), (q1, .inr (11, [.ref q2, .int 0])), (q2, .inl (cy3, 6000, .inl (fun _ => 0)))] := hD
  refine lv_aload_n hx hb dX6_init_28 rfl (lv_at hl 0 rfl) ?_
  refine lv_aload_n hx hb dX6_init_29 rfl (lv_at hl 3 rfl) ?_
  refine va_putF (D := (dC, dI)) (ci := 13) (v := .ref h3) (ty := .object "Nestprint$Layout") (C := RX6) (T := TX6) (N := 5) hx hb hta naX6 tyX6 tyX6_ok nmX6 hown hK hP hD hS 0 rfl rfl 2 (by decide) (hta _ wm130) (fun _ h9 => h9) rfl hin rfl (by decide +kernel) rfl rfl (Nat.le_of_ble_eq_true rfl) dX6_init_30 (fun H locs hP hD hS => ?_)
  have hP : va_P (dC, dI) vwCl [(h0, .inr (13, [.ref h1, .ref h2, .ref h3, v3, .ref q1])), (q1, .inr (11, [.ref q2, .int 0])), (q2, .inl (cy3, 6000, .inl (fun _ => 0)))] H := hP
  have hD : va_D A [(h0, .inr (13, [.ref h1, .ref h2, .ref h3, v3, .ref q1])), (q1, .inr (11, [.ref q2, .int 0])), (q2, .inl (cy3, 6000, .inl (fun _ => 0)))] := hD
  refine lv_aload_n hx hb dX6_init_33 rfl (lv_at hl 0 rfl) ?_
  refine lv_aload hx hb dX6_init_34 (lv_at hl 4 rfl) ?_
  refine va_putF (D := (dC, dI)) (ci := 13) (v := .ref h4) (ty := .object "Nestprint$Layout") (C := RX6) (T := TX6) (N := 5) hx hb hta naX6 tyX6 tyX6_ok nmX6 hown hK hP hD hS 0 rfl rfl 3 (by decide) (hta _ wm131) (fun _ h9 => h9) rfl hin rfl (by decide +kernel) rfl rfl (Nat.le_of_ble_eq_true rfl) dX6_init_36 (fun H locs hP hD hS => ?_)
  have hP : va_P (dC, dI) vwCl [(h0, .inr (13, [.ref h1, .ref h2, .ref h3, .ref h4, .ref q1])), (q1, .inr (11, [.ref q2, .int 0])), (q2, .inl (cy3, 6000, .inl (fun _ => 0)))] H := hP
  have hD : va_D A [(h0, .inr (13, [.ref h1, .ref h2, .ref h3, .ref h4, .ref q1])), (q1, .inr (11, [.ref q2, .int 0])), (q2, .inl (cy3, 6000, .inl (fun _ => 0)))] := hD
  have hP9 := hP.sub (ws' := [(h0, .inr (13, [.ref h1, .ref h2, .ref h3, .ref h4, .ref q1]))]) [0] rfl
  have hD9 := hD.sub (ws' := [(h0, .inr (13, [.ref h1, .ref h2, .ref h3, .ref h4, .ref q1]))]) [0] (by decide) rfl
  have hK9 := hK.sub (tys' := []) [] rfl
  refine W.widen (k := 2) (n := 6002) (Nat.le_of_ble_eq_true rfl) (Nat.le_of_ble_eq_true rfl) ?_
  exact W.vret hx hb hr (fun t ht hW => ⟨⟨(), rfl, trivial, q1, by rw [ht]; exact hP9, va_K.moved hW.alike hK9, hD9⟩, hS.F ht⟩) hS.2.2 dX6_init_39
set_option maxHeartbeats 4000000 in
set_option maxRecDepth 100000 in
theorem kJ7_copyOfRangeByte_39247_6 (l : Launch) (dC : Nat → ClassId) (dI : Nat → Nat → Nat) (g : Nat → Nat) (sz : Nat) (h0 : Nat) (cc0 : ClassId) (f0 : Nat → Int32) (hf0 : sb_Fit f0) : Met l yJ7_copyOfRangeByte_39247 wbJ7_copyOfRangeByte_39247 ({ frames := 1, cells := 1, slots := 6, locals := 40 }) (va_Pc [.ref h0, .int 0, .int 6] (fun U => U.heap.size = sz ∧ va_P (dC, dI) vwCl [(h0, .inl (cc0, 16, .inl f0))] U.heap ∧ va_K (dC, dI) vwCl [(cc0, .byte)] U ∧ va_D (fun _ => True) [(h0, .inl (cc0, 16, .inl f0))] ∧ ns_F g (va_A [(h0, .inl (cc0, 16, .inl f0))] sz) U U.heap)) (va_Qr (fun _ : Unit => True) (fun _ r t => ∃ k0 : Nat, ∃ kc1 : ClassId, r = k0 ∧ va_P (dC, dI) vwCl [(h0, .inl (cc0, 16, .inl f0)), (k0, .inl (kc1, 6, .inl (va_cpy (f0) (fun _ => 0) 0 0 6)))] t.heap ∧ va_K (dC, dI) vwCl [(cc0, .byte), (kc1, .byte)] t ∧ va_D (va_A [(h0, .inl (cc0, 16, .inl f0))] sz) [(h0, .inl (cc0, 16, .inl f0)), (k0, .inl (kc1, 6, .inl (va_cpy (f0) (fun _ => 0) 0 0 6)))]) (va_A [(h0, .inl (cc0, 16, .inl f0))] sz)) 1 6 (va_A [(h0, .inl (cc0, 16, .inl f0))] sz) := by
  refine Met.ofW (cc := cJ7_copyOfRangeByte_39247) (maxL := 5) (ret := (some (.array .byte))) (by decide) rfl ?_
  intro p e s m args below meth c s₁ B hml hv
  obtain ⟨rfl, hsz, hP, hK, hD0, hF⟩ := hv
  have hx := B.exec
  have hb := B.bytes
  have hr := B.returns
  have hts := atoms_spec (ws := wbJ7_copyOfRangeByte_39247) B.pre
  have hta : ∀ w ∈ wsALL, w.before _ s = true := fun w h => hts w (List.mem_cons_of_mem _ h)
  have hown : s.vm.findClass RJ7 = some m.cls := findClass_of_methodNamed B.named
  have hlocks := B.notSynchronized
  subst hsz
  have hD := hD0.self (sz := s.heap.size)
  generalize hAe : va_A [(h0, .inl (cc0, 16, .inl f0))] s.heap.size = A at hD hF ⊢
  have hA : ∀ q : Nat, s.heap.size ≤ q → A q := fun q h => by rw [← hAe]; exact Or.inr h
  have hS : va_S A s.heap s.heap [] := va_S.rf
  have hP : va_P (dC, dI) vwCl [(h0, .inl (cc0, 16, .inl f0))] s.heap := hP
  have hl := lv_entry ([.ref h0, .int 0, .int 6]) (n := 5) (Nat.le_of_ble_eq_true rfl)
  rw [lg_entry_eq]
  generalize (lg_sl ([.ref h0, .int 0, .int 6]) ++ List.replicate (5 - (lg_sl ([.ref h0, .int 0, .int 6])).length) Slot.unset).toArray = ls at hl ⊢
  have hl : lv_has ls 5 [(0, .ref h0), (1, .int 0), (2, .int 6)] := hl
  refine lv_iload_n hx hb dJ7_copyOfRangeByte_39247_0 rfl (lv_at hl 1 rfl) ?_
  refine lv_iload_n hx hb dJ7_copyOfRangeByte_39247_1 rfl (lv_at hl 2 rfl) ?_
  have hPc := hP.sub (ws' := []) [] rfl
  have hDc := hD.sub (ws' := []) [] (by decide) rfl
  have hKc := hK.sub (tys' := []) [] rfl
  have hFc := va_free (wc := []) hD hS hA [] rfl
  refine va_callv (va_runS (As := [.int 0, .int 6]) (rest := []) ⟨hx, hb, hml, hown, hts⟩ (kJ7_checkLength_df160_6 l dC dI g s.heap.size  ) (va_cwS 2 hts (ns_gp (List.forall_mem_cons.mpr ⟨wm335, (List.forall_mem_cons.mpr ⟨wm336, (List.forall_mem_cons.mpr ⟨wm334, (fun _ h9 => nomatch h9)⟩)⟩)⟩) wm325) rfl rfl rfl (by decide +kernel) ⟨Nat.le_of_ble_eq_true rfl, Nat.le_of_ble_eq_true rfl⟩) ⟨fun a U gg mk q => by obtain ⟨q0, q1, qP, qK, qD, qF⟩ := q; exact ⟨q0, q1, qP, va_K.moved (u := U) (U := U.calling gg mk a) (Vm.Alike.refl U.vm) qK, qD, ns_same qF⟩, fun U hU hW => ⟨rfl, by rw [hU], by rw [hU]; exact hPc, va_K.moved hW.alike hKc, hDc.weaken (fun _ _ _ _ => trivial), ns_call hF hS hFc hU hW⟩⟩ rfl rfl hl.1 rfl (lv_room (Nat.le_of_ble_eq_true rfl)) dJ7_copyOfRangeByte_39247_2 ⟨Nat.le_of_ble_eq_true rfl, Nat.le_of_ble_eq_true rfl⟩) hS (fun q _ h => hFc q h) hFc (fun u t H1 locs ht hvm hw hB hz1 hk1 hS => ?_)
  obtain ⟨hP1, hK1, hD1⟩ := hB
  rw [ht] at hP1
  have hK1 := va_K.moved hvm.symm hK1
  obtain ⟨hP, hD⟩ := va_join (wr := [(h0, .inl (cc0, 16, .inl f0))]) (w1 := []) hP hD [] [0] rfl rfl (by decide) (by decide) hk1 hFc hP1 hD1
  have hK := (hK.sub (tys' := [(cc0, .byte)]) [0] rfl).app hK1
  generalize H1 = H at hP hS ⊢
  have hP : va_P (dC, dI) vwCl [(h0, .inl (cc0, 16, .inl f0))] H := hP
  have hD : va_D A [(h0, .inl (cc0, 16, .inl f0))] := hD
  have hK : va_K (dC, dI) vwCl [(cc0, .byte)] s := hK
  refine W.widen (k := 0) (n := 0) (Nat.le_of_ble_eq_true rfl) (Nat.le_of_ble_eq_true rfl) ?_
  refine lv_iload_n hx hb dJ7_copyOfRangeByte_39247_5 rfl (lv_at hl 2 rfl) ?_
  refine lv_iload_n hx hb dJ7_copyOfRangeByte_39247_6 rfl (lv_at hl 1 rfl) ?_
  refine lv_isub hx hb dJ7_copyOfRangeByte_39247_7 ?_
  refine lv_topi (fun y1 ey1 => ?_)
  obtain rfl : y1 = 6 := ey1.trans (by decide)
  refine lv_istore_n (lv' := [(3, .int 6), (0, .ref h0), (1, .int 0), (2, .int 6)]) hx hb dJ7_copyOfRangeByte_39247_8 rfl hl (by decide) rfl (fun ls hl => ?_)
  refine lv_iload_n hx hb dJ7_copyOfRangeByte_39247_9 rfl (lv_at hl 0 rfl) ?_
  refine va_newa (atype := .byte) hx hb (hta _ wm140) rfl hK hP hD hS hA (N' := 6) (a0 := (6, .inl (fun _ => 0))) (fun _ => rfl) (by decide) (by decide) (Nat.le_of_ble_eq_true rfl) (Nat.le_of_ble_eq_true rfl) (Nat.le_of_ble_eq_true rfl) dJ7_copyOfRangeByte_39247_10 (fun q2 cyq2 H hK hP hD hS => ?_)
  have hP : va_P (dC, dI) vwCl [(h0, .inl (cc0, 16, .inl f0)), (q2, .inl (cyq2, 6, .inl (fun _ => 0)))] H := hP
  have hD : va_D A [(h0, .inl (cc0, 16, .inl f0)), (q2, .inl (cyq2, 6, .inl (fun _ => 0)))] := hD
  have hK : va_K (dC, dI) vwCl [(cc0, .byte), (cyq2, .byte)] s := hK
  refine W.widen (k := 1) (n := 6) (Nat.le_of_ble_eq_true rfl) (Nat.le_of_ble_eq_true rfl) ?_
  refine lv_astore (lv' := [(4, .ref q2), (3, .int 6), (0, .ref h0), (1, .int 0), (2, .int 6)]) hx hb dJ7_copyOfRangeByte_39247_12 hl (by decide) rfl (fun ls hl => ?_)
  refine lv_aload_n hx hb dJ7_copyOfRangeByte_39247_14 rfl (lv_at hl 2 rfl) ?_
  refine lv_iload_n hx hb dJ7_copyOfRangeByte_39247_15 rfl (lv_at hl 3 rfl) ?_
  refine lv_aload hx hb dJ7_copyOfRangeByte_39247_16 (lv_at hl 0 rfl) ?_
  refine lv_iconst (v := 0) hx hb dJ7_copyOfRangeByte_39247_18 (by decide) ?_
  refine lv_aload_n hx hb dJ7_copyOfRangeByte_39247_19 rfl (lv_at hl 2 rfl) ?_
  refine va_alen (v := 16) hx hb hK hP 0 0 rfl rfl (show Int32.ofNat 16 = 16 by decide) dJ7_copyOfRangeByte_39247_20 ?_
  refine lv_iload_n hx hb dJ7_copyOfRangeByte_39247_21 rfl (lv_at hl 3 rfl) ?_
  refine lv_isub hx hb dJ7_copyOfRangeByte_39247_22 ?_
  refine lv_topi (fun y3 ey3 => ?_)
  obtain rfl : y3 = 16 := ey3.trans (by decide)
  refine lv_iload_n hx hb dJ7_copyOfRangeByte_39247_23 rfl (lv_at hl 1 rfl) ?_
  refine va_mmin hx hb (by rw [hml]; exact hl.1.symm) hown (hta _ wm326) (hta _ wm327) (hta _ wm328) (hta _ wm329) (Nat.le_of_ble_eq_true rfl) (Nat.le_of_ble_eq_true rfl) (Nat.le_of_ble_eq_true rfl) (Nat.le_of_ble_eq_true rfl) dJ7_copyOfRangeByte_39247_24 ?_
  refine lv_topi (fun y4 ey4 => ?_)
  obtain rfl : y4 = 6 := ey4.trans (by decide)
  refine va_copyi hx hb (by rw [hml]; exact hl.1.symm) hown (hta _ wm330) (hta _ wm331) (hta _ wm332) (hta _ wm333) hK hP hD hS 0 1 0 1 rfl rfl rfl rfl rfl (by decide) (by decide) (by decide) (Nat.le_of_ble_eq_true rfl) (Nat.le_of_ble_eq_true rfl) (fun i h => hf0 _) (Nat.le_of_ble_eq_true rfl) (Nat.le_of_ble_eq_true rfl) dJ7_copyOfRangeByte_39247_27 (fun H locs hP hD hS => ?_)
  have hP : va_P (dC, dI) vwCl [(h0, .inl (cc0, 16, .inl f0)), (q2, .inl (cyq2, 6, .inl (va_cpy (f0) (fun _ => 0) 0 0 6)))] H := hP
  have hD : va_D A [(h0, .inl (cc0, 16, .inl f0)), (q2, .inl (cyq2, 6, .inl (va_cpy (f0) (fun _ => 0) 0 0 6)))] := hD
  refine lv_aload hx hb dJ7_copyOfRangeByte_39247_30 (lv_at hl 0 rfl) ?_
  have hP9 := hP.sub (ws' := [(h0, .inl (cc0, 16, .inl f0)), (q2, .inl (cyq2, 6, .inl (va_cpy (f0) (fun _ => 0) 0 0 6)))]) [0, 1] rfl
  have hD9 := hD.sub (ws' := [(h0, .inl (cc0, 16, .inl f0)), (q2, .inl (cyq2, 6, .inl (va_cpy (f0) (fun _ => 0) 0 0 6)))]) [0, 1] (by decide) rfl
  have hK9 := hK.sub (tys' := [(cc0, .byte), (cyq2, .byte)]) [0, 1] rfl
  refine W.widen (k := 1) (n := 6) (Nat.le_of_ble_eq_true rfl) (Nat.le_of_ble_eq_true rfl) ?_
  exact W.aret (v := .ref q2) hx hb hr (by first | exact Or.inl ⟨_, rfl⟩ | exact Or.inr ⟨_, rfl⟩) (Or.inr ⟨_, rfl⟩) (fun t ht hW => ⟨⟨(), _, rfl, trivial, q2, cyq2, rfl, by rw [ht]; exact hP9, va_K.moved hW.alike hK9, hD9⟩, hS.F ht⟩) hS.2.2 dJ7_copyOfRangeByte_39247_32
set_option maxHeartbeats 4000000 in
set_option maxRecDepth 100000 in
theorem kJ0_getBytes_840e7_6 (l : Launch) (dC : Nat → ClassId) (dI : Nat → Nat → Nat) (g : Nat → Nat) (sz : Nat) (h0 : Nat) (h1 : Nat) (h2 : Nat) (v0 : Value) (v1 : Value) (cc0 : ClassId) (f0 : Nat → Int32) (hf0 : sb_Fit f0) (cc1 : ClassId) (f1 : Nat → Int32) (hf1 : sb_Fit f1) : Met l yJ0_getBytes_840e7 wbJ0_getBytes_840e7 ({ frames := 1, cells := 0, slots := 0, locals := 40 }) (va_Pc [.ref h0, .ref h1, .int 0, .int 0] (fun U => U.heap.size = sz ∧ va_P (dC, dI) vwCl [(h0, .inr (0, [.ref h2, .int 0, v0, v1])), (h2, .inl (cc0, 5, .inl f0)), (h1, .inl (cc1, 16, .inl f1))] U.heap ∧ va_K (dC, dI) vwCl [(cc0, .byte), (cc1, .byte)] U ∧ va_D (fun _ => True) [(h0, .inr (0, [.ref h2, .int 0, v0, v1])), (h2, .inl (cc0, 5, .inl f0)), (h1, .inl (cc1, 16, .inl f1))] ∧ ns_F g (va_A [(h0, .inr (0, [.ref h2, .int 0, v0, v1])), (h2, .inl (cc0, 5, .inl f0)), (h1, .inl (cc1, 16, .inl f1))] sz) U U.heap)) (va_Qv (fun _ : Unit => True) (fun _ t => va_P (dC, dI) vwCl [(h2, .inl (cc0, 5, .inl f0)), (h1, .inl (cc1, 16, .inl (va_cpy (f0) (f1) 0 0 5))), (h0, .inr (0, [.ref h2, .int 0, v0, v1]))] t.heap ∧ va_K (dC, dI) vwCl [(cc0, .byte), (cc1, .byte)] t ∧ va_D (va_A [(h0, .inr (0, [.ref h2, .int 0, v0, v1])), (h2, .inl (cc0, 5, .inl f0)), (h1, .inl (cc1, 16, .inl f1))] sz) [(h2, .inl (cc0, 5, .inl f0)), (h1, .inl (cc1, 16, .inl (va_cpy (f0) (f1) 0 0 5))), (h0, .inr (0, [.ref h2, .int 0, v0, v1]))]) (va_A [(h0, .inr (0, [.ref h2, .int 0, v0, v1])), (h2, .inl (cc0, 5, .inl f0)), (h1, .inl (cc1, 16, .inl f1))] sz)) 0 0 (va_A [(h0, .inr (0, [.ref h2, .int 0, v0, v1])), (h2, .inl (cc0, 5, .inl f0)), (h1, .inl (cc1, 16, .inl f1))] sz) := by
  refine Met.ofW (cc := cJ0_getBytes_840e7) (maxL := 4) (ret := none) (by decide) rfl ?_
  intro p e s m args below meth c s₁ B hml hv
  obtain ⟨rfl, hsz, hP, hK, hD0, hF⟩ := hv
  have hx := B.exec
  have hb := B.bytes
  have hr := B.returns
  have hts := atoms_spec (ws := wbJ0_getBytes_840e7) B.pre
  have hta : ∀ w ∈ wsALL, w.before _ s = true := fun w h => hts w (List.mem_cons_of_mem _ h)
  have hown : s.vm.findClass RJ0 = some m.cls := findClass_of_methodNamed B.named
  have hlocks := B.notSynchronized
  subst hsz
  have hD := hD0.self (sz := s.heap.size)
  generalize hAe : va_A [(h0, .inr (0, [.ref h2, .int 0, v0, v1])), (h2, .inl (cc0, 5, .inl f0)), (h1, .inl (cc1, 16, .inl f1))] s.heap.size = A at hD hF ⊢
  have hA : ∀ q : Nat, s.heap.size ≤ q → A q := fun q h => by rw [← hAe]; exact Or.inr h
  have hS : va_S A s.heap s.heap [] := va_S.rf
  have hP : va_P (dC, dI) vwCl [(h0, .inr (0, [.ref h2, .int 0, v0, v1])), (h2, .inl (cc0, 5, .inl f0)), (h1, .inl (cc1, 16, .inl f1))] s.heap := hP
  have hl := lv_entry ([.ref h0, .ref h1, .int 0, .int 0]) (n := 4) (Nat.le_of_ble_eq_true rfl)
  rw [lg_entry_eq]
  generalize (lg_sl ([.ref h0, .ref h1, .int 0, .int 0]) ++ List.replicate (4 - (lg_sl ([.ref h0, .ref h1, .int 0, .int 0])).length) Slot.unset).toArray = ls at hl ⊢
  have hl : lv_has ls 4 [(0, .ref h0), (1, .ref h1), (2, .int 0), (3, .int 0)] := hl
  refine lv_aload_n hx hb dJ0_getBytes_840e7_0 rfl (lv_at hl 0 rfl) ?_
  have hPc := hP.sub (ws' := [(h0, .inr (0, [.ref h2, .int 0, v0, v1]))]) [0] rfl
  have hDc := hD.sub (ws' := [(h0, .inr (0, [.ref h2, .int 0, v0, v1]))]) [0] (by decide) rfl
  have hKc := hK.sub (tys' := []) [] rfl
  have hFc := va_free (wc := [(h0, .inr (0, [.ref h2, .int 0, v0, v1]))]) hD hS hA [0] rfl
  refine va_calli (va_runV (As := []) (rest := []) ⟨hx, hb, hml, hown, hts⟩ (kJ0_coder_7d493_3 l dC dI g s.heap.size h0 (.ref h2) v0 v1 ) (cwV 0 hts (ns_gp (List.forall_mem_cons.mpr ⟨wm571, (List.forall_mem_cons.mpr ⟨wm572, (List.forall_mem_cons.mpr ⟨wm573, (List.forall_mem_cons.mpr ⟨wm316, (fun _ h9 => nomatch h9)⟩)⟩)⟩)⟩) wm570) rfl rfl rfl (by decide +kernel) ⟨Nat.le_of_ble_eq_true rfl, Nat.le_of_ble_eq_true rfl⟩) ⟨fun a U gg mk q => by obtain ⟨q0, q1, qP, qK, qD, qF⟩ := q; exact ⟨q0, q1, qP, va_K.moved (u := U) (U := U.calling gg mk a) (Vm.Alike.refl U.vm) qK, qD, ns_same qF⟩, va_recv hK hP (ci := 0) (q0 := 0) rfl rfl, fun U hU hW => ⟨rfl, by rw [hU], by rw [hU]; exact hPc, va_K.moved hW.alike hKc, hDc.weaken (fun _ _ _ _ => trivial), ns_call hF hS hFc hU hW⟩⟩ rfl rfl hl.1 rfl (lv_room (Nat.le_of_ble_eq_true rfl)) dJ0_getBytes_840e7_1 ⟨Nat.le_of_ble_eq_true rfl, Nat.le_of_ble_eq_true rfl⟩) hS (fun q _ h => hFc q h) hFc (fun r9 u t H1 locs ht hvm hw hB hz1 hk1 hS => ?_)
  obtain rfl := hw.symm
  obtain ⟨hP1, hK1, hD1⟩ := hB
  rw [ht] at hP1
  have hK1 := va_K.moved hvm.symm hK1
  obtain ⟨hP, hD⟩ := va_join (wr := [(h2, .inl (cc0, 5, .inl f0)), (h1, .inl (cc1, 16, .inl f1))]) (w1 := [(h0, .inr (0, [.ref h2, .int 0, v0, v1]))]) hP hD [0] [1, 2] rfl rfl (by decide) (by decide) hk1 hFc hP1 hD1
  have hK := (hK.sub (tys' := [(cc0, .byte), (cc1, .byte)]) [0, 1] rfl).app hK1
  generalize H1 = H at hP hS ⊢
  have hP : va_P (dC, dI) vwCl [(h2, .inl (cc0, 5, .inl f0)), (h1, .inl (cc1, 16, .inl f1)), (h0, .inr (0, [.ref h2, .int 0, v0, v1]))] H := hP
  have hD : va_D A [(h2, .inl (cc0, 5, .inl f0)), (h1, .inl (cc1, 16, .inl f1)), (h0, .inr (0, [.ref h2, .int 0, v0, v1]))] := hD
  have hK : va_K (dC, dI) vwCl [(cc0, .byte), (cc1, .byte)] s := hK
  refine W.widen (k := 0) (n := 0) (Nat.le_of_ble_eq_true rfl) (Nat.le_of_ble_eq_true rfl) ?_
  refine lv_iload_n hx hb dJ0_getBytes_840e7_4 rfl (lv_at hl 3 rfl) ?_
  refine lv_icmp_ne (tgt := 28) hx hb dJ0_getBytes_840e7_5 (by decide) (fun c1 => absurd (by decide) c1) (fun c1 => ?_)
  refine lv_aload_n hx hb dJ0_getBytes_840e7_8 rfl (lv_at hl 0 rfl) ?_
  refine va_get (D := (dC, dI)) (ci := 0) (v := .ref h2) (C := RJ0) (T := TJ0) (N := 4) hx hb hta naJ0 hown hK hP 2 rfl rfl 0 (by decide) (hta _ wm341) (fun _ h9 => h9) rfl dJ0_getBytes_840e7_9 ?_
  refine lv_iconst (v := 0) hx hb dJ0_getBytes_840e7_12 (by decide) ?_
  refine lv_aload_n hx hb dJ0_getBytes_840e7_13 rfl (lv_at hl 1 rfl) ?_
  refine lv_iload_n hx hb dJ0_getBytes_840e7_14 rfl (lv_at hl 2 rfl) ?_
  refine lv_iload_n hx hb dJ0_getBytes_840e7_15 rfl (lv_at hl 3 rfl) ?_
  refine lv_ishl hx hb dJ0_getBytes_840e7_16 ?_
  refine lv_topi (fun y2 ey2 => ?_)
  obtain rfl : y2 = 0 := ey2.trans (by decide)
  refine lv_aload_n hx hb dJ0_getBytes_840e7_17 rfl (lv_at hl 0 rfl) ?_
  refine va_get (D := (dC, dI)) (ci := 0) (v := .ref h2) (C := RJ0) (T := TJ0) (N := 4) hx hb hta naJ0 hown hK hP 2 rfl rfl 0 (by decide) (hta _ wm341) (fun _ h9 => h9) rfl dJ0_getBytes_840e7_18 ?_
  refine va_alen (v := 5) hx hb hK hP 0 0 rfl rfl (show Int32.ofNat 5 = 5 by decide) dJ0_getBytes_840e7_21 ?_
  refine va_copyi hx hb (by rw [hml]; exact hl.1.symm) hown (hta _ wm607) (hta _ wm331) (hta _ wm332) (hta _ wm333) hK hP hD hS 0 1 0 1 rfl rfl rfl rfl rfl (by decide) (by decide) (by decide) (Nat.le_of_ble_eq_true rfl) (Nat.le_of_ble_eq_true rfl) (fun i h => hf0 _) (Nat.le_of_ble_eq_true rfl) (Nat.le_of_ble_eq_true rfl) dJ0_getBytes_840e7_22 (fun H locs hP hD hS => ?_)
  have hP : va_P (dC, dI) vwCl [(h2, .inl (cc0, 5, .inl f0)), (h1, .inl (cc1, 16, .inl (va_cpy (f0) (f1) 0 0 5))), (h0, .inr (0, [.ref h2, .int 0, v0, v1]))] H := hP
  have hD : va_D A [(h2, .inl (cc0, 5, .inl f0)), (h1, .inl (cc1, 16, .inl (va_cpy (f0) (f1) 0 0 5))), (h0, .inr (0, [.ref h2, .int 0, v0, v1]))] := hD
  refine lv_goto (tgt := 43) hx hb dJ0_getBytes_840e7_25 (by decide) ?_
  have hP9 := hP.sub (ws' := [(h2, .inl (cc0, 5, .inl f0)), (h1, .inl (cc1, 16, .inl (va_cpy (f0) (f1) 0 0 5))), (h0, .inr (0, [.ref h2, .int 0, v0, v1]))]) [0, 1, 2] rfl
  have hD9 := hD.sub (ws' := [(h2, .inl (cc0, 5, .inl f0)), (h1, .inl (cc1, 16, .inl (va_cpy (f0) (f1) 0 0 5))), (h0, .inr (0, [.ref h2, .int 0, v0, v1]))]) [0, 1, 2] (by decide) rfl
  have hK9 := hK.sub (tys' := [(cc0, .byte), (cc1, .byte)]) [0, 1] rfl
  refine W.widen (k := 0) (n := 0) (Nat.le_of_ble_eq_true rfl) (Nat.le_of_ble_eq_true rfl) ?_
  exact W.vret hx hb hr (fun t ht hW => ⟨⟨(), rfl, trivial, by rw [ht]; exact hP9, va_K.moved hW.alike hK9, hD9⟩, hS.F ht⟩) hS.2.2 dJ0_getBytes_840e7_43
set_option maxHeartbeats 4000000 in
set_option maxRecDepth 100000 in
theorem kJ0_checkBoundsBeginEnd_23922_2 (l : Launch) (dC : Nat → ClassId) (dI : Nat → Nat → Nat) (g : Nat → Nat) (sz : Nat)  : Met l yJ0_checkBoundsBeginEnd_23922 wbJ0_checkBoundsBeginEnd_23922 ({ frames := 1, cells := 0, slots := 0, locals := 23 }) (va_Pc [.int 0, .int 1, .int 2] (fun U => U.heap.size = sz ∧ va_P (dC, dI) vwCl [] U.heap ∧ va_K (dC, dI) vwCl [] U ∧ va_D (fun _ => True) [] ∧ ns_F g (va_A [] sz) U U.heap)) (va_Qv (fun _ : Unit => True) (fun _ t => va_P (dC, dI) vwCl [] t.heap ∧ va_K (dC, dI) vwCl [] t ∧ va_D (va_A [] sz) []) (va_A [] sz)) 0 0 (va_A [] sz) := by
  refine Met.ofW (cc := cJ0_checkBoundsBeginEnd_23922) (maxL := 3) (ret := none) (by decide) rfl ?_
  intro p e s m args below meth c s₁ B hml hv
  obtain ⟨rfl, hsz, hP, hK, hD0, hF⟩ := hv
  have hx := B.exec
  have hb := B.bytes
  have hr := B.returns
  have hts := atoms_spec (ws := wbJ0_checkBoundsBeginEnd_23922) B.pre
  have hta : ∀ w ∈ wsALL, w.before _ s = true := fun w h => hts w (List.mem_cons_of_mem _ h)
  have hown : s.vm.findClass RJ0 = some m.cls := findClass_of_methodNamed B.named
  have hlocks := B.notSynchronized
  subst hsz
  have hD := hD0.self (sz := s.heap.size)
  generalize hAe : va_A [] s.heap.size = A at hD hF ⊢
  have hA : ∀ q : Nat, s.heap.size ≤ q → A q := fun q h => by rw [← hAe]; exact Or.inr h
  have hS : va_S A s.heap s.heap [] := va_S.rf
  have hP : va_P (dC, dI) vwCl [] s.heap := hP
  have hl := lv_entry ([.int 0, .int 1, .int 2]) (n := 3) (Nat.le_of_ble_eq_true rfl)
  rw [lg_entry_eq]
  generalize (lg_sl ([.int 0, .int 1, .int 2]) ++ List.replicate (3 - (lg_sl ([.int 0, .int 1, .int 2])).length) Slot.unset).toArray = ls at hl ⊢
  have hl : lv_has ls 3 [(0, .int 0), (1, .int 1), (2, .int 2)] := hl
  refine lv_iload_n hx hb dJ0_checkBoundsBeginEnd_23922_0 rfl (lv_at hl 0 rfl) ?_
  refine lv_iload_n hx hb dJ0_checkBoundsBeginEnd_23922_1 rfl (lv_at hl 1 rfl) ?_
  refine lv_iload_n hx hb dJ0_checkBoundsBeginEnd_23922_2 rfl (lv_at hl 2 rfl) ?_
  rcases (ns_f17 hF) with z9 | z9
  · refine va_gets hx hb z9 hS hown (hta _ wm576) (fun _ h9 => h9) dJ0_checkBoundsBeginEnd_23922_3 ?_
    have hPc := hP.sub (ws' := []) [] rfl
    have hDc := hD.sub (ws' := []) [] (by decide) rfl
    have hKc := hK.sub (tys' := []) [] rfl
    have hFc := va_free (wc := []) hD hS hA [] rfl
    refine va_calli (va_runS (As := [.int 0, .int 1, .int 2, .null]) (rest := []) ⟨hx, hb, hml, hown, hts⟩ (kJ3_checkFromToIndex_8c36e_3 l dC dI g s.heap.size  ) (va_cwS 4 hts (ns_gp (List.forall_mem_cons.mpr ⟨wm636, (List.forall_mem_cons.mpr ⟨wm637, (List.forall_mem_cons.mpr ⟨wm578, (fun _ h9 => nomatch h9)⟩)⟩)⟩) wm635) rfl rfl rfl (by decide +kernel) ⟨Nat.le_of_ble_eq_true rfl, Nat.le_of_ble_eq_true rfl⟩) ⟨fun a U gg mk q => by obtain ⟨q0, q1, qP, qK, qD, qF⟩ := q; exact ⟨q0, q1, qP, va_K.moved (u := U) (U := U.calling gg mk a) (Vm.Alike.refl U.vm) qK, qD, ns_same qF⟩, fun U hU hW => ⟨rfl, by rw [hU], by rw [hU]; exact hPc, va_K.moved hW.alike hKc, hDc.weaken (fun _ _ _ _ => trivial), ns_call hF hS hFc hU hW⟩⟩ rfl rfl hl.1 rfl (lv_room (Nat.le_of_ble_eq_true rfl)) dJ0_checkBoundsBeginEnd_23922_6 ⟨Nat.le_of_ble_eq_true rfl, Nat.le_of_ble_eq_true rfl⟩) hS (fun q _ h => hFc q h) hFc (fun r9 u t H1 locs ht hvm hw hB hz1 hk1 hS => ?_)
    obtain rfl := hw.symm
    obtain ⟨hP1, hK1, hD1⟩ := hB
    rw [ht] at hP1
    have hK1 := va_K.moved hvm.symm hK1
    obtain ⟨hP, hD⟩ := va_join (wr := []) (w1 := []) hP hD [] [] rfl rfl (by decide) (by decide) hk1 hFc hP1 hD1
    have hK := (hK.sub (tys' := []) [] rfl).app hK1
    generalize H1 = H at hP hS ⊢
    have hP : va_P (dC, dI) vwCl [] H := hP
    have hD : va_D A [] := hD
    have hK : va_K (dC, dI) vwCl [] s := hK
    refine W.widen (k := 0) (n := 0) (Nat.le_of_ble_eq_true rfl) (Nat.le_of_ble_eq_true rfl) ?_
    refine lv_pop hx hb dJ0_checkBoundsBeginEnd_23922_9 rfl ?_
    have hP9 := hP.sub (ws' := []) [] rfl
    have hD9 := hD.sub (ws' := []) [] (by decide) rfl
    have hK9 := hK.sub (tys' := []) [] rfl
    refine W.widen (k := 0) (n := 0) (Nat.le_of_ble_eq_true rfl) (Nat.le_of_ble_eq_true rfl) ?_
    exact W.vret hx hb hr (fun t ht hW => ⟨⟨(), rfl, trivial, by rw [ht]; exact hP9, va_K.moved hW.alike hK9, hD9⟩, hS.F ht⟩) hS.2.2 dJ0_checkBoundsBeginEnd_23922_10
  · refine va_gets hx hb z9 hS hown (hta _ wm576) (fun _ h9 => h9) dJ0_checkBoundsBeginEnd_23922_3 ?_
    have hPc := hP.sub (ws' := []) [] rfl
    have hDc := hD.sub (ws' := []) [] (by decide) rfl
    have hKc := hK.sub (tys' := []) [] rfl
    have hFc := va_free (wc := []) hD hS hA [] rfl
    refine va_calli (va_runS (As := [.int 0, .int 1, .int 2, .ref (g 1)]) (rest := []) ⟨hx, hb, hml, hown, hts⟩ (kJ3_checkFromToIndex_8c36e_4 l dC dI g s.heap.size  ) (va_cwS 4 hts (ns_gp (List.forall_mem_cons.mpr ⟨wm636, (List.forall_mem_cons.mpr ⟨wm637, (List.forall_mem_cons.mpr ⟨wm578, (fun _ h9 => nomatch h9)⟩)⟩)⟩) wm635) rfl rfl rfl (by decide +kernel) ⟨Nat.le_of_ble_eq_true rfl, Nat.le_of_ble_eq_true rfl⟩) ⟨fun a U gg mk q => by obtain ⟨q0, q1, qP, qK, qD, qF⟩ := q; exact ⟨q0, q1, qP, va_K.moved (u := U) (U := U.calling gg mk a) (Vm.Alike.refl U.vm) qK, qD, ns_same qF⟩, fun U hU hW => ⟨rfl, by rw [hU], by rw [hU]; exact hPc, va_K.moved hW.alike hKc, hDc.weaken (fun _ _ _ _ => trivial), ns_call hF hS hFc hU hW⟩⟩ rfl rfl hl.1 rfl (lv_room (Nat.le_of_ble_eq_true rfl)) dJ0_checkBoundsBeginEnd_23922_6 ⟨Nat.le_of_ble_eq_true rfl, Nat.le_of_ble_eq_true rfl⟩) hS (fun q _ h => hFc q h) hFc (fun r9 u t H1 locs ht hvm hw hB hz1 hk1 hS => ?_)
    obtain rfl := hw.symm
    obtain ⟨hP1, hK1, hD1⟩ := hB
    rw [ht] at hP1
    have hK1 := va_K.moved hvm.symm hK1
    obtain ⟨hP, hD⟩ := va_join (wr := []) (w1 := []) hP hD [] [] rfl rfl (by decide) (by decide) hk1 hFc hP1 hD1
    have hK := (hK.sub (tys' := []) [] rfl).app hK1
    generalize H1 = H at hP hS ⊢
    have hP : va_P (dC, dI) vwCl [] H := hP
    have hD : va_D A [] := hD
    have hK : va_K (dC, dI) vwCl [] s := hK
    refine W.widen (k := 0) (n := 0) (Nat.le_of_ble_eq_true rfl) (Nat.le_of_ble_eq_true rfl) ?_
    refine lv_pop hx hb dJ0_checkBoundsBeginEnd_23922_9 rfl ?_
    have hP9 := hP.sub (ws' := []) [] rfl
    have hD9 := hD.sub (ws' := []) [] (by decide) rfl
    have hK9 := hK.sub (tys' := []) [] rfl
    refine W.widen (k := 0) (n := 0) (Nat.le_of_ble_eq_true rfl) (Nat.le_of_ble_eq_true rfl) ?_
    exact W.vret hx hb hr (fun t ht hW => ⟨⟨(), rfl, trivial, by rw [ht]; exact hP9, va_K.moved hW.alike hK9, hD9⟩, hS.F ht⟩) hS.2.2 dJ0_checkBoundsBeginEnd_23922_10
set_option maxHeartbeats 4000000 in
set_option maxRecDepth 100000 in
theorem kL_word_10 (l : Launch) (dC : Nat → ClassId) (dI : Nat → Nat → Nat) (g : Nat → Nat) (sz : Nat) (h0 : Nat) (x0 : Int32) (h1 : Nat) (v0 : Value) (v1 : Value) (v2 : Value) (v3 : Value) (v4 : Value) (v5 : Value) (v6 : Value) (v7 : Value) (v8 : Value) (v9 : Value) (v10 : Value) (v11 : Value) (v12 : Value) (v13 : Value) (v14 : Value) (v15 : Value) (ex0 : (-2147483648 : Int) ≤ x0.toInt ∧ x0.toInt ≤ (-1 : Int)) (hlt : l.stackTraces = false) : Met l yL_word wbL_word ({ frames := 7, cells := 1, slots := 6, locals := 105 }) (va_Pc [.ref h0, .int x0, .int 9, .ref h1] (fun U => U.heap.size = sz ∧ va_P (dC, dI) vwCl [(h0, .inr (16, [v0, v1, v2, v3, v4, v5, v6, v7, v8, v9, v10, v11, v12, v13, v14, v15]))] U.heap ∧ va_K (dC, dI) vwCl [] U ∧ va_D (fun _ => True) [(h0, .inr (16, [v0, v1, v2, v3, v4, v5, v6, v7, v8, v9, v10, v11, v12, v13, v14, v15]))] ∧ ns_F g (va_A [(h0, .inr (16, [v0, v1, v2, v3, v4, v5, v6, v7, v8, v9, v10, v11, v12, v13, v14, v15]))] sz) U U.heap)) (va_Qi (fun (r : Int32) (_ : Unit) => r = 1) (fun _ t => va_P (dC, dI) vwCl [(h0, .inr (16, [v0, v1, v2, v3, v4, v5, v6, v7, v8, v9, v10, v11, v12, v13, v14, v15]))] t.heap ∧ va_K (dC, dI) vwCl [] t ∧ va_D (va_A [(h0, .inr (16, [v0, v1, v2, v3, v4, v5, v6, v7, v8, v9, v10, v11, v12, v13, v14, v15]))] sz) [(h0, .inr (16, [v0, v1, v2, v3, v4, v5, v6, v7, v8, v9, v10, v11, v12, v13, v14, v15]))]) (va_A [(h0, .inr (16, [v0, v1, v2, v3, v4, v5, v6, v7, v8, v9, v10, v11, v12, v13, v14, v15]))] sz)) 1 6 (va_A [(h0, .inr (16, [v0, v1, v2, v3, v4, v5, v6, v7, v8, v9, v10, v11, v12, v13, v14, v15]))] sz) := by
  refine va_MetW (cc := cL_word) (maxL := 5) (ret := (some .int)) (hh := [(0, 11, 14, 19), (0, 11, 18, 21)]) (by decide) rfl ?_
  intro p e s m args below meth c s₁ B hml hv
  obtain ⟨rfl, hsz, hP, hK, hD0, hF⟩ := hv
  have hx := B.exec
  have hb := B.bytes
  have hr := B.returns
  have hts := atoms_spec (ws := wbL_word) B.pre
  have hta : ∀ w ∈ wsALL, w.before _ s = true := fun w h => hts w (List.mem_cons_of_mem _ h)
  have hown : s.vm.findClass RL = some m.cls := findClass_of_methodNamed B.named
  have hlocks := B.notSynchronized
  have htab : c.exceptionTable.toList = [⟨0, 11, 14, 19⟩, ⟨0, 11, 18, 21⟩] := vx_table (x := yL_word) B (hts _ List.mem_cons_self)
  subst hsz
  have hD := hD0.self (sz := s.heap.size)
  generalize hAe : va_A [(h0, .inr (16, [v0, v1, v2, v3, v4, v5, v6, v7, v8, v9, v10, v11, v12, v13, v14, v15]))] s.heap.size = A at hD hF ⊢
  have hA : ∀ q : Nat, s.heap.size ≤ q → A q := fun q h => by rw [← hAe]; exact Or.inr h
  have hS : va_S A s.heap s.heap [] := va_S.rf
  have hP : va_P (dC, dI) vwCl [(h0, .inr (16, [v0, v1, v2, v3, v4, v5, v6, v7, v8, v9, v10, v11, v12, v13, v14, v15]))] s.heap := hP
  have hl := lv_entry ([.ref h0, .int x0, .int 9, .ref h1]) (n := 5) (Nat.le_of_ble_eq_true rfl)
  rw [lg_entry_eq]
  generalize (lg_sl ([.ref h0, .int x0, .int 9, .ref h1]) ++ List.replicate (5 - (lg_sl ([.ref h0, .int x0, .int 9, .ref h1])).length) Slot.unset).toArray = ls at hl ⊢
  have hl : lv_has ls 5 [(0, .ref h0), (1, .int x0), (2, .int 9), (3, .ref h1)] := hl
  refine lv_aload_n hx hb dL_word_0 rfl (lv_at hl 3 rfl) ?_
  refine lv_aload_n hx hb dL_word_1 rfl (lv_at hl 0 rfl) ?_
  refine lv_iload_n hx hb dL_word_2 rfl (lv_at hl 1 rfl) ?_
  refine lv_iload_n hx hb dL_word_3 rfl (lv_at hl 2 rfl) ?_
  have hPc := hP.sub (ws' := []) [] rfl
  have hDc := hD.sub (ws' := []) [] (by decide) rfl
  have hKc := hK.sub (tys' := []) [] rfl
  have hFc := va_free (wc := []) hD hS hA [] rfl
  refine vx_callv (vx_runV (As := [.int x0, .int 9]) (rest := [.ref h1]) ⟨hx, hb, hml, hown, hts⟩ (kX9_word_10 l dC dI g s.heap.size h0 x0 ⟨by omega, by omega⟩ hlt) (cwV 2 hts (ns_gp (List.forall_mem_cons.mpr ⟨wm229, (List.forall_mem_cons.mpr ⟨wm230, (List.forall_mem_cons.mpr ⟨wm231, (List.forall_mem_cons.mpr ⟨wm2, (fun _ h9 => nomatch h9)⟩)⟩)⟩)⟩) wm227) rfl rfl rfl (by decide +kernel) ⟨Nat.le_of_ble_eq_true rfl, Nat.le_of_ble_eq_true rfl⟩) ⟨fun a U gg mk q => by obtain ⟨q0, q1, qP, qK, qD, qF⟩ := q; exact ⟨q0, q1, qP, va_K.moved (u := U) (U := U.calling gg mk a) (Vm.Alike.refl U.vm) qK, qD, ns_same qF⟩, va_recv hK hP (ci := 16) (q0 := 0) rfl rfl, fun U hU hW => ⟨rfl, by rw [hU], by rw [hU]; exact hPc, va_K.moved hW.alike hKc, hDc.weaken (fun _ _ _ _ => trivial), ns_call hF hS hFc hU hW⟩⟩ rfl rfl hl.1 rfl (lv_room (Nat.le_of_ble_eq_true rfl)) dL_word_4 ⟨Nat.le_of_ble_eq_true rfl, Nat.le_of_ble_eq_true rfl⟩) hS (fun q _ h => hFc q h) hFc (fun q _ h => hFc q h) (fun E ce q9 u t H1 locs ht hvm hw hB hz1 hk1 hS hc1 hc2 hc3 => ?_) (fun _ _ _ _ _ _ hw _ _ _ _ => False.elim hw)
  obtain rfl : E = "java/lang/IllegalArgumentException" := hB
  obtain ⟨hP, hD⟩ := va_join (wr := [(h0, .inr (16, [v0, v1, v2, v3, v4, v5, v6, v7, v8, v9, v10, v11, v12, v13, v14, v15]))]) (w1 := []) hP hD [] [0] rfl rfl (by decide) (by decide) hk1 hFc (fun k q h => by simp at h) ⟨fun i j p q h => by simp at h, fun k q h => by simp at h⟩
  have hK := hK.sub (tys' := []) [] rfl
  generalize H1 = H at hP hS hc1 ⊢
  have hP : va_P (dC, dI) vwCl [(h0, .inr (16, [v0, v1, v2, v3, v4, v5, v6, v7, v8, v9, v10, v11, v12, v13, v14, v15]))] H := hP
  have hD : va_D A [(h0, .inr (16, [v0, v1, v2, v3, v4, v5, v6, v7, v8, v9, v10, v11, v12, v13, v14, v15]))] := hD
  have hK : va_K (dC, dI) vwCl [] s := hK
  refine vx_widen (k := 1) (n := 6) (Nat.le_of_ble_eq_true rfl) (Nat.le_of_ble_eq_true rfl) ?_
  refine vx_catch hown [] ⟨0, 11, 14, 19⟩ [⟨0, 11, 18, 21⟩] htab (fun z hz => by simp at hz) (by decide) (by decide) (hta _ wm228) (va_Nw.use rfl (ns_f11 hF)) hc1 hc2 hc3 ?_
  refine W.eq (g2 := F0 m 14 ls [.ref q9]) rfl ?_
  refine lv_astore (lv' := [(4, .ref q9), (0, .ref h0), (1, .int x0), (2, .int 9), (3, .ref h1)]) hx hb dL_word_14 hl (by decide) rfl (fun ls hl => ?_)
  refine lv_iconst (v := 1) hx hb dL_word_16 (by decide) ?_
  have hP9 := hP.sub (ws' := [(h0, .inr (16, [v0, v1, v2, v3, v4, v5, v6, v7, v8, v9, v10, v11, v12, v13, v14, v15]))]) [0] rfl
  have hD9 := hD.sub (ws' := [(h0, .inr (16, [v0, v1, v2, v3, v4, v5, v6, v7, v8, v9, v10, v11, v12, v13, v14, v15]))]) [0] (by decide) rfl
  have hK9 := hK.sub (tys' := []) [] rfl
  refine W.widen (k := 1) (n := 6) (Nat.le_of_ble_eq_true rfl) (Nat.le_of_ble_eq_true rfl) ?_
  exact W.iret (v := 1) hx hb hr (fun t ht hW => ⟨⟨_, (), rfl, rfl, by rw [ht]; exact hP9, va_K.moved hW.alike hK9, hD9⟩, hS.F ht⟩) hS.2.2 dL_word_17
set_option maxHeartbeats 4000000 in
set_option maxRecDepth 100000 in
theorem kL_word_6 (l : Launch) (dC : Nat → ClassId) (dI : Nat → Nat → Nat) (g : Nat → Nat) (sz : Nat) (h0 : Nat) (x0 : Int32) (h1 : Nat) (v0 : Value) (v1 : Value) (v2 : Value) (v3 : Value) (v4 : Value) (v5 : Value) (v6 : Value) (v7 : Value) (v8 : Value) (v9 : Value) (v10 : Value) (v11 : Value) (v12 : Value) (v13 : Value) (v14 : Value) (v15 : Value) (ex0 : (-2147483648 : Int) ≤ x0.toInt ∧ x0.toInt ≤ (-1 : Int)) (hlt : l.stackTraces = false) : Met l yL_word wbL_word ({ frames := 7, cells := 1, slots := 6, locals := 105 }) (va_Pc [.ref h0, .int x0, .int 5, .ref h1] (fun U => U.heap.size = sz ∧ va_P (dC, dI) vwCl [(h0, .inr (16, [v0, v1, v2, v3, v4, v5, v6, v7, v8, v9, v10, v11, v12, v13, v14, v15]))] U.heap ∧ va_K (dC, dI) vwCl [] U ∧ va_D (fun _ => True) [(h0, .inr (16, [v0, v1, v2, v3, v4, v5, v6, v7, v8, v9, v10, v11, v12, v13, v14, v15]))] ∧ ns_F g (va_A [(h0, .inr (16, [v0, v1, v2, v3, v4, v5, v6, v7, v8, v9, v10, v11, v12, v13, v14, v15]))] sz) U U.heap)) (va_Qi (fun (r : Int32) (_ : Unit) => r = 1) (fun _ t => va_P (dC, dI) vwCl [(h0, .inr (16, [v0, v1, v2, v3, v4, v5, v6, v7, v8, v9, v10, v11, v12, v13, v14, v15]))] t.heap ∧ va_K (dC, dI) vwCl [] t ∧ va_D (va_A [(h0, .inr (16, [v0, v1, v2, v3, v4, v5, v6, v7, v8, v9, v10, v11, v12, v13, v14, v15]))] sz) [(h0, .inr (16, [v0, v1, v2, v3, v4, v5, v6, v7, v8, v9, v10, v11, v12, v13, v14, v15]))]) (va_A [(h0, .inr (16, [v0, v1, v2, v3, v4, v5, v6, v7, v8, v9, v10, v11, v12, v13, v14, v15]))] sz)) 1 6 (va_A [(h0, .inr (16, [v0, v1, v2, v3, v4, v5, v6, v7, v8, v9, v10, v11, v12, v13, v14, v15]))] sz) := by
  refine va_MetW (cc := cL_word) (maxL := 5) (ret := (some .int)) (hh := [(0, 11, 14, 19), (0, 11, 18, 21)]) (by decide) rfl ?_
  intro p e s m args below meth c s₁ B hml hv
  obtain ⟨rfl, hsz, hP, hK, hD0, hF⟩ := hv
  have hx := B.exec
  have hb := B.bytes
  have hr := B.returns
  have hts := atoms_spec (ws := wbL_word) B.pre
  have hta : ∀ w ∈ wsALL, w.before _ s = true := fun w h => hts w (List.mem_cons_of_mem _ h)
  have hown : s.vm.findClass RL = some m.cls := findClass_of_methodNamed B.named
  have hlocks := B.notSynchronized
  have htab : c.exceptionTable.toList = [⟨0, 11, 14, 19⟩, ⟨0, 11, 18, 21⟩] := vx_table (x := yL_word) B (hts _ List.mem_cons_self)
  subst hsz
  have hD := hD0.self (sz := s.heap.size)
  generalize hAe : va_A [(h0, .inr (16, [v0, v1, v2, v3, v4, v5, v6, v7, v8, v9, v10, v11, v12, v13, v14, v15]))] s.heap.size = A at hD hF ⊢
  have hA : ∀ q : Nat, s.heap.size ≤ q → A q := fun q h => by rw [← hAe]; exact Or.inr h
  have hS : va_S A s.heap s.heap [] := va_S.rf
  have hP : va_P (dC, dI) vwCl [(h0, .inr (16, [v0, v1, v2, v3, v4, v5, v6, v7, v8, v9, v10, v11, v12, v13, v14, v15]))] s.heap := hP
  have hl := lv_entry ([.ref h0, .int x0, .int 5, .ref h1]) (n := 5) (Nat.le_of_ble_eq_true rfl)
  rw [lg_entry_eq]
  generalize (lg_sl ([.ref h0, .int x0, .int 5, .ref h1]) ++ List.replicate (5 - (lg_sl ([.ref h0, .int x0, .int 5, .ref h1])).length) Slot.unset).toArray = ls at hl ⊢
  have hl : lv_has ls 5 [(0, .ref h0), (1, .int x0), (2, .int 5), (3, .ref h1)] := hl
  refine lv_aload_n hx hb dL_word_0 rfl (lv_at hl 3 rfl) ?_
  refine lv_aload_n hx hb dL_word_1 rfl (lv_at hl 0 rfl) ?_
  refine lv_iload_n hx hb dL_word_2 rfl (lv_at hl 1 rfl) ?_
  refine lv_iload_n hx hb dL_word_3 rfl (lv_at hl 2 rfl) ?_
  have hPc := hP.sub (ws' := []) [] rfl
  have hDc := hD.sub (ws' := []) [] (by decide) rfl
  have hKc := hK.sub (tys' := []) [] rfl
  have hFc := va_free (wc := []) hD hS hA [] rfl
  refine vx_callv (vx_runV (As := [.int x0, .int 5]) (rest := [.ref h1]) ⟨hx, hb, hml, hown, hts⟩ (kX9_word_6 l dC dI g s.heap.size h0 x0 ⟨by omega, by omega⟩ hlt) (cwV 2 hts (ns_gp (List.forall_mem_cons.mpr ⟨wm229, (List.forall_mem_cons.mpr ⟨wm230, (List.forall_mem_cons.mpr ⟨wm231, (List.forall_mem_cons.mpr ⟨wm2, (fun _ h9 => nomatch h9)⟩)⟩)⟩)⟩) wm227) rfl rfl rfl (by decide +kernel) ⟨Nat.le_of_ble_eq_true rfl, Nat.le_of_ble_eq_true rfl⟩) ⟨fun a U gg mk q => by obtain ⟨q0, q1, qP, qK, qD, qF⟩ := q; exact ⟨q0, q1, qP, va_K.moved (u := U) (U := U.calling gg mk a) (Vm.Alike.refl U.vm) qK, qD, ns_same qF⟩, va_recv hK hP (ci := 16) (q0 := 0) rfl rfl, fun U hU hW => ⟨rfl, by rw [hU], by rw [hU]; exact hPc, va_K.moved hW.alike hKc, hDc.weaken (fun _ _ _ _ => trivial), ns_call hF hS hFc hU hW⟩⟩ rfl rfl hl.1 rfl (lv_room (Nat.le_of_ble_eq_true rfl)) dL_word_4 ⟨Nat.le_of_ble_eq_true rfl, Nat.le_of_ble_eq_true rfl⟩) hS (fun q _ h => hFc q h) hFc (fun q _ h => hFc q h) (fun E ce q9 u t H1 locs ht hvm hw hB hz1 hk1 hS hc1 hc2 hc3 => ?_) (fun _ _ _ _ _ _ hw _ _ _ _ => False.elim hw)
  obtain rfl : E = "java/lang/IllegalArgumentException" := hB
  obtain ⟨hP, hD⟩ := va_join (wr := [(h0, .inr (16, [v0, v1, v2, v3, v4, v5, v6, v7, v8, v9, v10, v11, v12, v13, v14, v15]))]) (w1 := []) hP hD [] [0] rfl rfl (by decide) (by decide) hk1 hFc (fun k q h => by simp at h) ⟨fun i j p q h => by simp at h, fun k q h => by simp at h⟩
  have hK := hK.sub (tys' := []) [] rfl
  generalize H1 = H at hP hS hc1 ⊢
  have hP : va_P (dC, dI) vwCl [(h0, .inr (16, [v0, v1, v2, v3, v4, v5, v6, v7, v8, v9, v10, v11, v12, v13, v14, v15]))] H := hP
  have hD : va_D A [(h0, .inr (16, [v0, v1, v2, v3, v4, v5, v6, v7, v8, v9, v10, v11, v12, v13, v14, v15]))] := hD
  have hK : va_K (dC, dI) vwCl [] s := hK
  refine vx_widen (k := 1) (n := 6) (Nat.le_of_ble_eq_true rfl) (Nat.le_of_ble_eq_true rfl) ?_
  refine vx_catch hown [] ⟨0, 11, 14, 19⟩ [⟨0, 11, 18, 21⟩] htab (fun z hz => by simp at hz) (by decide) (by decide) (hta _ wm228) (va_Nw.use rfl (ns_f11 hF)) hc1 hc2 hc3 ?_
  refine W.eq (g2 := F0 m 14 ls [.ref q9]) rfl ?_
  refine lv_astore (lv' := [(4, .ref q9), (0, .ref h0), (1, .int x0), (2, .int 5), (3, .ref h1)]) hx hb dL_word_14 hl (by decide) rfl (fun ls hl => ?_)
  refine lv_iconst (v := 1) hx hb dL_word_16 (by decide) ?_
  have hP9 := hP.sub (ws' := [(h0, .inr (16, [v0, v1, v2, v3, v4, v5, v6, v7, v8, v9, v10, v11, v12, v13, v14, v15]))]) [0] rfl
  have hD9 := hD.sub (ws' := [(h0, .inr (16, [v0, v1, v2, v3, v4, v5, v6, v7, v8, v9, v10, v11, v12, v13, v14, v15]))]) [0] (by decide) rfl
  have hK9 := hK.sub (tys' := []) [] rfl
  refine W.widen (k := 1) (n := 6) (Nat.le_of_ble_eq_true rfl) (Nat.le_of_ble_eq_true rfl) ?_
  exact W.iret (v := 1) hx hb hr (fun t ht hW => ⟨⟨_, (), rfl, rfl, by rw [ht]; exact hP9, va_K.moved hW.alike hK9, hD9⟩, hS.F ht⟩) hS.2.2 dL_word_17
set_option maxHeartbeats 4000000 in
set_option maxRecDepth 100000 in
theorem kX3_weightOfAll (l : Launch) (dC : Nat → ClassId) (dI : Nat → Nat → Nat) (g : Nat → Nat) (sz : Nat) (h0 : Nat) (h1 : Nat) (v0 : Value) (v1 : Value) (v2 : Value) (v3 : Value) (v4 : Value) (v5 : Value) (v6 : Value) (v7 : Value) (v8 : Value) : Met l yX3_weightOfAll wbX3_weightOfAll ({ frames := 1, cells := 0, slots := 0, locals := 20 }) (va_Pc [.ref h0] (fun U => U.heap.size = sz ∧ va_P (dC, dI) vwCl [(h0, .inr (10, [.ref h1, v0, v1, v2, v3, v4, v5, v6, v7])), (h1, .inr (11, [v8, .int 0]))] U.heap ∧ va_K (dC, dI) vwCl [] U ∧ va_D (fun _ => True) [(h0, .inr (10, [.ref h1, v0, v1, v2, v3, v4, v5, v6, v7])), (h1, .inr (11, [v8, .int 0]))] ∧ ns_F g (va_A [(h0, .inr (10, [.ref h1, v0, v1, v2, v3, v4, v5, v6, v7])), (h1, .inr (11, [v8, .int 0]))] sz) U U.heap)) (va_Qi (fun (r : Int32) (_ : Unit) => r = 0) (fun _ t => va_P (dC, dI) vwCl [(h0, .inr (10, [.ref h1, v0, v1, v2, v3, v4, v5, v6, v7])), (h1, .inr (11, [v8, .int 0]))] t.heap ∧ va_K (dC, dI) vwCl [] t ∧ va_D (va_A [(h0, .inr (10, [.ref h1, v0, v1, v2, v3, v4, v5, v6, v7])), (h1, .inr (11, [v8, .int 0]))] sz) [(h0, .inr (10, [.ref h1, v0, v1, v2, v3, v4, v5, v6, v7])), (h1, .inr (11, [v8, .int 0]))]) (va_A [(h0, .inr (10, [.ref h1, v0, v1, v2, v3, v4, v5, v6, v7])), (h1, .inr (11, [v8, .int 0]))] sz)) 0 0 (va_A [(h0, .inr (10, [.ref h1, v0, v1, v2, v3, v4, v5, v6, v7])), (h1, .inr (11, [v8, .int 0]))] sz) := by
  refine Met.ofW (cc := cX3_weightOfAll) (maxL := 3) (ret := (some .int)) (by decide) rfl ?_
  intro p e s m args below meth c s₁ B hml hv
  obtain ⟨rfl, hsz, hP, hK, hD0, hF⟩ := hv
  have hx := B.exec
  have hb := B.bytes
  have hr := B.returns
  have hts := atoms_spec (ws := wbX3_weightOfAll) B.pre
  have hta : ∀ w ∈ wsALL, w.before _ s = true := fun w h => hts w (List.mem_cons_of_mem _ h)
  have hown : s.vm.findClass RX3 = some m.cls := findClass_of_methodNamed B.named
  have hlocks := B.notSynchronized
  subst hsz
  have hD := hD0.self (sz := s.heap.size)
  generalize hAe : va_A [(h0, .inr (10, [.ref h1, v0, v1, v2, v3, v4, v5, v6, v7])), (h1, .inr (11, [v8, .int 0]))] s.heap.size = A at hD hF ⊢
  have hA : ∀ q : Nat, s.heap.size ≤ q → A q := fun q h => by rw [← hAe]; exact Or.inr h
  have hS : va_S A s.heap s.heap [] := va_S.rf
  have hP : va_P (dC, dI) vwCl [(h0, .inr (10, [.ref h1, v0, v1, v2, v3, v4, v5, v6, v7])), (h1, .inr (11, [v8, .int 0]))] s.heap := hP
  have hl := lv_entry ([.ref h0]) (n := 3) (Nat.le_of_ble_eq_true rfl)
  rw [lg_entry_eq]
  generalize (lg_sl ([.ref h0]) ++ List.replicate (3 - (lg_sl ([.ref h0])).length) Slot.unset).toArray = ls at hl ⊢
  have hl : lv_has ls 3 [(0, .ref h0)] := hl
  refine lv_iconst (v := 0) hx hb dX3_weightOfAll_0 (by decide) ?_
  refine lv_istore_n (lv' := [(1, .int 0), (0, .ref h0)]) hx hb dX3_weightOfAll_1 rfl hl (by decide) rfl (fun ls hl => ?_)
  refine lv_iconst (v := 0) hx hb dX3_weightOfAll_2 (by decide) ?_
  refine lv_istore_n (lv' := [(2, .int 0), (1, .int 0), (0, .ref h0)]) hx hb dX3_weightOfAll_3 rfl hl (by decide) rfl (fun ls hl => ?_)
  refine lv_iload_n hx hb dX3_weightOfAll_4 rfl (lv_at hl 0 rfl) ?_
  refine lv_aload_n hx hb dX3_weightOfAll_5 rfl (lv_at hl 2 rfl) ?_
  refine va_get (D := (dC, dI)) (ci := 10) (v := .ref h1) (C := RX3) (T := TX3) (N := 9) hx hb hta naX3 hown hK hP 0 rfl rfl 0 (by decide) (hta _ wm18) (fun _ h9 => h9) rfl dX3_weightOfAll_6 ?_
  have hPc := hP.sub (ws' := [(h1, .inr (11, [v8, .int 0]))]) [1] rfl
  have hDc := hD.sub (ws' := [(h1, .inr (11, [v8, .int 0]))]) [1] (by decide) rfl
  have hKc := hK.sub (tys' := []) [] rfl
  have hFc := va_free (wc := [(h1, .inr (11, [v8, .int 0]))]) hD hS hA [1] rfl
  refine va_calli (va_runV (As := []) (rest := [.int 0]) ⟨hx, hb, hml, hown, hts⟩ (kX4_size l dC dI g s.heap.size h1 v8 ) (cwV 0 hts (ns_gp (List.forall_mem_cons.mpr ⟨wm248, (List.forall_mem_cons.mpr ⟨wm249, (List.forall_mem_cons.mpr ⟨wm250, (List.forall_mem_cons.mpr ⟨wm12, (fun _ h9 => nomatch h9)⟩)⟩)⟩)⟩) wm247) rfl rfl rfl (by decide +kernel) ⟨Nat.le_of_ble_eq_true rfl, Nat.le_of_ble_eq_true rfl⟩) ⟨fun a U gg mk q => by obtain ⟨q0, q1, qP, qK, qD, qF⟩ := q; exact ⟨q0, q1, qP, va_K.moved (u := U) (U := U.calling gg mk a) (Vm.Alike.refl U.vm) qK, qD, ns_same qF⟩, va_recv hK hP (ci := 11) (q0 := 1) rfl rfl, fun U hU hW => ⟨rfl, by rw [hU], by rw [hU]; exact hPc, va_K.moved hW.alike hKc, hDc.weaken (fun _ _ _ _ => trivial), ns_call hF hS hFc hU hW⟩⟩ rfl rfl hl.1 rfl (lv_room (Nat.le_of_ble_eq_true rfl)) dX3_weightOfAll_9 ⟨Nat.le_of_ble_eq_true rfl, Nat.le_of_ble_eq_true rfl⟩) hS (fun q _ h => hFc q h) hFc (fun r9 u t H1 locs ht hvm hw hB hz1 hk1 hS => ?_)
  obtain rfl := hw.symm
  obtain ⟨hP1, hK1, hD1⟩ := hB
  rw [ht] at hP1
  have hK1 := va_K.moved hvm.symm hK1
  obtain ⟨hP, hD⟩ := va_join (wr := [(h0, .inr (10, [.ref h1, v0, v1, v2, v3, v4, v5, v6, v7]))]) (w1 := [(h1, .inr (11, [v8, .int 0]))]) hP hD [1] [0] rfl rfl (by decide) (by decide) hk1 hFc hP1 hD1
  have hK := (hK.sub (tys' := []) [] rfl).app hK1
  generalize H1 = H at hP hS ⊢
  have hP : va_P (dC, dI) vwCl [(h0, .inr (10, [.ref h1, v0, v1, v2, v3, v4, v5, v6, v7])), (h1, .inr (11, [v8, .int 0]))] H := hP
  have hD : va_D A [(h0, .inr (10, [.ref h1, v0, v1, v2, v3, v4, v5, v6, v7])), (h1, .inr (11, [v8, .int 0]))] := hD
  have hK : va_K (dC, dI) vwCl [] s := hK
  refine W.widen (k := 0) (n := 0) (Nat.le_of_ble_eq_true rfl) (Nat.le_of_ble_eq_true rfl) ?_
  refine lv_icmp_ge (tgt := 29) hx hb dX3_weightOfAll_12 (by decide) (fun c1 => ?_) (fun c1 => absurd (by decide) c1)
  refine lv_iload_n hx hb dX3_weightOfAll_29 rfl (lv_at hl 1 rfl) ?_
  have hP9 := hP.sub (ws' := [(h0, .inr (10, [.ref h1, v0, v1, v2, v3, v4, v5, v6, v7])), (h1, .inr (11, [v8, .int 0]))]) [0, 1] rfl
  have hD9 := hD.sub (ws' := [(h0, .inr (10, [.ref h1, v0, v1, v2, v3, v4, v5, v6, v7])), (h1, .inr (11, [v8, .int 0]))]) [0, 1] (by decide) rfl
  have hK9 := hK.sub (tys' := []) [] rfl
  refine W.widen (k := 0) (n := 0) (Nat.le_of_ble_eq_true rfl) (Nat.le_of_ble_eq_true rfl) ?_
  exact W.iret (v := 0) hx hb hr (fun t ht hW => ⟨⟨_, (), rfl, rfl, by rw [ht]; exact hP9, va_K.moved hW.alike hK9, hD9⟩, hS.F ht⟩) hS.2.2 dX3_weightOfAll_30
set_option maxHeartbeats 4000000 in
set_option maxRecDepth 100000 in
theorem kJ0_length_8abf5_3 (l : Launch) (dC : Nat → ClassId) (dI : Nat → Nat → Nat) (g : Nat → Nat) (sz : Nat) (h0 : Nat) (h1 : Nat) (v0 : Value) (v1 : Value) (cc0 : ClassId) (f0 : Nat → Int32) (hf0 : sb_Fit f0) : Met l yJ0_length_8abf5 wbJ0_length_8abf5 ({ frames := 1, cells := 0, slots := 0, locals := 20 }) (va_Pc [.ref h0] (fun U => U.heap.size = sz ∧ va_P (dC, dI) vwCl [(h0, .inr (0, [.ref h1, .int 0, v0, v1])), (h1, .inl (cc0, 1, .inl f0))] U.heap ∧ va_K (dC, dI) vwCl [(cc0, .byte)] U ∧ va_D (fun _ => True) [(h0, .inr (0, [.ref h1, .int 0, v0, v1])), (h1, .inl (cc0, 1, .inl f0))] ∧ ns_F g (va_A [(h0, .inr (0, [.ref h1, .int 0, v0, v1])), (h1, .inl (cc0, 1, .inl f0))] sz) U U.heap)) (va_Qi (fun (r : Int32) (_ : Unit) => r = 1) (fun _ t => va_P (dC, dI) vwCl [(h1, .inl (cc0, 1, .inl f0)), (h0, .inr (0, [.ref h1, .int 0, v0, v1]))] t.heap ∧ va_K (dC, dI) vwCl [(cc0, .byte)] t ∧ va_D (va_A [(h0, .inr (0, [.ref h1, .int 0, v0, v1])), (h1, .inl (cc0, 1, .inl f0))] sz) [(h1, .inl (cc0, 1, .inl f0)), (h0, .inr (0, [.ref h1, .int 0, v0, v1]))]) (va_A [(h0, .inr (0, [.ref h1, .int 0, v0, v1])), (h1, .inl (cc0, 1, .inl f0))] sz)) 0 0 (va_A [(h0, .inr (0, [.ref h1, .int 0, v0, v1])), (h1, .inl (cc0, 1, .inl f0))] sz) := by
  refine Met.ofW (cc := cJ0_length_8abf5) (maxL := 1) (ret := (some .int)) (by decide) rfl ?_
  intro p e s m args below meth c s₁ B hml hv
  obtain ⟨rfl, hsz, hP, hK, hD0, hF⟩ := hv
  have hx := B.exec
  have hb := B.bytes
  have hr := B.returns
  have hts := atoms_spec (ws := wbJ0_length_8abf5) B.pre
  have hta : ∀ w ∈ wsALL, w.before _ s = true := fun w h => hts w (List.mem_cons_of_mem _ h)
  have hown : s.vm.findClass RJ0 = some m.cls := findClass_of_methodNamed B.named
  have hlocks := B.notSynchronized
  subst hsz
  have hD := hD0.self (sz := s.heap.size)
  generalize hAe : va_A [(h0, .inr (0, [.ref h1, .int 0, v0, v1])), (h1, .inl (cc0, 1, .inl f0))] s.heap.size = A at hD hF ⊢
  have hA : ∀ q : Nat, s.heap.size ≤ q → A q := fun q h => by rw [← hAe]; exact Or.inr h
  have hS : va_S A s.heap s.heap [] := va_S.rf
  have hP : va_P (dC, dI) vwCl [(h0, .inr (0, [.ref h1, .int 0, v0, v1])), (h1, .inl (cc0, 1, .inl f0))] s.heap := hP
  have hl := lv_entry ([.ref h0]) (n := 1) (Nat.le_of_ble_eq_true rfl)
  rw [lg_entry_eq]
  generalize (lg_sl ([.ref h0]) ++ List.replicate (1 - (lg_sl ([.ref h0])).length) Slot.unset).toArray = ls at hl ⊢
  have hl : lv_has ls 1 [(0, .ref h0)] := hl
  refine lv_aload_n hx hb dJ0_length_8abf5_0 rfl (lv_at hl 0 rfl) ?_
  refine va_get (D := (dC, dI)) (ci := 0) (v := .ref h1) (C := RJ0) (T := TJ0) (N := 4) hx hb hta naJ0 hown hK hP 0 rfl rfl 0 (by decide) (hta _ wm341) (fun _ h9 => h9) rfl dJ0_length_8abf5_1 ?_
  refine va_alen (v := 1) hx hb hK hP 1 0 rfl rfl (show Int32.ofNat 1 = 1 by decide) dJ0_length_8abf5_4 ?_
  refine lv_aload_n hx hb dJ0_length_8abf5_5 rfl (lv_at hl 0 rfl) ?_
  have hPc := hP.sub (ws' := [(h0, .inr (0, [.ref h1, .int 0, v0, v1]))]) [0] rfl
  have hDc := hD.sub (ws' := [(h0, .inr (0, [.ref h1, .int 0, v0, v1]))]) [0] (by decide) rfl
  have hKc := hK.sub (tys' := []) [] rfl
  have hFc := va_free (wc := [(h0, .inr (0, [.ref h1, .int 0, v0, v1]))]) hD hS hA [0] rfl
  refine va_calli (va_runV (As := []) (rest := [.int 1]) ⟨hx, hb, hml, hown, hts⟩ (kJ0_coder_7d493_3 l dC dI g s.heap.size h0 (.ref h1) v0 v1 ) (cwV 0 hts (ns_gp (List.forall_mem_cons.mpr ⟨wm571, (List.forall_mem_cons.mpr ⟨wm572, (List.forall_mem_cons.mpr ⟨wm573, (List.forall_mem_cons.mpr ⟨wm316, (fun _ h9 => nomatch h9)⟩)⟩)⟩)⟩) wm570) rfl rfl rfl (by decide +kernel) ⟨Nat.le_of_ble_eq_true rfl, Nat.le_of_ble_eq_true rfl⟩) ⟨fun a U gg mk q => by obtain ⟨q0, q1, qP, qK, qD, qF⟩ := q; exact ⟨q0, q1, qP, va_K.moved (u := U) (U := U.calling gg mk a) (Vm.Alike.refl U.vm) qK, qD, ns_same qF⟩, va_recv hK hP (ci := 0) (q0 := 0) rfl rfl, fun U hU hW => ⟨rfl, by rw [hU], by rw [hU]; exact hPc, va_K.moved hW.alike hKc, hDc.weaken (fun _ _ _ _ => trivial), ns_call hF hS hFc hU hW⟩⟩ rfl rfl hl.1 rfl (lv_room (Nat.le_of_ble_eq_true rfl)) dJ0_length_8abf5_6 ⟨Nat.le_of_ble_eq_true rfl, Nat.le_of_ble_eq_true rfl⟩) hS (fun q _ h => hFc q h) hFc (fun r9 u t H1 locs ht hvm hw hB hz1 hk1 hS => ?_)
  obtain rfl := hw.symm
  obtain ⟨hP1, hK1, hD1⟩ := hB
  rw [ht] at hP1
  have hK1 := va_K.moved hvm.symm hK1
  obtain ⟨hP, hD⟩ := va_join (wr := [(h1, .inl (cc0, 1, .inl f0))]) (w1 := [(h0, .inr (0, [.ref h1, .int 0, v0, v1]))]) hP hD [0] [1] rfl rfl (by decide) (by decide) hk1 hFc hP1 hD1
  have hK := (hK.sub (tys' := [(cc0, .byte)]) [0] rfl).app hK1
  generalize H1 = H at hP hS ⊢
  have hP : va_P (dC, dI) vwCl [(h1, .inl (cc0, 1, .inl f0)), (h0, .inr (0, [.ref h1, .int 0, v0, v1]))] H := hP
  have hD : va_D A [(h1, .inl (cc0, 1, .inl f0)), (h0, .inr (0, [.ref h1, .int 0, v0, v1]))] := hD
  have hK : va_K (dC, dI) vwCl [(cc0, .byte)] s := hK
  refine W.widen (k := 0) (n := 0) (Nat.le_of_ble_eq_true rfl) (Nat.le_of_ble_eq_true rfl) ?_
  refine lv_ishr hx hb dJ0_length_8abf5_9 ?_
  refine lv_topi (fun y1 ey1 => ?_)
  obtain rfl : y1 = 1 := ey1.trans (by decide)
  have hP9 := hP.sub (ws' := [(h1, .inl (cc0, 1, .inl f0)), (h0, .inr (0, [.ref h1, .int 0, v0, v1]))]) [0, 1] rfl
  have hD9 := hD.sub (ws' := [(h1, .inl (cc0, 1, .inl f0)), (h0, .inr (0, [.ref h1, .int 0, v0, v1]))]) [0, 1] (by decide) rfl
  have hK9 := hK.sub (tys' := [(cc0, .byte)]) [0] rfl
  refine W.widen (k := 0) (n := 0) (Nat.le_of_ble_eq_true rfl) (Nat.le_of_ble_eq_true rfl) ?_
  exact W.iret (v := 1) hx hb hr (fun t ht hW => ⟨⟨_, (), rfl, rfl, by rw [ht]; exact hP9, va_K.moved hW.alike hK9, hD9⟩, hS.F ht⟩) hS.2.2 dJ0_length_8abf5_10
set_option maxHeartbeats 4000000 in
set_option maxRecDepth 100000 in
theorem kJ4_length_8abf5_4 (l : Launch) (dC : Nat → ClassId) (dI : Nat → Nat → Nat) (g : Nat → Nat) (sz : Nat) (h0 : Nat) (v0 : Value) (v1 : Value) (v2 : Value) : Met l yJ4_length_8abf5 wbJ4_length_8abf5 ({ frames := 1, cells := 0, slots := 0, locals := 20 }) (va_Pc [.ref h0] (fun U => U.heap.size = sz ∧ va_P (dC, dI) vwCl [(h0, .inr (1, [v0, v1, v2, .int 4]))] U.heap ∧ va_K (dC, dI) vwCl [] U ∧ va_D (fun _ => True) [(h0, .inr (1, [v0, v1, v2, .int 4]))] ∧ ns_F g (va_A [(h0, .inr (1, [v0, v1, v2, .int 4]))] sz) U U.heap)) (va_Qi (fun (r : Int32) (_ : Unit) => r = 4) (fun _ t => va_P (dC, dI) vwCl [(h0, .inr (1, [v0, v1, v2, .int 4]))] t.heap ∧ va_K (dC, dI) vwCl [] t ∧ va_D (va_A [(h0, .inr (1, [v0, v1, v2, .int 4]))] sz) [(h0, .inr (1, [v0, v1, v2, .int 4]))]) (va_A [(h0, .inr (1, [v0, v1, v2, .int 4]))] sz)) 0 0 (va_A [(h0, .inr (1, [v0, v1, v2, .int 4]))] sz) := by
  refine Met.ofW (cc := cJ4_length_8abf5) (maxL := 1) (ret := (some .int)) (by decide) rfl ?_
  intro p e s m args below meth c s₁ B hml hv
  obtain ⟨rfl, hsz, hP, hK, hD0, hF⟩ := hv
  have hx := B.exec
  have hb := B.bytes
  have hr := B.returns
  have hts := atoms_spec (ws := wbJ4_length_8abf5) B.pre
  have hta : ∀ w ∈ wsALL, w.before _ s = true := fun w h => hts w (List.mem_cons_of_mem _ h)
  have hown : s.vm.findClass RJ4 = some m.cls := findClass_of_methodNamed B.named
  have hlocks := B.notSynchronized
  subst hsz
  have hD := hD0.self (sz := s.heap.size)
  generalize hAe : va_A [(h0, .inr (1, [v0, v1, v2, .int 4]))] s.heap.size = A at hD hF ⊢
  have hA : ∀ q : Nat, s.heap.size ≤ q → A q := fun q h => by rw [← hAe]; exact Or.inr h
  have hS : va_S A s.heap s.heap [] := va_S.rf
  have hP : va_P (dC, dI) vwCl [(h0, .inr (1, [v0, v1, v2, .int 4]))] s.heap := hP
  have hl := lv_entry ([.ref h0]) (n := 1) (Nat.le_of_ble_eq_true rfl)
  rw [lg_entry_eq]
  generalize (lg_sl ([.ref h0]) ++ List.replicate (1 - (lg_sl ([.ref h0])).length) Slot.unset).toArray = ls at hl ⊢
  have hl : lv_has ls 1 [(0, .ref h0)] := hl
  refine lv_aload_n hx hb dJ4_length_8abf5_0 rfl (lv_at hl 0 rfl) ?_
  have hPc := hP.sub (ws' := [(h0, .inr (1, [v0, v1, v2, .int 4]))]) [0] rfl
  have hDc := hD.sub (ws' := [(h0, .inr (1, [v0, v1, v2, .int 4]))]) [0] (by decide) rfl
  have hKc := hK.sub (tys' := []) [] rfl
  have hFc := va_free (wc := [(h0, .inr (1, [v0, v1, v2, .int 4]))]) hD hS hA [0] rfl
  refine va_calli (va_runSU (hK.1 1 _ rfl).2 (As := []) (rest := []) ⟨hx, hb, hml, hown, hts⟩ (kJ5_length_8abf5_4 l dC dI g s.heap.size h0 v0 v1 v2 ) (va_cwSU 0 hts (ns_gp (List.forall_mem_cons.mpr ⟨wm320, (List.forall_mem_cons.mpr ⟨wm321, (List.forall_mem_cons.mpr ⟨wm308, (List.forall_mem_cons.mpr ⟨wm322, (List.forall_mem_cons.mpr ⟨wm144, (fun _ h9 => nomatch h9)⟩)⟩)⟩)⟩)⟩) wm319) rfl rfl rfl (by decide +kernel) ⟨Nat.le_of_ble_eq_true rfl, Nat.le_of_ble_eq_true rfl⟩) ⟨fun a U gg mk q => by obtain ⟨q0, q1, qP, qK, qD, qF⟩ := q; exact ⟨q0, q1, qP, va_K.moved (u := U) (U := U.calling gg mk a) (Vm.Alike.refl U.vm) qK, qD, ns_same qF⟩, va_recv hK hP (ci := 1) (q0 := 0) rfl rfl, fun U hU hW => ⟨rfl, by rw [hU], by rw [hU]; exact hPc, va_K.moved hW.alike hKc, hDc.weaken (fun _ _ _ _ => trivial), ns_call hF hS hFc hU hW⟩⟩ rfl rfl hl.1 rfl (lv_room (Nat.le_of_ble_eq_true rfl)) dJ4_length_8abf5_1 ⟨Nat.le_of_ble_eq_true rfl, Nat.le_of_ble_eq_true rfl⟩) hS (fun q _ h => hFc q h) hFc (fun r9 u t H1 locs ht hvm hw hB hz1 hk1 hS => ?_)
  obtain rfl := hw.symm
  obtain ⟨hP1, hK1, hD1⟩ := hB
  rw [ht] at hP1
  have hK1 := va_K.moved hvm.symm hK1
  obtain ⟨hP, hD⟩ := va_join (wr := []) (w1 := [(h0, .inr (1, [v0, v1, v2, .int 4]))]) hP hD [0] [] rfl rfl (by decide) (by decide) hk1 hFc hP1 hD1
  have hK := (hK.sub (tys' := []) [] rfl).app hK1
  generalize H1 = H at hP hS ⊢
  have hP : va_P (dC, dI) vwCl [(h0, .inr (1, [v0, v1, v2, .int 4]))] H := hP
  have hD : va_D A [(h0, .inr (1, [v0, v1, v2, .int 4]))] := hD
  have hK : va_K (dC, dI) vwCl [] s := hK
  refine W.widen (k := 0) (n := 0) (Nat.le_of_ble_eq_true rfl) (Nat.le_of_ble_eq_true rfl) ?_
  have hP9 := hP.sub (ws' := [(h0, .inr (1, [v0, v1, v2, .int 4]))]) [0] rfl
  have hD9 := hD.sub (ws' := [(h0, .inr (1, [v0, v1, v2, .int 4]))]) [0] (by decide) rfl
  have hK9 := hK.sub (tys' := []) [] rfl
  refine W.widen (k := 0) (n := 0) (Nat.le_of_ble_eq_true rfl) (Nat.le_of_ble_eq_true rfl) ?_
  exact W.iret (v := 4) hx hb hr (fun t ht hW => ⟨⟨_, (), rfl, rfl, by rw [ht]; exact hP9, va_K.moved hW.alike hK9, hD9⟩, hS.F ht⟩) hS.2.2 dJ4_length_8abf5_4

set_option maxHeartbeats 4000000 in
set_option maxRecDepth 100000 in
theorem kX3_addPlace_4 (l : Launch) (dC : Nat → ClassId) (dI : Nat → Nat → Nat) (g : Nat → Nat) (sz : Nat) (h0 : Nat) (h1 : Nat) (h2 : Nat) (h3 : Nat) (h4 : Nat) (h5 : Nat) (h6 : Nat) (h7 : Nat) (h8 : Nat) (h9 : Nat) (h10 : Nat) (h11 : Nat) (h12 : Nat) (v0 : Value) (v1 : Value) (v2 : Value) (cc0 : ClassId) (f0 : Nat → Int32) (cc1 : ClassId) (f1 : Nat → Int32) (cc2 : ClassId) (f2 : Nat → Int32) (cc3 : ClassId) (f3 : Nat → Int32) (cc4 : ClassId) (f4 : Nat → Int32) (cc5 : ClassId) (f5 : Nat → Int32) : Met l yX3_addPlace wbX3_addPlace ({ frames := 1, cells := 0, slots := 0, locals := 21 }) (va_Pc [.ref h0, .int 0, .int 0, .int 4, .int 0, .int 1, .int 1] (fun U => U.heap.size = sz ∧ va_P (dC, dI) vwCl [(h0, .inr (10, [v0, .ref h1, .ref h3, .ref h5, .ref h7, .ref h9, .ref h11, v1, v2])), (h1, .inr (11, [.ref h2, .int 0])), (h2, .inl (cc0, 4960, .inl f0)), (h3, .inr (11, [.ref h4, .int 0])), (h4, .inl (cc1, 4960, .inl f1)), (h5, .inr (11, [.ref h6, .int 0])), (h6, .inl (cc2, 4960, .inl f2)), (h7, .inr (11, [.ref h8, .int 0])), (h8, .inl (cc3, 4960, .inl f3)), (h9, .inr (11, [.ref h10, .int 0])), (h10, .inl (cc4, 4960, .inl f4)), (h11, .inr (11, [.ref h12, .int 0])), (h12, .inl (cc5, 4960, .inl f5))] U.heap ∧ va_K (dC, dI) vwCl [(cc0, .int), (cc1, .int), (cc2, .int), (cc3, .int), (cc4, .int), (cc5, .int)] U ∧ va_D (fun _ => True) [(h0, .inr (10, [v0, .ref h1, .ref h3, .ref h5, .ref h7, .ref h9, .ref h11, v1, v2])), (h1, .inr (11, [.ref h2, .int 0])), (h2, .inl (cc0, 4960, .inl f0)), (h3, .inr (11, [.ref h4, .int 0])), (h4, .inl (cc1, 4960, .inl f1)), (h5, .inr (11, [.ref h6, .int 0])), (h6, .inl (cc2, 4960, .inl f2)), (h7, .inr (11, [.ref h8, .int 0])), (h8, .inl (cc3, 4960, .inl f3)), (h9, .inr (11, [.ref h10, .int 0])), (h10, .inl (cc4, 4960, .inl f4)), (h11, .inr (11, [.ref h12, .int 0])), (h12, .inl (cc5, 4960, .inl f5))] ∧ ns_F g (va_A [(h0, .inr (10, [v0, .ref h1, .ref h3, .ref h5, .ref h7, .ref h9, .ref h11, v1, v2])), (h1, .inr (11, [.ref h2, .int 0])), (h2, .inl (cc0, 4960, .inl f0)), (h3, .inr (11, [.ref h4, .int 0])), (h4, .inl (cc1, 4960, .inl f1)), (h5, .inr (11, [.ref h6, .int 0])), (h6, .inl (cc2, 4960, .inl f2)), (h7, .inr (11, [.ref h8, .int 0])), (h8, .inl (cc3, 4960, .inl f3)), (h9, .inr (11, [.ref h10, .int 0])), (h10, .inl (cc4, 4960, .inl f4)), (h11, .inr (11, [.ref h12, .int 0])), (h12, .inl (cc5, 4960, .inl f5))] sz) U U.heap)) (va_Qi (fun (r : Int32) (_ : Unit) => r = 0) (fun _ t => va_P (dC, dI) vwCl [(h0, .inr (10, [v0, .ref h1, .ref h3, .ref h5, .ref h7, .ref h9, .ref h11, v1, v2])), (h2, .inl (cc0, 4960, .inl (upd (f0) 0 0))), (h3, .inr (11, [.ref h4, .int 1])), (h4, .inl (cc1, 4960, .inl (upd (f1) 0 0))), (h5, .inr (11, [.ref h6, .int 1])), (h6, .inl (cc2, 4960, .inl (upd (f2) 0 4))), (h7, .inr (11, [.ref h8, .int 1])), (h8, .inl (cc3, 4960, .inl (upd (f3) 0 0))), (h9, .inr (11, [.ref h10, .int 1])), (h10, .inl (cc4, 4960, .inl (upd (f4) 0 1))), (h11, .inr (11, [.ref h12, .int 1])), (h12, .inl (cc5, 4960, .inl (upd (f5) 0 1))), (h1, .inr (11, [.ref h2, .int 1]))] t.heap ∧ va_K (dC, dI) vwCl [(cc0, .int), (cc1, .int), (cc2, .int), (cc3, .int), (cc4, .int), (cc5, .int)] t ∧ va_D (va_A [(h0, .inr (10, [v0, .ref h1, .ref h3, .ref h5, .ref h7, .ref h9, .ref h11, v1, v2])), (h1, .inr (11, [.ref h2, .int 0])), (h2, .inl (cc0, 4960, .inl f0)), (h3, .inr (11, [.ref h4, .int 0])), (h4, .inl (cc1, 4960, .inl f1)), (h5, .inr (11, [.ref h6, .int 0])), (h6, .inl (cc2, 4960, .inl f2)), (h7, .inr (11, [.ref h8, .int 0])), (h8, .inl (cc3, 4960, .inl f3)), (h9, .inr (11, [.ref h10, .int 0])), (h10, .inl (cc4, 4960, .inl f4)), (h11, .inr (11, [.ref h12, .int 0])), (h12, .inl (cc5, 4960, .inl f5))] sz) [(h0, .inr (10, [v0, .ref h1, .ref h3, .ref h5, .ref h7, .ref h9, .ref h11, v1, v2])), (h2, .inl (cc0, 4960, .inl (upd (f0) 0 0))), (h3, .inr (11, [.ref h4, .int 1])), (h4, .inl (cc1, 4960, .inl (upd (f1) 0 0))), (h5, .inr (11, [.ref h6, .int 1])), (h6, .inl (cc2, 4960, .inl (upd (f2) 0 4))), (h7, .inr (11, [.ref h8, .int 1])), (h8, .inl (cc3, 4960, .inl (upd (f3) 0 0))), (h9, .inr (11, [.ref h10, .int 1])), (h10, .inl (cc4, 4960, .inl (upd (f4) 0 1))), (h11, .inr (11, [.ref h12, .int 1])), (h12, .inl (cc5, 4960, .inl (upd (f5) 0 1))), (h1, .inr (11, [.ref h2, .int 1]))]) (va_A [(h0, .inr (10, [v0, .ref h1, .ref h3, .ref h5, .ref h7, .ref h9, .ref h11, v1, v2])), (h1, .inr (11, [.ref h2, .int 0])), (h2, .inl (cc0, 4960, .inl f0)), (h3, .inr (11, [.ref h4, .int 0])), (h4, .inl (cc1, 4960, .inl f1)), (h5, .inr (11, [.ref h6, .int 0])), (h6, .inl (cc2, 4960, .inl f2)), (h7, .inr (11, [.ref h8, .int 0])), (h8, .inl (cc3, 4960, .inl f3)), (h9, .inr (11, [.ref h10, .int 0])), (h10, .inl (cc4, 4960, .inl f4)), (h11, .inr (11, [.ref h12, .int 0])), (h12, .inl (cc5, 4960, .inl f5))] sz)) 0 0 (va_A [(h0, .inr (10, [v0, .ref h1, .ref h3, .ref h5, .ref h7, .ref h9, .ref h11, v1, v2])), (h1, .inr (11, [.ref h2, .int 0])), (h2, .inl (cc0, 4960, .inl f0)), (h3, .inr (11, [.ref h4, .int 0])), (h4, .inl (cc1, 4960, .inl f1)), (h5, .inr (11, [.ref h6, .int 0])), (h6, .inl (cc2, 4960, .inl f2)), (h7, .inr (11, [.ref h8, .int 0])), (h8, .inl (cc3, 4960, .inl f3)), (h9, .inr (11, [.ref h10, .int 0])), (h10, .inl (cc4, 4960, .inl f4)), (h11, .inr (11, [.ref h12, .int 0])), (h12, .inl (cc5, 4960, .inl f5))] sz) := by
  refine Met.ofW (cc := cX3_addPlace) (maxL := 7) (ret := (some .int)) (by decide) rfl ?_
  intro p e s m args below meth c s₁ B hml hv
  obtain ⟨rfl, hsz, hP, hK, hD0, hF⟩ := hv
  have hx := B.exec
  have hb := B.bytes
  have hr := B.returns
  have hts := atoms_spec (ws := wbX3_addPlace) B.pre
  have hta : ∀ w ∈ wsALL, w.before _ s = true := fun w h => hts w (List.mem_cons_of_mem _ h)
  have hown : s.vm.findClass RX3 = some m.cls := findClass_of_methodNamed B.named
  have hlocks := B.notSynchronized
  subst hsz
  have hD := hD0.self (sz := s.heap.size)
  generalize hAe : va_A [(h0, .inr (10, [v0, .ref h1, .ref h3, .ref h5, .ref h7, .ref h9, .ref h11, v1, v2])), (h1, .inr (11, [.ref h2, .int 0])), (h2, .inl (cc0, 4960, .inl f0)), (h3, .inr (11, [.ref h4, .int 0])), (h4, .inl (cc1, 4960, .inl f1)), (h5, .inr (11, [.ref h6, .int 0])), (h6, .inl (cc2, 4960, .inl f2)), (h7, .inr (11, [.ref h8, .int 0])), (h8, .inl (cc3, 4960, .inl f3)), (h9, .inr (11, [.ref h10, .int 0])), (h10, .inl (cc4, 4960, .inl f4)), (h11, .inr (11, [.ref h12, .int 0])), (h12, .inl (cc5, 4960, .inl f5))] s.heap.size = A at hD hF ⊢
  have hA : ∀ q : Nat, s.heap.size ≤ q → A q := fun q h => by rw [← hAe]; exact Or.inr h
  have hS : va_S A s.heap s.heap [] := va_S.rf
  have hP : va_P (dC, dI) vwCl [(h0, .inr (10, [v0, .ref h1, .ref h3, .ref h5, .ref h7, .ref h9, .ref h11, v1, v2])), (h1, .inr (11, [.ref h2, .int 0])), (h2, .inl (cc0, 4960, .inl f0)), (h3, .inr (11, [.ref h4, .int 0])), (h4, .inl (cc1, 4960, .inl f1)), (h5, .inr (11, [.ref h6, .int 0])), (h6, .inl (cc2, 4960, .inl f2)), (h7, .inr (11, [.ref h8, .int 0])), (h8, .inl (cc3, 4960, .inl f3)), (h9, .inr (11, [.ref h10, .int 0])), (h10, .inl (cc4, 4960, .inl f4)), (h11, .inr (11, [.ref h12, .int 0])), (h12, .inl (cc5, 4960, .inl f5))] s.heap := hP
  have hl := lv_entry ([.ref h0, .int 0, .int 0, .int 4, .int 0, .int 1, .int 1]) (n := 7) (Nat.le_of_ble_eq_true rfl)
  rw [lg_entry_eq]
  generalize (lg_sl ([.ref h0, .int 0, .int 0, .int 4, .int 0, .int 1, .int 1]) ++ List.replicate (7 - (lg_sl ([.ref h0, .int 0, .int 0, .int 4, .int 0, .int 1, .int 1])).length) Slot.unset).toArray = ls at hl ⊢
  have hl : lv_has ls 7 [(0, .ref h0), (1, .int 0), (2, .int 0), (3, .int 4), (4, .int 0), (5, .int 1), (6, .int 1)] := hl
  refine lv_aload_n hx hb dX3_addPlace_0 rfl (lv_at hl 0 rfl) ?_
  refine va_get (D := (dC, dI)) (ci := 10) (v := .ref h1) (C := RX3) (T := TX3) (N := 9) hx hb hta naX3 hown hK hP 0 rfl rfl 1 (by decide) (hta _ wm19) (fun _ h9 => h9) rfl dX3_addPlace_1 ?_
  refine lv_iload_n hx hb dX3_addPlace_4 rfl (lv_at hl 1 rfl) ?_
  have hPc := hP.sub (ws' := [(h1, .inr (11, [.ref h2, .int 0])), (h2, .inl (cc0, 4960, .inl f0))]) [1, 2] rfl
  have hDc := hD.sub (ws' := [(h1, .inr (11, [.ref h2, .int 0])), (h2, .inl (cc0, 4960, .inl f0))]) [1, 2] (by decide) rfl
  have hKc := hK.sub (tys' := [(cc0, .int)]) [0] rfl
  have hFc := va_free (wc := [(h1, .inr (11, [.ref h2, .int 0])), (h2, .inl (cc0, 4960, .inl f0))]) hD hS hA [1, 2] rfl
  refine va_callv (va_runV (As := [.int 0]) (rest := []) ⟨hx, hb, hml, hown, hts⟩ (kX4_add_2 l dC dI g s.heap.size h1 h2 cc0 f0 ) (cwV 1 hts (ns_gp (List.forall_mem_cons.mpr ⟨wm257, (List.forall_mem_cons.mpr ⟨wm258, (List.forall_mem_cons.mpr ⟨wm259, (List.forall_mem_cons.mpr ⟨wm12, (fun _ h9 => nomatch h9)⟩)⟩)⟩)⟩) wm256) rfl rfl rfl (by decide +kernel) ⟨Nat.le_of_ble_eq_true rfl, Nat.le_of_ble_eq_true rfl⟩) ⟨fun a U gg mk q => by obtain ⟨q0, q1, qP, qK, qD, qF⟩ := q; exact ⟨q0, q1, qP, va_K.moved (u := U) (U := U.calling gg mk a) (Vm.Alike.refl U.vm) qK, qD, ns_same qF⟩, va_recv hK hP (ci := 11) (q0 := 1) rfl rfl, fun U hU hW => ⟨rfl, by rw [hU], by rw [hU]; exact hPc, va_K.moved hW.alike hKc, hDc.weaken (fun _ _ _ _ => trivial), ns_call hF hS hFc hU hW⟩⟩ rfl rfl hl.1 rfl (lv_room (Nat.le_of_ble_eq_true rfl)) dX3_addPlace_5 ⟨Nat.le_of_ble_eq_true rfl, Nat.le_of_ble_eq_true rfl⟩) hS (fun q _ h => hFc q h) hFc (fun u t H1 locs ht hvm hw hB hz1 hk1 hS => ?_)
  obtain ⟨hP1, hK1, hD1⟩ := hB
  rw [ht] at hP1
  have hK1 := va_K.moved hvm.symm hK1
  obtain ⟨hP, hD⟩ := va_join (wr := [(h0, .inr (10, [v0, .ref h1, .ref h3, .ref h5, .ref h7, .ref h9, .ref h11, v1, v2])), (h3, .inr (11, [.ref h4, .int 0])), (h4, .inl (cc1, 4960, .inl f1)), (h5, .inr (11, [.ref h6, .int 0])), (h6, .inl (cc2, 4960, .inl f2)), (h7, .inr (11, [.ref h8, .int 0])), (h8, .inl (cc3, 4960, .inl f3)), (h9, .inr (11, [.ref h10, .int 0])), (h10, .inl (cc4, 4960, .inl f4)), (h11, .inr (11, [.ref h12, .int 0])), (h12, .inl (cc5, 4960, .inl f5))]) (w1 := [(h1, .inr (11, [.ref h2, .int 1])), (h2, .inl (cc0, 4960, .inl (upd (f0) 0 0)))]) hP hD [1, 2] [0, 3, 4, 5, 6, 7, 8, 9, 10, 11, 12] rfl rfl (by decide) (by decide) hk1 hFc hP1 hD1
  have hK := (hK.sub (tys' := [(cc1, .int), (cc2, .int), (cc3, .int), (cc4, .int), (cc5, .int)]) [1, 2, 3, 4, 5] rfl).app hK1
  generalize H1 = H at hP hS ⊢
  have hP : va_P (dC, dI) vwCl [(h0, .inr (10, [v0, .ref h1, .ref h3, .ref h5, .ref h7, .ref h9, .ref h11, v1, v2])), (h3, .inr (11, [.ref h4, .int 0])), (h4, .inl (cc1, 4960, .inl f1)), (h5, .inr (11, [.ref h6, .int 0])), (h6, .inl (cc2, 4960, .inl f2)), (h7, .inr (11, [.ref h8, .int 0])), (h8, .inl (cc3, 4960, .inl f3)), (h9, .inr (11, [.ref h10, .int 0])), (h10, .inl (cc4, 4960, .inl f4)), (h11, .inr (11, [.ref h12, .int 0])), (h12, .inl (cc5, 4960, .inl f5)), (h1, .inr (11, [.ref h2, .int 1])), (h2, .inl (cc0, 4960, .inl (upd (f0) 0 0)))] H := hP
  have hD : va_D A [(h0, .inr (10, [v0, .ref h1, .ref h3, .ref h5, .ref h7, .ref h9, .ref h11, v1, v2])), (h3, .inr (11, [.ref h4, .int 0])), (h4, .inl (cc1, 4960, .inl f1)), (h5, .inr (11, [.ref h6, .int 0])), (h6, .inl (cc2, 4960, .inl f2)), (h7, .inr (11, [.ref h8, .int 0])), (h8, .inl (cc3, 4960, .inl f3)), (h9, .inr (11, [.ref h10, .int 0])), (h10, .inl (cc4, 4960, .inl f4)), (h11, .inr (11, [.ref h12, .int 0])), (h12, .inl (cc5, 4960, .inl f5)), (h1, .inr (11, [.ref h2, .int 1])), (h2, .inl (cc0, 4960, .inl (upd (f0) 0 0)))] := hD
  have hK : va_K (dC, dI) vwCl [(cc1, .int), (cc2, .int), (cc3, .int), (cc4, .int), (cc5, .int), (cc0, .int)] s := hK
  refine W.widen (k := 0) (n := 0) (Nat.le_of_ble_eq_true rfl) (Nat.le_of_ble_eq_true rfl) ?_
  refine lv_aload_n hx hb dX3_addPlace_8 rfl (lv_at hl 0 rfl) ?_
  refine va_get (D := (dC, dI)) (ci := 10) (v := .ref h3) (C := RX3) (T := TX3) (N := 9) hx hb hta naX3 hown hK hP 0 rfl rfl 2 (by decide) (hta _ wm20) (fun _ h9 => h9) rfl dX3_addPlace_9 ?_
  refine lv_iload_n hx hb dX3_addPlace_12 rfl (lv_at hl 2 rfl) ?_
  have hPc := hP.sub (ws' := [(h3, .inr (11, [.ref h4, .int 0])), (h4, .inl (cc1, 4960, .inl f1))]) [1, 2] rfl
  have hDc := hD.sub (ws' := [(h3, .inr (11, [.ref h4, .int 0])), (h4, .inl (cc1, 4960, .inl f1))]) [1, 2] (by decide) rfl
  have hKc := hK.sub (tys' := [(cc1, .int)]) [0] rfl
  have hFc := va_free (wc := [(h3, .inr (11, [.ref h4, .int 0])), (h4, .inl (cc1, 4960, .inl f1))]) hD hS hA [1, 2] rfl
  refine va_callv (va_runV (As := [.int 0]) (rest := []) ⟨hx, hb, hml, hown, hts⟩ (kX4_add_2 l dC dI g H.size h3 h4 cc1 f1 ) (cwV 1 hts (ns_gp (List.forall_mem_cons.mpr ⟨wm257, (List.forall_mem_cons.mpr ⟨wm258, (List.forall_mem_cons.mpr ⟨wm259, (List.forall_mem_cons.mpr ⟨wm12, (fun _ h9 => nomatch h9)⟩)⟩)⟩)⟩) wm256) rfl rfl rfl (by decide +kernel) ⟨Nat.le_of_ble_eq_true rfl, Nat.le_of_ble_eq_true rfl⟩) ⟨fun a U gg mk q => by obtain ⟨q0, q1, qP, qK, qD, qF⟩ := q; exact ⟨q0, q1, qP, va_K.moved (u := U) (U := U.calling gg mk a) (Vm.Alike.refl U.vm) qK, qD, ns_same qF⟩, va_recv hK hP (ci := 11) (q0 := 1) rfl rfl, fun U hU hW => ⟨rfl, by rw [hU], by rw [hU]; exact hPc, va_K.moved hW.alike hKc, hDc.weaken (fun _ _ _ _ => trivial), ns_call hF hS hFc hU hW⟩⟩ rfl rfl hl.1 rfl (lv_room (Nat.le_of_ble_eq_true rfl)) dX3_addPlace_13 ⟨Nat.le_of_ble_eq_true rfl, Nat.le_of_ble_eq_true rfl⟩) hS (fun q _ h => hFc q h) hFc (fun u t H1 locs ht hvm hw hB hz1 hk1 hS => ?_)
  obtain ⟨hP1, hK1, hD1⟩ := hB
  rw [ht] at hP1
  have hK1 := va_K.moved hvm.symm hK1
  obtain ⟨hP, hD⟩ := va_join (wr := [(h0, .inr (10, [v0, .ref h1, .ref h3, .ref h5, .ref h7, .ref h9, .ref h11, v1, v2])), (h5, .inr (11, [.ref h6, .int 0])), (h6, .inl (cc2, 4960, .inl f2)), (h7, .inr (11, [.ref h8, .int 0])), (h8, .inl (cc3, 4960, .inl f3)), (h9, .inr (11, [.ref h10, .int 0])), (h10, .inl (cc4, 4960, .inl f4)), (h11, .inr (11, [.ref h12, .int 0])), (h12, .inl (cc5, 4960, .inl f5)), (h1, .inr (11, [.ref h2, .int 1])), (h2, .inl (cc0, 4960, .inl (upd (f0) 0 0)))]) (w1 := [(h3, .inr (11, [.ref h4, .int 1])), (h4, .inl (cc1, 4960, .inl (upd (f1) 0 0)))]) hP hD [1, 2] [0, 3, 4, 5, 6, 7, 8, 9, 10, 11, 12] rfl rfl (by decide) (by decide) hk1 hFc hP1 hD1
  have hK := (hK.sub (tys' := [(cc2, .int), (cc3, .int), (cc4, .int), (cc5, .int), (cc0, .int)]) [1, 2, 3, 4, 5] rfl).app hK1
  generalize H1 = H at hP hS ⊢
  have hP : va_P (dC, dI) vwCl [(h0, .inr (10, [v0, .ref h1, .ref h3, .ref h5, .ref h7, .ref h9, .ref h11, v1, v2])), (h5, .inr (11, [.ref h6, .int 0])), (h6, .inl (cc2, 4960, .inl f2)), (h7, .inr (11, [.ref h8, .int 0])), (h8, .inl (cc3, 4960, .inl f3)), (h9, .inr (11, [.ref h10, .int 0])), (h10, .inl (cc4, 4960, .inl f4)), (h11, .inr (11, [.ref h12, .int 0])), (h12, .inl (cc5, 4960, .inl f5)), (h1, .inr (11, [.ref h2, .int 1])), (h2, .inl (cc0, 4960, .inl (upd (f0) 0 0))), (h3, .inr (11, [.ref h4, .int 1])), (h4, .inl (cc1, 4960, .inl (upd (f1) 0 0)))] H := hP
  have hD : va_D A [(h0, .inr (10, [v0, .ref h1, .ref h3, .ref h5, .ref h7, .ref h9, .ref h11, v1, v2])), (h5, .inr (11, [.ref h6, .int 0])), (h6, .inl (cc2, 4960, .inl f2)), (h7, .inr (11, [.ref h8, .int 0])), (h8, .inl (cc3, 4960, .inl f3)), (h9, .inr (11, [.ref h10, .int 0])), (h10, .inl (cc4, 4960, .inl f4)), (h11, .inr (11, [.ref h12, .int 0])), (h12, .inl (cc5, 4960, .inl f5)), (h1, .inr (11, [.ref h2, .int 1])), (h2, .inl (cc0, 4960, .inl (upd (f0) 0 0))), (h3, .inr (11, [.ref h4, .int 1])), (h4, .inl (cc1, 4960, .inl (upd (f1) 0 0)))] := hD
  have hK : va_K (dC, dI) vwCl [(cc2, .int), (cc3, .int), (cc4, .int), (cc5, .int), (cc0, .int), (cc1, .int)] s := hK
  refine W.widen (k := 0) (n := 0) (Nat.le_of_ble_eq_true rfl) (Nat.le_of_ble_eq_true rfl) ?_
  refine lv_aload_n hx hb dX3_addPlace_16 rfl (lv_at hl 0 rfl) ?_
  refine va_get (D := (dC, dI)) (ci := 10) (v := .ref h5) (C := RX3) (T := TX3) (N := 9) hx hb hta naX3 hown hK hP 0 rfl rfl 3 (by decide) (hta _ wm21) (fun _ h9 => h9) rfl dX3_addPlace_17 ?_
  refine lv_iload_n hx hb dX3_addPlace_20 rfl (lv_at hl 3 rfl) ?_
  have hPc := hP.sub (ws' := [(h5, .inr (11, [.ref h6, .int 0])), (h6, .inl (cc2, 4960, .inl f2))]) [1, 2] rfl
  have hDc := hD.sub (ws' := [(h5, .inr (11, [.ref h6, .int 0])), (h6, .inl (cc2, 4960, .inl f2))]) [1, 2] (by decide) rfl
  have hKc := hK.sub (tys' := [(cc2, .int)]) [0] rfl
  have hFc := va_free (wc := [(h5, .inr (11, [.ref h6, .int 0])), (h6, .inl (cc2, 4960, .inl f2))]) hD hS hA [1, 2] rfl
  refine va_callv (va_runV (As := [.int 4]) (rest := []) ⟨hx, hb, hml, hown, hts⟩ (kX4_add_10 l dC dI g H.size h5 h6 cc2 f2 ) (cwV 1 hts (ns_gp (List.forall_mem_cons.mpr ⟨wm257, (List.forall_mem_cons.mpr ⟨wm258, (List.forall_mem_cons.mpr ⟨wm259, (List.forall_mem_cons.mpr ⟨wm12, (fun _ h9 => nomatch h9)⟩)⟩)⟩)⟩) wm256) rfl rfl rfl (by decide +kernel) ⟨Nat.le_of_ble_eq_true rfl, Nat.le_of_ble_eq_true rfl⟩) ⟨fun a U gg mk q => by obtain ⟨q0, q1, qP, qK, qD, qF⟩ := q; exact ⟨q0, q1, qP, va_K.moved (u := U) (U := U.calling gg mk a) (Vm.Alike.refl U.vm) qK, qD, ns_same qF⟩, va_recv hK hP (ci := 11) (q0 := 1) rfl rfl, fun U hU hW => ⟨rfl, by rw [hU], by rw [hU]; exact hPc, va_K.moved hW.alike hKc, hDc.weaken (fun _ _ _ _ => trivial), ns_call hF hS hFc hU hW⟩⟩ rfl rfl hl.1 rfl (lv_room (Nat.le_of_ble_eq_true rfl)) dX3_addPlace_21 ⟨Nat.le_of_ble_eq_true rfl, Nat.le_of_ble_eq_true rfl⟩) hS (fun q _ h => hFc q h) hFc (fun u t H1 locs ht hvm hw hB hz1 hk1 hS => ?_)
  obtain ⟨hP1, hK1, hD1⟩ := hB
  rw [ht] at hP1
  have hK1 := va_K.moved hvm.symm hK1
  obtain ⟨hP, hD⟩ := va_join (wr := [(h0, .inr (10, [v0, .ref h1, .ref h3, .ref h5, .ref h7, .ref h9, .ref h11, v1, v2])), (h7, .inr (11, [.ref h8, .int 0])), (h8, .inl (cc3, 4960, .inl f3)), (h9, .inr (11, [.ref h10, .int 0])), (h10, .inl (cc4, 4960, .inl f4)), (h11, .inr (11, [.ref h12, .int 0])), (h12, .inl (cc5, 4960, .inl f5)), (h1, .inr (11, [.ref h2, .int 1])), (h2, .inl (cc0, 4960, .inl (upd (f0) 0 0))), (h3, .inr (11, [.ref h4, .int 1])), (h4, .inl (cc1, 4960, .inl (upd (f1) 0 0)))]) (w1 := [(h5, .inr (11, [.ref h6, .int 1])), (h6, .inl (cc2, 4960, .inl (upd (f2) 0 4)))]) hP hD [1, 2] [0, 3, 4, 5, 6, 7, 8, 9, 10, 11, 12] rfl rfl (by decide) (by decide) hk1 hFc hP1 hD1
  have hK := (hK.sub (tys' := [(cc3, .int), (cc4, .int), (cc5, .int), (cc0, .int), (cc1, .int)]) [1, 2, 3, 4, 5] rfl).app hK1
  generalize H1 = H at hP hS ⊢
  have hP : va_P (dC, dI) vwCl [(h0, .inr (10, [v0, .ref h1, .ref h3, .ref h5, .ref h7, .ref h9, .ref h11, v1, v2])), (h7, .inr (11, [.ref h8, .int 0])), (h8, .inl (cc3, 4960, .inl f3)), (h9, .inr (11, [.ref h10, .int 0])), (h10, .inl (cc4, 4960, .inl f4)), (h11, .inr (11, [.ref h12, .int 0])), (h12, .inl (cc5, 4960, .inl f5)), (h1, .inr (11, [.ref h2, .int 1])), (h2, .inl (cc0, 4960, .inl (upd (f0) 0 0))), (h3, .inr (11, [.ref h4, .int 1])), (h4, .inl (cc1, 4960, .inl (upd (f1) 0 0))), (h5, .inr (11, [.ref h6, .int 1])), (h6, .inl (cc2, 4960, .inl (upd (f2) 0 4)))] H := hP
  have hD : va_D A [(h0, .inr (10, [v0, .ref h1, .ref h3, .ref h5, .ref h7, .ref h9, .ref h11, v1, v2])), (h7, .inr (11, [.ref h8, .int 0])), (h8, .inl (cc3, 4960, .inl f3)), (h9, .inr (11, [.ref h10, .int 0])), (h10, .inl (cc4, 4960, .inl f4)), (h11, .inr (11, [.ref h12, .int 0])), (h12, .inl (cc5, 4960, .inl f5)), (h1, .inr (11, [.ref h2, .int 1])), (h2, .inl (cc0, 4960, .inl (upd (f0) 0 0))), (h3, .inr (11, [.ref h4, .int 1])), (h4, .inl (cc1, 4960, .inl (upd (f1) 0 0))), (h5, .inr (11, [.ref h6, .int 1])), (h6, .inl (cc2, 4960, .inl (upd (f2) 0 4)))] := hD
  have hK : va_K (dC, dI) vwCl [(cc3, .int), (cc4, .int), (cc5, .int), (cc0, .int), (cc1, .int), (cc2, .int)] s := hK
  refine W.widen (k := 0) (n := 0) (Nat.le_of_ble_eq_true rfl) (Nat.le_of_ble_eq_true rfl) ?_
  refine lv_aload_n hx hb dX3_addPlace_24 rfl (lv_at hl 0 rfl) ?_
  refine va_get (D := (dC, dI)) (ci := 10) (v := .ref h7) (C := RX3) (T := TX3) (N := 9) hx hb hta naX3 hown hK hP 0 rfl rfl 4 (by decide) (hta _ wm22) (fun _ h9 => h9) rfl dX3_addPlace_25 ?_
  refine lv_iload hx hb dX3_addPlace_28 (lv_at hl 4 rfl) ?_
  have hPc := hP.sub (ws' := [(h7, .inr (11, [.ref h8, .int 0])), (h8, .inl (cc3, 4960, .inl f3))]) [1, 2] rfl
  have hDc := hD.sub (ws' := [(h7, .inr (11, [.ref h8, .int 0])), (h8, .inl (cc3, 4960, .inl f3))]) [1, 2] (by decide) rfl
  have hKc := hK.sub (tys' := [(cc3, .int)]) [0] rfl
  have hFc := va_free (wc := [(h7, .inr (11, [.ref h8, .int 0])), (h8, .inl (cc3, 4960, .inl f3))]) hD hS hA [1, 2] rfl
  refine va_callv (va_runV (As := [.int 0]) (rest := []) ⟨hx, hb, hml, hown, hts⟩ (kX4_add_2 l dC dI g H.size h7 h8 cc3 f3 ) (cwV 1 hts (ns_gp (List.forall_mem_cons.mpr ⟨wm257, (List.forall_mem_cons.mpr ⟨wm258, (List.forall_mem_cons.mpr ⟨wm259, (List.forall_mem_cons.mpr ⟨wm12, (fun _ h9 => nomatch h9)⟩)⟩)⟩)⟩) wm256) rfl rfl rfl (by decide +kernel) ⟨Nat.le_of_ble_eq_true rfl, Nat.le_of_ble_eq_true rfl⟩) ⟨fun a U gg mk q => by obtain ⟨q0, q1, qP, qK, qD, qF⟩ := q; exact ⟨q0, q1, qP, va_K.moved (u := U) (U := U.calling gg mk a) (Vm.Alike.refl U.vm) qK, qD, ns_same qF⟩, va_recv hK hP (ci := 11) (q0 := 1) rfl rfl, fun U hU hW => ⟨rfl, by rw [hU], by rw [hU]; exact hPc, va_K.moved hW.alike hKc, hDc.weaken (fun _ _ _ _ => trivial), ns_call hF hS hFc hU hW⟩⟩ rfl rfl hl.1 rfl (lv_room (Nat.le_of_ble_eq_true rfl)) dX3_addPlace_30 ⟨Nat.le_of_ble_eq_true rfl, Nat.le_of_ble_eq_true rfl⟩) hS (fun q _ h => hFc q h) hFc (fun u t H1 locs ht hvm hw hB hz1 hk1 hS => ?_)
  obtain ⟨hP1, hK1, hD1⟩ := hB
  rw [ht] at hP1
  have hK1 := va_K.moved hvm.symm hK1
  obtain ⟨hP, hD⟩ := va_join (wr := [(h0, .inr (10, [v0, .ref h1, .ref h3, .ref h5, .ref h7, .ref h9, .ref h11, v1, v2])), (h9, .inr (11, [.ref h10, .int 0])), (h10, .inl (cc4, 4960, .inl f4)), (h11, .inr (11, [.ref h12, .int 0])), (h12, .inl (cc5, 4960, .inl f5)), (h1, .inr (11, [.ref h2, .int 1])), (h2, .inl (cc0, 4960, .inl (upd (f0) 0 0))), (h3, .inr (11, [.ref h4, .int 1])), (h4, .inl (cc1, 4960, .inl (upd (f1) 0 0))), (h5, .inr (11, [.ref h6, .int 1])), (h6, .inl (cc2, 4960, .inl (upd (f2) 0 4)))]) (w1 := [(h7, .inr (11, [.ref h8, .int 1])), (h8, .inl (cc3, 4960, .inl (upd (f3) 0 0)))]) hP hD [1, 2] [0, 3, 4, 5, 6, 7, 8, 9, 10, 11, 12] rfl rfl (by decide) (by decide) hk1 hFc hP1 hD1
  have hK := (hK.sub (tys' := [(cc4, .int), (cc5, .int), (cc0, .int), (cc1, .int), (cc2, .int)]) [1, 2, 3, 4, 5] rfl).app hK1
  generalize H1 = H at hP hS ⊢
  have hP : va_P (dC, dI) vwCl [(h0, .inr (10, [v0, .ref h1, .ref h3, .ref h5, .ref h7, .ref h9, .ref h11, v1, v2])), (h9, .inr (11, [.ref h10, .int 0])), (h10, .inl (cc4, 4960, .inl f4)), (h11, .inr (11, [.ref h12, .int 0])), (h12, .inl (cc5, 4960, .inl f5)), (h1, .inr (11, [.ref h2, .int 1])), (h2, .inl (cc0, 4960, .inl (upd (f0) 0 0))), (h3, .inr (11, [.ref h4, .int 1])), (h4, .inl (cc1, 4960, .inl (upd (f1) 0 0))), (h5, .inr (11, [.ref h6, .int 1])), (h6, .inl (cc2, 4960, .inl (upd (f2) 0 4))), (h7, .inr (11, [.ref h8, .int 1])), (h8, .inl (cc3, 4960, .inl (upd (f3) 0 0)))] H := hP
  have hD : va_D A [(h0, .inr (10, [v0, .ref h1, .ref h3, .ref h5, .ref h7, .ref h9, .ref h11, v1, v2])), (h9, .inr (11, [.ref h10, .int 0])), (h10, .inl (cc4, 4960, .inl f4)), (h11, .inr (11, [.ref h12, .int 0])), (h12, .inl (cc5, 4960, .inl f5)), (h1, .inr (11, [.ref h2, .int 1])), (h2, .inl (cc0, 4960, .inl (upd (f0) 0 0))), (h3, .inr (11, [.ref h4, .int 1])), (h4, .inl (cc1, 4960, .inl (upd (f1) 0 0))), (h5, .inr (11, [.ref h6, .int 1])), (h6, .inl (cc2, 4960, .inl (upd (f2) 0 4))), (h7, .inr (11, [.ref h8, .int 1])), (h8, .inl (cc3, 4960, .inl (upd (f3) 0 0)))] := hD
  have hK : va_K (dC, dI) vwCl [(cc4, .int), (cc5, .int), (cc0, .int), (cc1, .int), (cc2, .int), (cc3, .int)] s := hK
  refine W.widen (k := 0) (n := 0) (Nat.le_of_ble_eq_true rfl) (Nat.le_of_ble_eq_true rfl) ?_
  refine lv_aload_n hx hb dX3_addPlace_33 rfl (lv_at hl 0 rfl) ?_
  refine va_get (D := (dC, dI)) (ci := 10) (v := .ref h9) (C := RX3) (T := TX3) (N := 9) hx hb hta naX3 hown hK hP 0 rfl rfl 5 (by decide) (hta _ wm23) (fun _ h9 => h9) rfl dX3_addPlace_34 ?_
  refine lv_iload hx hb dX3_addPlace_37 (lv_at hl 5 rfl) ?_
  have hPc := hP.sub (ws' := [(h9, .inr (11, [.ref h10, .int 0])), (h10, .inl (cc4, 4960, .inl f4))]) [1, 2] rfl
  have hDc := hD.sub (ws' := [(h9, .inr (11, [.ref h10, .int 0])), (h10, .inl (cc4, 4960, .inl f4))]) [1, 2] (by decide) rfl
  have hKc := hK.sub (tys' := [(cc4, .int)]) [0] rfl
  have hFc := va_free (wc := [(h9, .inr (11, [.ref h10, .int 0])), (h10, .inl (cc4, 4960, .inl f4))]) hD hS hA [1, 2] rfl
  refine va_callv (va_runV (As := [.int 1]) (rest := []) ⟨hx, hb, hml, hown, hts⟩ (kX4_add_3 l dC dI g H.size h9 h10 cc4 f4 ) (cwV 1 hts (ns_gp (List.forall_mem_cons.mpr ⟨wm257, (List.forall_mem_cons.mpr ⟨wm258, (List.forall_mem_cons.mpr ⟨wm259, (List.forall_mem_cons.mpr ⟨wm12, (fun _ h9 => nomatch h9)⟩)⟩)⟩)⟩) wm256) rfl rfl rfl (by decide +kernel) ⟨Nat.le_of_ble_eq_true rfl, Nat.le_of_ble_eq_true rfl⟩) ⟨fun a U gg mk q => by obtain ⟨q0, q1, qP, qK, qD, qF⟩ := q; exact ⟨q0, q1, qP, va_K.moved (u := U) (U := U.calling gg mk a) (Vm.Alike.refl U.vm) qK, qD, ns_same qF⟩, va_recv hK hP (ci := 11) (q0 := 1) rfl rfl, fun U hU hW => ⟨rfl, by rw [hU], by rw [hU]; exact hPc, va_K.moved hW.alike hKc, hDc.weaken (fun _ _ _ _ => trivial), ns_call hF hS hFc hU hW⟩⟩ rfl rfl hl.1 rfl (lv_room (Nat.le_of_ble_eq_true rfl)) dX3_addPlace_39 ⟨Nat.le_of_ble_eq_true rfl, Nat.le_of_ble_eq_true rfl⟩) hS (fun q _ h => hFc q h) hFc (fun u t H1 locs ht hvm hw hB hz1 hk1 hS => ?_)
  obtain ⟨hP1, hK1, hD1⟩ := hB
  rw [ht] at hP1
  have hK1 := va_K.moved hvm.symm hK1
  obtain ⟨hP, hD⟩ := va_join (wr := [(h0, .inr (10, [v0, .ref h1, .ref h3, .ref h5, .ref h7, .ref h9, .ref h11, v1, v2])), (h11, .inr (11, [.ref h12, .int 0])), (h12, .inl (cc5, 4960, .inl f5)), (h1, .inr (11, [.ref h2, .int 1])), (h2, .inl (cc0, 4960, .inl (upd (f0) 0 0))), (h3, .inr (11, [.ref h4, .int 1])), (h4, .inl (cc1, 4960, .inl (upd (f1) 0 0))), (h5, .inr (11, [.ref h6, .int 1])), (h6, .inl (cc2, 4960, .inl (upd (f2) 0 4))), (h7, .inr (11, [.ref h8, .int 1])), (h8, .inl (cc3, 4960, .inl (upd (f3) 0 0)))]) (w1 := [(h9, .inr (11, [.ref h10, .int 1])), (h10, .inl (cc4, 4960, .inl (upd (f4) 0 1)))]) hP hD [1, 2] [0, 3, 4, 5, 6, 7, 8, 9, 10, 11, 12] rfl rfl (by decide) (by decide) hk1 hFc hP1 hD1
  have hK := (hK.sub (tys' := [(cc5, .int), (cc0, .int), (cc1, .int), (cc2, .int), (cc3, .int)]) [1, 2, 3, 4, 5] rfl).app hK1
  generalize H1 = H at hP hS ⊢
  have hP : va_P (dC, dI) vwCl [(h0, .inr (10, [v0, .ref h1, .ref h3, .ref h5, .ref h7, .ref h9, .ref h11, v1, v2])), (h11, .inr (11, [.ref h12, .int 0])), (h12, .inl (cc5, 4960, .inl f5)), (h1, .inr (11, [.ref h2, .int 1])), (h2, .inl (cc0, 4960, .inl (upd (f0) 0 0))), (h3, .inr (11, [.ref h4, .int 1])), (h4, .inl (cc1, 4960, .inl (upd (f1) 0 0))), (h5, .inr (11, [.ref h6, .int 1])), (h6, .inl (cc2, 4960, .inl (upd (f2) 0 4))), (h7, .inr (11, [.ref h8, .int 1])), (h8, .inl (cc3, 4960, .inl (upd (f3) 0 0))), (h9, .inr (11, [.ref h10, .int 1])), (h10, .inl (cc4, 4960, .inl (upd (f4) 0 1)))] H := hP
  have hD : va_D A [(h0, .inr (10, [v0, .ref h1, .ref h3, .ref h5, .ref h7, .ref h9, .ref h11, v1, v2])), (h11, .inr (11, [.ref h12, .int 0])), (h12, .inl (cc5, 4960, .inl f5)), (h1, .inr (11, [.ref h2, .int 1])), (h2, .inl (cc0, 4960, .inl (upd (f0) 0 0))), (h3, .inr (11, [.ref h4, .int 1])), (h4, .inl (cc1, 4960, .inl (upd (f1) 0 0))), (h5, .inr (11, [.ref h6, .int 1])), (h6, .inl (cc2, 4960, .inl (upd (f2) 0 4))), (h7, .inr (11, [.ref h8, .int 1])), (h8, .inl (cc3, 4960, .inl (upd (f3) 0 0))), (h9, .inr (11, [.ref h10, .int 1])), (h10, .inl (cc4, 4960, .inl (upd (f4) 0 1)))] := hD
  have hK : va_K (dC, dI) vwCl [(cc5, .int), (cc0, .int), (cc1, .int), (cc2, .int), (cc3, .int), (cc4, .int)] s := hK
  refine W.widen (k := 0) (n := 0) (Nat.le_of_ble_eq_true rfl) (Nat.le_of_ble_eq_true rfl) ?_
  refine lv_aload_n hx hb dX3_addPlace_42 rfl (lv_at hl 0 rfl) ?_
  refine va_get (D := (dC, dI)) (ci := 10) (v := .ref h11) (C := RX3) (T := TX3) (N := 9) hx hb hta naX3 hown hK hP 0 rfl rfl 6 (by decide) (hta _ wm24) (fun _ h9 => h9) rfl dX3_addPlace_43 ?_
  refine lv_iload hx hb dX3_addPlace_46 (lv_at hl 6 rfl) ?_
  have hPc := hP.sub (ws' := [(h11, .inr (11, [.ref h12, .int 0])), (h12, .inl (cc5, 4960, .inl f5))]) [1, 2] rfl
  have hDc := hD.sub (ws' := [(h11, .inr (11, [.ref h12, .int 0])), (h12, .inl (cc5, 4960, .inl f5))]) [1, 2] (by decide) rfl
  have hKc := hK.sub (tys' := [(cc5, .int)]) [0] rfl
  have hFc := va_free (wc := [(h11, .inr (11, [.ref h12, .int 0])), (h12, .inl (cc5, 4960, .inl f5))]) hD hS hA [1, 2] rfl
  refine va_callv (va_runV (As := [.int 1]) (rest := []) ⟨hx, hb, hml, hown, hts⟩ (kX4_add_3 l dC dI g H.size h11 h12 cc5 f5 ) (cwV 1 hts (ns_gp (List.forall_mem_cons.mpr ⟨wm257, (List.forall_mem_cons.mpr ⟨wm258, (List.forall_mem_cons.mpr ⟨wm259, (List.forall_mem_cons.mpr ⟨wm12, (fun _ h9 => nomatch h9)⟩)⟩)⟩)⟩) wm256) rfl rfl rfl (by decide +kernel) ⟨Nat.le_of_ble_eq_true rfl, Nat.le_of_ble_eq_true rfl⟩) ⟨fun a U gg mk q => by obtain ⟨q0, q1, qP, qK, qD, qF⟩ := q; exact ⟨q0, q1, qP, va_K.moved (u := U) (U := U.calling gg mk a) (Vm.Alike.refl U.vm) qK, qD, ns_same qF⟩, va_recv hK hP (ci := 11) (q0 := 1) rfl rfl, fun U hU hW => ⟨rfl, by rw [hU], by rw [hU]; exact hPc, va_K.moved hW.alike hKc, hDc.weaken (fun _ _ _ _ => trivial), ns_call hF hS hFc hU hW⟩⟩ rfl rfl hl.1 rfl (lv_room (Nat.le_of_ble_eq_true rfl)) dX3_addPlace_48 ⟨Nat.le_of_ble_eq_true rfl, Nat.le_of_ble_eq_true rfl⟩) hS (fun q _ h => hFc q h) hFc (fun u t H1 locs ht hvm hw hB hz1 hk1 hS => ?_)
  obtain ⟨hP1, hK1, hD1⟩ := hB
  rw [ht] at hP1
  have hK1 := va_K.moved hvm.symm hK1
  obtain ⟨hP, hD⟩ := va_join (wr := [(h0, .inr (10, [v0, .ref h1, .ref h3, .ref h5, .ref h7, .ref h9, .ref h11, v1, v2])), (h1, .inr (11, [.ref h2, .int 1])), (h2, .inl (cc0, 4960, .inl (upd (f0) 0 0))), (h3, .inr (11, [.ref h4, .int 1])), (h4, .inl (cc1, 4960, .inl (upd (f1) 0 0))), (h5, .inr (11, [.ref h6, .int 1])), (h6, .inl (cc2, 4960, .inl (upd (f2) 0 4))), (h7, .inr (11, [.ref h8, .int 1])), (h8, .inl (cc3, 4960, .inl (upd (f3) 0 0))), (h9, .inr (11, [.ref h10, .int 1])), (h10, .inl (cc4, 4960, .inl (upd (f4) 0 1)))]) (w1 := [(h11, .inr (11, [.ref h12, .int 1])), (h12, .inl (cc5, 4960, .inl (upd (f5) 0 1)))]) hP hD [1, 2] [0, 3, 4, 5, 6, 7, 8, 9, 10, 11, 12] rfl rfl (by decide) (by decide) hk1 hFc hP1 hD1
  have hK := (hK.sub (tys' := [(cc0, .int), (cc1, .int), (cc2, .int), (cc3, .int), (cc4, .int)]) [1, 2, 3, 4, 5] rfl).app hK1
  generalize H1 = H at hP hS ⊢
  have hP : va_P (dC, dI) vwCl [(h0, .inr (10, [v0, .ref h1, .ref h3, .ref h5, .ref h7, .ref h9, .ref h11, v1, v2])), (h1, .inr (11, [.ref h2, .int 1])), (h2, .inl (cc0, 4960, .inl (upd (f0) 0 0))), (h3, .inr (11, [.ref h4, .int 1])), (h4, .inl (cc1, 4960, .inl (upd (f1) 0 0))), (h5, .inr (11, [.ref h6, .int 1])), (h6, .inl (cc2, 4960, .inl (upd (f2) 0 4))), (h7, .inr (11, [.ref h8, .int 1])), (h8, .inl (cc3, 4960, .inl (upd (f3) 0 0))), (h9, .inr (11, [.ref h10, .int 1])), (h10, .inl (cc4, 4960, .inl (upd (f4) 0 1))), (h11, .inr (11, [.ref h12, .int 1])), (h12, .inl (cc5, 4960, .inl (upd (f5) 0 1)))] H := hP
  have hD : va_D A [(h0, .inr (10, [v0, .ref h1, .ref h3, .ref h5, .ref h7, .ref h9, .ref h11, v1, v2])), (h1, .inr (11, [.ref h2, .int 1])), (h2, .inl (cc0, 4960, .inl (upd (f0) 0 0))), (h3, .inr (11, [.ref h4, .int 1])), (h4, .inl (cc1, 4960, .inl (upd (f1) 0 0))), (h5, .inr (11, [.ref h6, .int 1])), (h6, .inl (cc2, 4960, .inl (upd (f2) 0 4))), (h7, .inr (11, [.ref h8, .int 1])), (h8, .inl (cc3, 4960, .inl (upd (f3) 0 0))), (h9, .inr (11, [.ref h10, .int 1])), (h10, .inl (cc4, 4960, .inl (upd (f4) 0 1))), (h11, .inr (11, [.ref h12, .int 1])), (h12, .inl (cc5, 4960, .inl (upd (f5) 0 1)))] := hD
  have hK : va_K (dC, dI) vwCl [(cc0, .int), (cc1, .int), (cc2, .int), (cc3, .int), (cc4, .int), (cc5, .int)] s := hK
  refine W.widen (k := 0) (n := 0) (Nat.le_of_ble_eq_true rfl) (Nat.le_of_ble_eq_true rfl) ?_
  refine lv_aload_n hx hb dX3_addPlace_51 rfl (lv_at hl 0 rfl) ?_
  refine va_get (D := (dC, dI)) (ci := 10) (v := .ref h1) (C := RX3) (T := TX3) (N := 9) hx hb hta naX3 hown hK hP 0 rfl rfl 1 (by decide) (hta _ wm19) (fun _ h9 => h9) rfl dX3_addPlace_52 ?_
  have hPc := hP.sub (ws' := [(h1, .inr (11, [.ref h2, .int 1]))]) [1] rfl
  have hDc := hD.sub (ws' := [(h1, .inr (11, [.ref h2, .int 1]))]) [1] (by decide) rfl
  have hKc := hK.sub (tys' := []) [] rfl
  have hFc := va_free (wc := [(h1, .inr (11, [.ref h2, .int 1]))]) hD hS hA [1] rfl
  refine va_calli (va_runV (As := []) (rest := []) ⟨hx, hb, hml, hown, hts⟩ (kX4_size_2 l dC dI g H.size h1 (.ref h2) ) (cwV 0 hts (ns_gp (List.forall_mem_cons.mpr ⟨wm248, (List.forall_mem_cons.mpr ⟨wm249, (List.forall_mem_cons.mpr ⟨wm250, (List.forall_mem_cons.mpr ⟨wm12, (fun _ h9 => nomatch h9)⟩)⟩)⟩)⟩) wm247) rfl rfl rfl (by decide +kernel) ⟨Nat.le_of_ble_eq_true rfl, Nat.le_of_ble_eq_true rfl⟩) ⟨fun a U gg mk q => by obtain ⟨q0, q1, qP, qK, qD, qF⟩ := q; exact ⟨q0, q1, qP, va_K.moved (u := U) (U := U.calling gg mk a) (Vm.Alike.refl U.vm) qK, qD, ns_same qF⟩, va_recv hK hP (ci := 11) (q0 := 1) rfl rfl, fun U hU hW => ⟨rfl, by rw [hU], by rw [hU]; exact hPc, va_K.moved hW.alike hKc, hDc.weaken (fun _ _ _ _ => trivial), ns_call hF hS hFc hU hW⟩⟩ rfl rfl hl.1 rfl (lv_room (Nat.le_of_ble_eq_true rfl)) dX3_addPlace_55 ⟨Nat.le_of_ble_eq_true rfl, Nat.le_of_ble_eq_true rfl⟩) hS (fun q _ h => hFc q h) hFc (fun r9 u t H1 locs ht hvm hw hB hz1 hk1 hS => ?_)
  obtain rfl := hw.symm
  obtain ⟨hP1, hK1, hD1⟩ := hB
  rw [ht] at hP1
  have hK1 := va_K.moved hvm.symm hK1
  obtain ⟨hP, hD⟩ := va_join (wr := [(h0, .inr (10, [v0, .ref h1, .ref h3, .ref h5, .ref h7, .ref h9, .ref h11, v1, v2])), (h2, .inl (cc0, 4960, .inl (upd (f0) 0 0))), (h3, .inr (11, [.ref h4, .int 1])), (h4, .inl (cc1, 4960, .inl (upd (f1) 0 0))), (h5, .inr (11, [.ref h6, .int 1])), (h6, .inl (cc2, 4960, .inl (upd (f2) 0 4))), (h7, .inr (11, [.ref h8, .int 1])), (h8, .inl (cc3, 4960, .inl (upd (f3) 0 0))), (h9, .inr (11, [.ref h10, .int 1])), (h10, .inl (cc4, 4960, .inl (upd (f4) 0 1))), (h11, .inr (11, [.ref h12, .int 1])), (h12, .inl (cc5, 4960, .inl (upd (f5) 0 1)))]) (w1 := [(h1, .inr (11, [.ref h2, .int 1]))]) hP hD [1] [0, 2, 3, 4, 5, 6, 7, 8, 9, 10, 11, 12] rfl rfl (by decide) (by decide) hk1 hFc hP1 hD1
  have hK := (hK.sub (tys' := [(cc0, .int), (cc1, .int), (cc2, .int), (cc3, .int), (cc4, .int), (cc5, .int)]) [0, 1, 2, 3, 4, 5] rfl).app hK1
  generalize H1 = H at hP hS ⊢
  have hP : va_P (dC, dI) vwCl [(h0, .inr (10, [v0, .ref h1, .ref h3, .ref h5, .ref h7, .ref h9, .ref h11, v1, v2])), (h2, .inl (cc0, 4960, .inl (upd (f0) 0 0))), (h3, .inr (11, [.ref h4, .int 1])), (h4, .inl (cc1, 4960, .inl (upd (f1) 0 0))), (h5, .inr (11, [.ref h6, .int 1])), (h6, .inl (cc2, 4960, .inl (upd (f2) 0 4))), (h7, .inr (11, [.ref h8, .int 1])), (h8, .inl (cc3, 4960, .inl (upd (f3) 0 0))), (h9, .inr (11, [.ref h10, .int 1])), (h10, .inl (cc4, 4960, .inl (upd (f4) 0 1))), (h11, .inr (11, [.ref h12, .int 1])), (h12, .inl (cc5, 4960, .inl (upd (f5) 0 1))), (h1, .inr (11, [.ref h2, .int 1]))] H := hP
  have hD : va_D A [(h0, .inr (10, [v0, .ref h1, .ref h3, .ref h5, .ref h7, .ref h9, .ref h11, v1, v2])), (h2, .inl (cc0, 4960, .inl (upd (f0) 0 0))), (h3, .inr (11, [.ref h4, .int 1])), (h4, .inl (cc1, 4960, .inl (upd (f1) 0 0))), (h5, .inr (11, [.ref h6, .int 1])), (h6, .inl (cc2, 4960, .inl (upd (f2) 0 4))), (h7, .inr (11, [.ref h8, .int 1])), (h8, .inl (cc3, 4960, .inl (upd (f3) 0 0))), (h9, .inr (11, [.ref h10, .int 1])), (h10, .inl (cc4, 4960, .inl (upd (f4) 0 1))), (h11, .inr (11, [.ref h12, .int 1])), (h12, .inl (cc5, 4960, .inl (upd (f5) 0 1))), (h1, .inr (11, [.ref h2, .int 1]))] := hD
  have hK : va_K (dC, dI) vwCl [(cc0, .int), (cc1, .int), (cc2, .int), (cc3, .int), (cc4, .int), (cc5, .int)] s := hK
  refine W.widen (k := 0) (n := 0) (Nat.le_of_ble_eq_true rfl) (Nat.le_of_ble_eq_true rfl) ?_
  refine lv_iconst (v := 1) hx hb dX3_addPlace_58 (by decide) ?_
  refine lv_isub hx hb dX3_addPlace_59 ?_
  refine lv_topi (fun y1 ey1 => ?_)
  obtain rfl : y1 = 0 := ey1.trans (by decide)
  have hP9 := hP.sub (ws' := [(h0, .inr (10, [v0, .ref h1, .ref h3, .ref h5, .ref h7, .ref h9, .ref h11, v1, v2])), (h2, .inl (cc0, 4960, .inl (upd (f0) 0 0))), (h3, .inr (11, [.ref h4, .int 1])), (h4, .inl (cc1, 4960, .inl (upd (f1) 0 0))), (h5, .inr (11, [.ref h6, .int 1])), (h6, .inl (cc2, 4960, .inl (upd (f2) 0 4))), (h7, .inr (11, [.ref h8, .int 1])), (h8, .inl (cc3, 4960, .inl (upd (f3) 0 0))), (h9, .inr (11, [.ref h10, .int 1])), (h10, .inl (cc4, 4960, .inl (upd (f4) 0 1))), (h11, .inr (11, [.ref h12, .int 1])), (h12, .inl (cc5, 4960, .inl (upd (f5) 0 1))), (h1, .inr (11, [.ref h2, .int 1]))]) [0, 1, 2, 3, 4, 5, 6, 7, 8, 9, 10, 11, 12] rfl
  have hD9 := hD.sub (ws' := [(h0, .inr (10, [v0, .ref h1, .ref h3, .ref h5, .ref h7, .ref h9, .ref h11, v1, v2])), (h2, .inl (cc0, 4960, .inl (upd (f0) 0 0))), (h3, .inr (11, [.ref h4, .int 1])), (h4, .inl (cc1, 4960, .inl (upd (f1) 0 0))), (h5, .inr (11, [.ref h6, .int 1])), (h6, .inl (cc2, 4960, .inl (upd (f2) 0 4))), (h7, .inr (11, [.ref h8, .int 1])), (h8, .inl (cc3, 4960, .inl (upd (f3) 0 0))), (h9, .inr (11, [.ref h10, .int 1])), (h10, .inl (cc4, 4960, .inl (upd (f4) 0 1))), (h11, .inr (11, [.ref h12, .int 1])), (h12, .inl (cc5, 4960, .inl (upd (f5) 0 1))), (h1, .inr (11, [.ref h2, .int 1]))]) [0, 1, 2, 3, 4, 5, 6, 7, 8, 9, 10, 11, 12] (by decide) rfl
  have hK9 := hK.sub (tys' := [(cc0, .int), (cc1, .int), (cc2, .int), (cc3, .int), (cc4, .int), (cc5, .int)]) [0, 1, 2, 3, 4, 5] rfl
  refine W.widen (k := 0) (n := 0) (Nat.le_of_ble_eq_true rfl) (Nat.le_of_ble_eq_true rfl) ?_
  exact W.iret (v := 0) hx hb hr (fun t ht hW => ⟨⟨_, (), rfl, rfl, by rw [ht]; exact hP9, va_K.moved hW.alike hK9, hD9⟩, hS.F ht⟩) hS.2.2 dX3_addPlace_60
set_option maxHeartbeats 4000000 in
set_option maxRecDepth 100000 in
theorem kX3_addPlace_5 (l : Launch) (dC : Nat → ClassId) (dI : Nat → Nat → Nat) (g : Nat → Nat) (sz : Nat) (h0 : Nat) (h1 : Nat) (h2 : Nat) (h3 : Nat) (h4 : Nat) (h5 : Nat) (h6 : Nat) (h7 : Nat) (h8 : Nat) (h9 : Nat) (h10 : Nat) (h11 : Nat) (h12 : Nat) (v0 : Value) (v1 : Value) (v2 : Value) (cc0 : ClassId) (f0 : Nat → Int32) (cc1 : ClassId) (f1 : Nat → Int32) (cc2 : ClassId) (f2 : Nat → Int32) (cc3 : ClassId) (f3 : Nat → Int32) (cc4 : ClassId) (f4 : Nat → Int32) (cc5 : ClassId) (f5 : Nat → Int32) : Met l yX3_addPlace wbX3_addPlace ({ frames := 1, cells := 0, slots := 0, locals := 21 }) (va_Pc [.ref h0, .int 0, .int 0, .int 5, .int 0, .int 1, .int 1] (fun U => U.heap.size = sz ∧ va_P (dC, dI) vwCl [(h0, .inr (10, [v0, .ref h1, .ref h3, .ref h5, .ref h7, .ref h9, .ref h11, v1, v2])), (h1, .inr (11, [.ref h2, .int 0])), (h2, .inl (cc0, 4960, .inl f0)), (h3, .inr (11, [.ref h4, .int 0])), (h4, .inl (cc1, 4960, .inl f1)), (h5, .inr (11, [.ref h6, .int 0])), (h6, .inl (cc2, 4960, .inl f2)), (h7, .inr (11, [.ref h8, .int 0])), (h8, .inl (cc3, 4960, .inl f3)), (h9, .inr (11, [.ref h10, .int 0])), (h10, .inl (cc4, 4960, .inl f4)), (h11, .inr (11, [.ref h12, .int 0])), (h12, .inl (cc5, 4960, .inl f5))] U.heap ∧ va_K (dC, dI) vwCl [(cc0, .int), (cc1, .int), (cc2, .int), (cc3, .int), (cc4, .int), (cc5, .int)] U ∧ va_D (fun _ => True) [(h0, .inr (10, [v0, .ref h1, .ref h3, .ref h5, .ref h7, .ref h9, .ref h11, v1, v2])), (h1, .inr (11, [.ref h2, .int 0])), (h2, .inl (cc0, 4960, .inl f0)), (h3, .inr (11, [.ref h4, .int 0])), (h4, .inl (cc1, 4960, .inl f1)), (h5, .inr (11, [.ref h6, .int 0])), (h6, .inl (cc2, 4960, .inl f2)), (h7, .inr (11, [.ref h8, .int 0])), (h8, .inl (cc3, 4960, .inl f3)), (h9, .inr (11, [.ref h10, .int 0])), (h10, .inl (cc4, 4960, .inl f4)), (h11, .inr (11, [.ref h12, .int 0])), (h12, .inl (cc5, 4960, .inl f5))] ∧ ns_F g (va_A [(h0, .inr (10, [v0, .ref h1, .ref h3, .ref h5, .ref h7, .ref h9, .ref h11, v1, v2])), (h1, .inr (11, [.ref h2, .int 0])), (h2, .inl (cc0, 4960, .inl f0)), (h3, .inr (11, [.ref h4, .int 0])), (h4, .inl (cc1, 4960, .inl f1)), (h5, .inr (11, [.ref h6, .int 0])), (h6, .inl (cc2, 4960, .inl f2)), (h7, .inr (11, [.ref h8, .int 0])), (h8, .inl (cc3, 4960, .inl f3)), (h9, .inr (11, [.ref h10, .int 0])), (h10, .inl (cc4, 4960, .inl f4)), (h11, .inr (11, [.ref h12, .int 0])), (h12, .inl (cc5, 4960, .inl f5))] sz) U U.heap)) (va_Qi (fun (r : Int32) (_ : Unit) => r = 0) (fun _ t => va_P (dC, dI) vwCl [(h0, .inr (10, [v0, .ref h1, .ref h3, .ref h5, .ref h7, .ref h9, .ref h11, v1, v2])), (h2, .inl (cc0, 4960, .inl (upd (f0) 0 0))), (h3, .inr (11, [.ref h4, .int 1])), (h4, .inl (cc1, 4960, .inl (upd (f1) 0 0))), (h5, .inr (11, [.ref h6, .int 1])), (h6, .inl (cc2, 4960, .inl (upd (f2) 0 5))), (h7, .inr (11, [.ref h8, .int 1])), (h8, .inl (cc3, 4960, .inl (upd (f3) 0 0))), (h9, .inr (11, [.ref h10, .int 1])), (h10, .inl (cc4, 4960, .inl (upd (f4) 0 1))), (h11, .inr (11, [.ref h12, .int 1])), (h12, .inl (cc5, 4960, .inl (upd (f5) 0 1))), (h1, .inr (11, [.ref h2, .int 1]))] t.heap ∧ va_K (dC, dI) vwCl [(cc0, .int), (cc1, .int), (cc2, .int), (cc3, .int), (cc4, .int), (cc5, .int)] t ∧ va_D (va_A [(h0, .inr (10, [v0, .ref h1, .ref h3, .ref h5, .ref h7, .ref h9, .ref h11, v1, v2])), (h1, .inr (11, [.ref h2, .int 0])), (h2, .inl (cc0, 4960, .inl f0)), (h3, .inr (11, [.ref h4, .int 0])), (h4, .inl (cc1, 4960, .inl f1)), (h5, .inr (11, [.ref h6, .int 0])), (h6, .inl (cc2, 4960, .inl f2)), (h7, .inr (11, [.ref h8, .int 0])), (h8, .inl (cc3, 4960, .inl f3)), (h9, .inr (11, [.ref h10, .int 0])), (h10, .inl (cc4, 4960, .inl f4)), (h11, .inr (11, [.ref h12, .int 0])), (h12, .inl (cc5, 4960, .inl f5))] sz) [(h0, .inr (10, [v0, .ref h1, .ref h3, .ref h5, .ref h7, .ref h9, .ref h11, v1, v2])), (h2, .inl (cc0, 4960, .inl (upd (f0) 0 0))), (h3, .inr (11, [.ref h4, .int 1])), (h4, .inl (cc1, 4960, .inl (upd (f1) 0 0))), (h5, .inr (11, [.ref h6, .int 1])), (h6, .inl (cc2, 4960, .inl (upd (f2) 0 5))), (h7, .inr (11, [.ref h8, .int 1])), (h8, .inl (cc3, 4960, .inl (upd (f3) 0 0))), (h9, .inr (11, [.ref h10, .int 1])), (h10, .inl (cc4, 4960, .inl (upd (f4) 0 1))), (h11, .inr (11, [.ref h12, .int 1])), (h12, .inl (cc5, 4960, .inl (upd (f5) 0 1))), (h1, .inr (11, [.ref h2, .int 1]))]) (va_A [(h0, .inr (10, [v0, .ref h1, .ref h3, .ref h5, .ref h7, .ref h9, .ref h11, v1, v2])), (h1, .inr (11, [.ref h2, .int 0])), (h2, .inl (cc0, 4960, .inl f0)), (h3, .inr (11, [.ref h4, .int 0])), (h4, .inl (cc1, 4960, .inl f1)), (h5, .inr (11, [.ref h6, .int 0])), (h6, .inl (cc2, 4960, .inl f2)), (h7, .inr (11, [.ref h8, .int 0])), (h8, .inl (cc3, 4960, .inl f3)), (h9, .inr (11, [.ref h10, .int 0])), (h10, .inl (cc4, 4960, .inl f4)), (h11, .inr (11, [.ref h12, .int 0])), (h12, .inl (cc5, 4960, .inl f5))] sz)) 0 0 (va_A [(h0, .inr (10, [v0, .ref h1, .ref h3, .ref h5, .ref h7, .ref h9, .ref h11, v1, v2])), (h1, .inr (11, [.ref h2, .int 0])), (h2, .inl (cc0, 4960, .inl f0)), (h3, .inr (11, [.ref h4, .int 0])), (h4, .inl (cc1, 4960, .inl f1)), (h5, .inr (11, [.ref h6, .int 0])), (h6, .inl (cc2, 4960, .inl f2)), (h7, .inr (11, [.ref h8, .int 0])), (h8, .inl (cc3, 4960, .inl f3)), (h9, .inr (11, [.ref h10, .int 0])), (h10, .inl (cc4, 4960, .inl f4)), (h11, .inr (11, [.ref h12, .int 0])), (h12, .inl (cc5, 4960, .inl f5))] sz) := by
  refine Met.ofW (cc := cX3_addPlace) (maxL := 7) (ret := (some .int)) (by decide) rfl ?_
  intro p e s m args below meth c s₁ B hml hv
  obtain ⟨rfl, hsz, hP, hK, hD0, hF⟩ := hv
  have hx := B.exec
  have hb := B.bytes
  have hr := B.returns
  have hts := atoms_spec (ws := wbX3_addPlace) B.pre
  have hta : ∀ w ∈ wsALL, w.before _ s = true := fun w h => hts w (List.mem_cons_of_mem _ h)
  have hown : s.vm.findClass RX3 = some m.cls := findClass_of_methodNamed B.named
  have hlocks := B.notSynchronized
  subst hsz
  have hD := hD0.self (sz := s.heap.size)
  generalize hAe : va_A [(h0, .inr (10, [v0, .ref h1, .ref h3, .ref h5, .ref h7, .ref h9, .ref h11, v1, v2])), (h1, .inr (11, [.ref h2, .int 0])), (h2, .inl (cc0, 4960, .inl f0)), (h3, .inr (11, [.ref h4, .int 0])), (h4, .inl (cc1, 4960, .inl f1)), (h5, .inr (11, [.ref h6, .int 0])), (h6, .inl (cc2, 4960, .inl f2)), (h7, .inr (11, [.ref h8, .int 0])), (h8, .inl (cc3, 4960, .inl f3)), (h9, .inr (11, [.ref h10, .int 0])), (h10, .inl (cc4, 4960, .inl f4)), (h11, .inr (11, [.ref h12, .int 0])), (h12, .inl (cc5, 4960, .inl f5))] s.heap.size = A at hD hF ⊢
  have hA : ∀ q : Nat, s.heap.size ≤ q → A q := fun q h => by rw [← hAe]; exact Or.inr h
  have hS : va_S A s.heap s.heap [] := va_S.rf
  have hP : va_P (dC, dI) vwCl [(h0, .inr (10, [v0, .ref h1, .ref h3, .ref h5, .ref h7, .ref h9, .ref h11, v1, v2])), (h1, .inr (11, [.ref h2, .int 0])), (h2, .inl (cc0, 4960, .inl f0)), (h3, .inr (11, [.ref h4, .int 0])), (h4, .inl (cc1, 4960, .inl f1)), (h5, .inr (11, [.ref h6, .int 0])), (h6, .inl (cc2, 4960, .inl f2)), (h7, .inr (11, [.ref h8, .int 0])), (h8, .inl (cc3, 4960, .inl f3)), (h9, .inr (11, [.ref h10, .int 0])), (h10, .inl (cc4, 4960, .inl f4)), (h11, .inr (11, [.ref h12, .int 0])), (h12, .inl (cc5, 4960, .inl f5))] s.heap := hP
  have hl := lv_entry ([.ref h0, .int 0, .int 0, .int 5, .int 0, .int 1, .int 1]) (n := 7) (Nat.le_of_ble_eq_true rfl)
  rw [lg_entry_eq]
  generalize (lg_sl ([.ref h0, .int 0, .int 0, .int 5, .int 0, .int 1, .int 1]) ++ List.replicate (7 - (lg_sl ([.ref h0, .int 0, .int 0, .int 5, .int 0, .int 1, .int 1])).length) Slot.unset).toArray = ls at hl ⊢
  have hl : lv_has ls 7 [(0, .ref h0), (1, .int 0), (2, .int 0), (3, .int 5), (4, .int 0), (5, .int 1), (6, .int 1)] := hl
  refine lv_aload_n hx hb dX3_addPlace_0 rfl (lv_at hl 0 rfl) ?_
  refine va_get (D := (dC, dI)) (ci := 10) (v := .ref h1) (C := RX3) (T := TX3) (N := 9) hx hb hta naX3 hown hK hP 0 rfl rfl 1 (by decide) (hta _ wm19) (fun _ h9 => h9) rfl dX3_addPlace_1 ?_
  refine lv_iload_n hx hb dX3_addPlace_4 rfl (lv_at hl 1 rfl) ?_
  have hPc := hP.sub (ws' := [(h1, .inr (11, [.ref h2, .int 0])), (h2, .inl (cc0, 4960, .inl f0))]) [1, 2] rfl
  have hDc := hD.sub (ws' := [(h1, .inr (11, [.ref h2, .int 0])), (h2, .inl (cc0, 4960, .inl f0))]) [1, 2] (by decide) rfl
  have hKc := hK.sub (tys' := [(cc0, .int)]) [0] rfl
  have hFc := va_free (wc := [(h1, .inr (11, [.ref h2, .int 0])), (h2, .inl (cc0, 4960, .inl f0))]) hD hS hA [1, 2] rfl
  refine va_callv (va_runV (As := [.int 0]) (rest := []) ⟨hx, hb, hml, hown, hts⟩ (kX4_add_2 l dC dI g s.heap.size h1 h2 cc0 f0 ) (cwV 1 hts (ns_gp (List.forall_mem_cons.mpr ⟨wm257, (List.forall_mem_cons.mpr ⟨wm258, (List.forall_mem_cons.mpr ⟨wm259, (List.forall_mem_cons.mpr ⟨wm12, (fun _ h9 => nomatch h9)⟩)⟩)⟩)⟩) wm256) rfl rfl rfl (by decide +kernel) ⟨Nat.le_of_ble_eq_true rfl, Nat.le_of_ble_eq_true rfl⟩) ⟨fun a U gg mk q => by obtain ⟨q0, q1, qP, qK, qD, qF⟩ := q; exact ⟨q0, q1, qP, va_K.moved (u := U) (U := U.calling gg mk a) (Vm.Alike.refl U.vm) qK, qD, ns_same qF⟩, va_recv hK hP (ci := 11) (q0 := 1) rfl rfl, fun U hU hW => ⟨rfl, by rw [hU], by rw [hU]; exact hPc, va_K.moved hW.alike hKc, hDc.weaken (fun _ _ _ _ => trivial), ns_call hF hS hFc hU hW⟩⟩ rfl rfl hl.1 rfl (lv_room (Nat.le_of_ble_eq_true rfl)) dX3_addPlace_5 ⟨Nat.le_of_ble_eq_true rfl, Nat.le_of_ble_eq_true rfl⟩) hS (fun q _ h => hFc q h) hFc (fun u t H1 locs ht hvm hw hB hz1 hk1 hS => ?_)
  obtain ⟨hP1, hK1, hD1⟩ := hB
  rw [ht] at hP1
  have hK1 := va_K.moved hvm.symm hK1
  obtain ⟨hP, hD⟩ := va_join (wr := [(h0, .inr (10, [v0, .ref h1, .ref h3, .ref h5, .ref h7, .ref h9, .ref h11, v1, v2])), (h3, .inr (11, [.ref h4, .int 0])), (h4, .inl (cc1, 4960, .inl f1)), (h5, .inr (11, [.ref h6, .int 0])), (h6, .inl (cc2, 4960, .inl f2)), (h7, .inr (11, [.ref h8, .int 0])), (h8, .inl (cc3, 4960, .inl f3)), (h9, .inr (11, [.ref h10, .int 0])), (h10, .inl (cc4, 4960, .inl f4)), (h11, .inr (11, [.ref h12, .int 0])), (h12, .inl (cc5, 4960, .inl f5))]) (w1 := [(h1, .inr (11, [.ref h2, .int 1])), (h2, .inl (cc0, 4960, .inl (upd (f0) 0 0)))]) hP hD [1, 2] [0, 3, 4, 5, 6, 7, 8, 9, 10, 11, 12] rfl rfl (by decide) (by decide) hk1 hFc hP1 hD1
  have hK := (hK.sub (tys' := [(cc1, .int), (cc2, .int), (cc3, .int), (cc4, .int), (cc5, .int)]) [1, 2, 3, 4, 5] rfl).app hK1
  generalize H1 = H at hP hS ⊢
  have hP : va_P (dC, dI) vwCl [(h0, .inr (10, [v0, .ref h1, .ref h3, .ref h5, .ref h7, .ref h9, .ref h11, v1, v2])), (h3, .inr (11, [.ref h4, .int 0])), (h4, .inl (cc1, 4960, .inl f1)), (h5, .inr (11, [.ref h6, .int 0])), (h6, .inl (cc2, 4960, .inl f2)), (h7, .inr (11, [.ref h8, .int 0])), (h8, .inl (cc3, 4960, .inl f3)), (h9, .inr (11, [.ref h10, .int 0])), (h10, .inl (cc4, 4960, .inl f4)), (h11, .inr (11, [.ref h12, .int 0])), (h12, .inl (cc5, 4960, .inl f5)), (h1, .inr (11, [.ref h2, .int 1])), (h2, .inl (cc0, 4960, .inl (upd (f0) 0 0)))] H := hP
  have hD : va_D A [(h0, .inr (10, [v0, .ref h1, .ref h3, .ref h5, .ref h7, .ref h9, .ref h11, v1, v2])), (h3, .inr (11, [.ref h4, .int 0])), (h4, .inl (cc1, 4960, .inl f1)), (h5, .inr (11, [.ref h6, .int 0])), (h6, .inl (cc2, 4960, .inl f2)), (h7, .inr (11, [.ref h8, .int 0])), (h8, .inl (cc3, 4960, .inl f3)), (h9, .inr (11, [.ref h10, .int 0])), (h10, .inl (cc4, 4960, .inl f4)), (h11, .inr (11, [.ref h12, .int 0])), (h12, .inl (cc5, 4960, .inl f5)), (h1, .inr (11, [.ref h2, .int 1])), (h2, .inl (cc0, 4960, .inl (upd (f0) 0 0)))] := hD
  have hK : va_K (dC, dI) vwCl [(cc1, .int), (cc2, .int), (cc3, .int), (cc4, .int), (cc5, .int), (cc0, .int)] s := hK
  refine W.widen (k := 0) (n := 0) (Nat.le_of_ble_eq_true rfl) (Nat.le_of_ble_eq_true rfl) ?_
  refine lv_aload_n hx hb dX3_addPlace_8 rfl (lv_at hl 0 rfl) ?_
  refine va_get (D := (dC, dI)) (ci := 10) (v := .ref h3) (C := RX3) (T := TX3) (N := 9) hx hb hta naX3 hown hK hP 0 rfl rfl 2 (by decide) (hta _ wm20) (fun _ h9 => h9) rfl dX3_addPlace_9 ?_
  refine lv_iload_n hx hb dX3_addPlace_12 rfl (lv_at hl 2 rfl) ?_
  have hPc := hP.sub (ws' := [(h3, .inr (11, [.ref h4, .int 0])), (h4, .inl (cc1, 4960, .inl f1))]) [1, 2] rfl
  have hDc := hD.sub (ws' := [(h3, .inr (11, [.ref h4, .int 0])), (h4, .inl (cc1, 4960, .inl f1))]) [1, 2] (by decide) rfl
  have hKc := hK.sub (tys' := [(cc1, .int)]) [0] rfl
  have hFc := va_free (wc := [(h3, .inr (11, [.ref h4, .int 0])), (h4, .inl (cc1, 4960, .inl f1))]) hD hS hA [1, 2] rfl
  refine va_callv (va_runV (As := [.int 0]) (rest := []) ⟨hx, hb, hml, hown, hts⟩ (kX4_add_2 l dC dI g H.size h3 h4 cc1 f1 ) (cwV 1 hts (ns_gp (List.forall_mem_cons.mpr ⟨wm257, (List.forall_mem_cons.mpr ⟨wm258, (List.forall_mem_cons.mpr ⟨wm259, (List.forall_mem_cons.mpr ⟨wm12, (fun _ h9 => nomatch h9)⟩)⟩)⟩)⟩) wm256) rfl rfl rfl (by decide +kernel) ⟨Nat.le_of_ble_eq_true rfl, Nat.le_of_ble_eq_true rfl⟩) ⟨fun a U gg mk q => by obtain ⟨q0, q1, qP, qK, qD, qF⟩ := q; exact ⟨q0, q1, qP, va_K.moved (u := U) (U := U.calling gg mk a) (Vm.Alike.refl U.vm) qK, qD, ns_same qF⟩, va_recv hK hP (ci := 11) (q0 := 1) rfl rfl, fun U hU hW => ⟨rfl, by rw [hU], by rw [hU]; exact hPc, va_K.moved hW.alike hKc, hDc.weaken (fun _ _ _ _ => trivial), ns_call hF hS hFc hU hW⟩⟩ rfl rfl hl.1 rfl (lv_room (Nat.le_of_ble_eq_true rfl)) dX3_addPlace_13 ⟨Nat.le_of_ble_eq_true rfl, Nat.le_of_ble_eq_true rfl⟩) hS (fun q _ h => hFc q h) hFc (fun u t H1 locs ht hvm hw hB hz1 hk1 hS => ?_)
  obtain ⟨hP1, hK1, hD1⟩ := hB
  rw [ht] at hP1
  have hK1 := va_K.moved hvm.symm hK1
  obtain ⟨hP, hD⟩ := va_join (wr := [(h0, .inr (10, [v0, .ref h1, .ref h3, .ref h5, .ref h7, .ref h9, .ref h11, v1, v2])), (h5, .inr (11, [.ref h6, .int 0])), (h6, .inl (cc2, 4960, .inl f2)), (h7, .inr (11, [.ref h8, .int 0])), (h8, .inl (cc3, 4960, .inl f3)), (h9, .inr (11, [.ref h10, .int 0])), (h10, .inl (cc4, 4960, .inl f4)), (h11, .inr (11, [.ref h12, .int 0])), (h12, .inl (cc5, 4960, .inl f5)), (h1, .inr (11, [.ref h2, .int 1])), (h2, .inl (cc0, 4960, .inl (upd (f0) 0 0)))]) (w1 := [(h3, .inr (11, [.ref h4, .int 1])), (h4, .inl (cc1, 4960, .inl (upd (f1) 0 0)))]) hP hD [1, 2] [0, 3, 4, 5, 6, 7, 8, 9, 10, 11, 12] rfl rfl (by decide) (by decide) hk1 hFc hP1 hD1
  have hK := (hK.sub (tys' := [(cc2, .int), (cc3, .int), (cc4, .int), (cc5, .int), (cc0, .int)]) [1, 2, 3, 4, 5] rfl).app hK1
  generalize H1 = H at hP hS ⊢
  have hP : va_P (dC, dI) vwCl [(h0, .inr (10, [v0, .ref h1, .ref h3, .ref h5, .ref h7, .ref h9, .ref h11, v1, v2])), (h5, .inr (11, [.ref h6, .int 0])), (h6, .inl (cc2, 4960, .inl f2)), (h7, .inr (11, [.ref h8, .int 0])), (h8, .inl (cc3, 4960, .inl f3)), (h9, .inr (11, [.ref h10, .int 0])), (h10, .inl (cc4, 4960, .inl f4)), (h11, .inr (11, [.ref h12, .int 0])), (h12, .inl (cc5, 4960, .inl f5)), (h1, .inr (11, [.ref h2, .int 1])), (h2, .inl (cc0, 4960, .inl (upd (f0) 0 0))), (h3, .inr (11, [.ref h4, .int 1])), (h4, .inl (cc1, 4960, .inl (upd (f1) 0 0)))] H := hP
  have hD : va_D A [(h0, .inr (10, [v0, .ref h1, .ref h3, .ref h5, .ref h7, .ref h9, .ref h11, v1, v2])), (h5, .inr (11, [.ref h6, .int 0])), (h6, .inl (cc2, 4960, .inl f2)), (h7, .inr (11, [.ref h8, .int 0])), (h8, .inl (cc3, 4960, .inl f3)), (h9, .inr (11, [.ref h10, .int 0])), (h10, .inl (cc4, 4960, .inl f4)), (h11, .inr (11, [.ref h12, .int 0])), (h12, .inl (cc5, 4960, .inl f5)), (h1, .inr (11, [.ref h2, .int 1])), (h2, .inl (cc0, 4960, .inl (upd (f0) 0 0))), (h3, .inr (11, [.ref h4, .int 1])), (h4, .inl (cc1, 4960, .inl (upd (f1) 0 0)))] := hD
  have hK : va_K (dC, dI) vwCl [(cc2, .int), (cc3, .int), (cc4, .int), (cc5, .int), (cc0, .int), (cc1, .int)] s := hK
  refine W.widen (k := 0) (n := 0) (Nat.le_of_ble_eq_true rfl) (Nat.le_of_ble_eq_true rfl) ?_
  refine lv_aload_n hx hb dX3_addPlace_16 rfl (lv_at hl 0 rfl) ?_
  refine va_get (D := (dC, dI)) (ci := 10) (v := .ref h5) (C := RX3) (T := TX3) (N := 9) hx hb hta naX3 hown hK hP 0 rfl rfl 3 (by decide) (hta _ wm21) (fun _ h9 => h9) rfl dX3_addPlace_17 ?_
  refine lv_iload_n hx hb dX3_addPlace_20 rfl (lv_at hl 3 rfl) ?_
  have hPc := hP.sub (ws' := [(h5, .inr (11, [.ref h6, .int 0])), (h6, .inl (cc2, 4960, .inl f2))]) [1, 2] rfl
  have hDc := hD.sub (ws' := [(h5, .inr (11, [.ref h6, .int 0])), (h6, .inl (cc2, 4960, .inl f2))]) [1, 2] (by decide) rfl
  have hKc := hK.sub (tys' := [(cc2, .int)]) [0] rfl
  have hFc := va_free (wc := [(h5, .inr (11, [.ref h6, .int 0])), (h6, .inl (cc2, 4960, .inl f2))]) hD hS hA [1, 2] rfl
  refine va_callv (va_runV (As := [.int 5]) (rest := []) ⟨hx, hb, hml, hown, hts⟩ (kX4_add_12 l dC dI g H.size h5 h6 cc2 f2 ) (cwV 1 hts (ns_gp (List.forall_mem_cons.mpr ⟨wm257, (List.forall_mem_cons.mpr ⟨wm258, (List.forall_mem_cons.mpr ⟨wm259, (List.forall_mem_cons.mpr ⟨wm12, (fun _ h9 => nomatch h9)⟩)⟩)⟩)⟩) wm256) rfl rfl rfl (by decide +kernel) ⟨Nat.le_of_ble_eq_true rfl, Nat.le_of_ble_eq_true rfl⟩) ⟨fun a U gg mk q => by obtain ⟨q0, q1, qP, qK, qD, qF⟩ := q; exact ⟨q0, q1, qP, va_K.moved (u := U) (U := U.calling gg mk a) (Vm.Alike.refl U.vm) qK, qD, ns_same qF⟩, va_recv hK hP (ci := 11) (q0 := 1) rfl rfl, fun U hU hW => ⟨rfl, by rw [hU], by rw [hU]; exact hPc, va_K.moved hW.alike hKc, hDc.weaken (fun _ _ _ _ => trivial), ns_call hF hS hFc hU hW⟩⟩ rfl rfl hl.1 rfl (lv_room (Nat.le_of_ble_eq_true rfl)) dX3_addPlace_21 ⟨Nat.le_of_ble_eq_true rfl, Nat.le_of_ble_eq_true rfl⟩) hS (fun q _ h => hFc q h) hFc (fun u t H1 locs ht hvm hw hB hz1 hk1 hS => ?_)
  obtain ⟨hP1, hK1, hD1⟩ := hB
  rw [ht] at hP1
  have hK1 := va_K.moved hvm.symm hK1
  obtain ⟨hP, hD⟩ := va_join (wr := [(h0, .inr (10, [v0, .ref h1, .ref h3, .ref h5, .ref h7, .ref h9, .ref h11, v1, v2])), (h7, .inr (11, [.ref h8, .int 0])), (h8, .inl (cc3, 4960, .inl f3)), (h9, .inr (11, [.ref h10, .int 0])), (h10, .inl (cc4, 4960, .inl f4)), (h11, .inr (11, [.ref h12, .int 0])), (h12, .inl (cc5, 4960, .inl f5)), (h1, .inr (11, [.ref h2, .int 1])), (h2, .inl (cc0, 4960, .inl (upd (f0) 0 0))), (h3, .inr (11, [.ref h4, .int 1])), (h4, .inl (cc1, 4960, .inl (upd (f1) 0 0)))]) (w1 := [(h5, .inr (11, [.ref h6, .int 1])), (h6, .inl (cc2, 4960, .inl (upd (f2) 0 5)))]) hP hD [1, 2] [0, 3, 4, 5, 6, 7, 8, 9, 10, 11, 12] rfl rfl (by decide) (by decide) hk1 hFc hP1 hD1
  have hK := (hK.sub (tys' := [(cc3, .int), (cc4, .int), (cc5, .int), (cc0, .int), (cc1, .int)]) [1, 2, 3, 4, 5] rfl).app hK1
  generalize H1 = H at hP hS ⊢
  have hP : va_P (dC, dI) vwCl [(h0, .inr (10, [v0, .ref h1, .ref h3, .ref h5, .ref h7, .ref h9, .ref h11, v1, v2])), (h7, .inr (11, [.ref h8, .int 0])), (h8, .inl (cc3, 4960, .inl f3)), (h9, .inr (11, [.ref h10, .int 0])), (h10, .inl (cc4, 4960, .inl f4)), (h11, .inr (11, [.ref h12, .int 0])), (h12, .inl (cc5, 4960, .inl f5)), (h1, .inr (11, [.ref h2, .int 1])), (h2, .inl (cc0, 4960, .inl (upd (f0) 0 0))), (h3, .inr (11, [.ref h4, .int 1])), (h4, .inl (cc1, 4960, .inl (upd (f1) 0 0))), (h5, .inr (11, [.ref h6, .int 1])), (h6, .inl (cc2, 4960, .inl (upd (f2) 0 5)))] H := hP
  have hD : va_D A [(h0, .inr (10, [v0, .ref h1, .ref h3, .ref h5, .ref h7, .ref h9, .ref h11, v1, v2])), (h7, .inr (11, [.ref h8, .int 0])), (h8, .inl (cc3, 4960, .inl f3)), (h9, .inr (11, [.ref h10, .int 0])), (h10, .inl (cc4, 4960, .inl f4)), (h11, .inr (11, [.ref h12, .int 0])), (h12, .inl (cc5, 4960, .inl f5)), (h1, .inr (11, [.ref h2, .int 1])), (h2, .inl (cc0, 4960, .inl (upd (f0) 0 0))), (h3, .inr (11, [.ref h4, .int 1])), (h4, .inl (cc1, 4960, .inl (upd (f1) 0 0))), (h5, .inr (11, [.ref h6, .int 1])), (h6, .inl (cc2, 4960, .inl (upd (f2) 0 5)))] := hD
  have hK : va_K (dC, dI) vwCl [(cc3, .int), (cc4, .int), (cc5, .int), (cc0, .int), (cc1, .int), (cc2, .int)] s := hK
  refine W.widen (k := 0) (n := 0) (Nat.le_of_ble_eq_true rfl) (Nat.le_of_ble_eq_true rfl) ?_
  refine lv_aload_n hx hb dX3_addPlace_24 rfl (lv_at hl 0 rfl) ?_
  refine va_get (D := (dC, dI)) (ci := 10) (v := .ref h7) (C := RX3) (T := TX3) (N := 9) hx hb hta naX3 hown hK hP 0 rfl rfl 4 (by decide) (hta _ wm22) (fun _ h9 => h9) rfl dX3_addPlace_25 ?_
  refine lv_iload hx hb dX3_addPlace_28 (lv_at hl 4 rfl) ?_
  have hPc := hP.sub (ws' := [(h7, .inr (11, [.ref h8, .int 0])), (h8, .inl (cc3, 4960, .inl f3))]) [1, 2] rfl
  have hDc := hD.sub (ws' := [(h7, .inr (11, [.ref h8, .int 0])), (h8, .inl (cc3, 4960, .inl f3))]) [1, 2] (by decide) rfl
  have hKc := hK.sub (tys' := [(cc3, .int)]) [0] rfl
  have hFc := va_free (wc := [(h7, .inr (11, [.ref h8, .int 0])), (h8, .inl (cc3, 4960, .inl f3))]) hD hS hA [1, 2] rfl
  refine va_callv (va_runV (As := [.int 0]) (rest := []) ⟨hx, hb, hml, hown, hts⟩ (kX4_add_2 l dC dI g H.size h7 h8 cc3 f3 ) (cwV 1 hts (ns_gp (List.forall_mem_cons.mpr ⟨wm257, (List.forall_mem_cons.mpr ⟨wm258, (List.forall_mem_cons.mpr ⟨wm259, (List.forall_mem_cons.mpr ⟨wm12, (fun _ h9 => nomatch h9)⟩)⟩)⟩)⟩) wm256) rfl rfl rfl (by decide +kernel) ⟨Nat.le_of_ble_eq_true rfl, Nat.le_of_ble_eq_true rfl⟩) ⟨fun a U gg mk q => by obtain ⟨q0, q1, qP, qK, qD, qF⟩ := q; exact ⟨q0, q1, qP, va_K.moved (u := U) (U := U.calling gg mk a) (Vm.Alike.refl U.vm) qK, qD, ns_same qF⟩, va_recv hK hP (ci := 11) (q0 := 1) rfl rfl, fun U hU hW => ⟨rfl, by rw [hU], by rw [hU]; exact hPc, va_K.moved hW.alike hKc, hDc.weaken (fun _ _ _ _ => trivial), ns_call hF hS hFc hU hW⟩⟩ rfl rfl hl.1 rfl (lv_room (Nat.le_of_ble_eq_true rfl)) dX3_addPlace_30 ⟨Nat.le_of_ble_eq_true rfl, Nat.le_of_ble_eq_true rfl⟩) hS (fun q _ h => hFc q h) hFc (fun u t H1 locs ht hvm hw hB hz1 hk1 hS => ?_)
  obtain ⟨hP1, hK1, hD1⟩ := hB
  rw [ht] at hP1
  have hK1 := va_K.moved hvm.symm hK1
  obtain ⟨hP, hD⟩ := va_join (wr := [(h0, .inr (10, [v0, .ref h1, .ref h3, .ref h5, .ref h7, .ref h9, .ref h11, v1, v2])), (h9, .inr (11, [.ref h10, .int 0])), (h10, .inl (cc4, 4960, .inl f4)), (h11, .inr (11, [.ref h12, .int 0])), (h12, .inl (cc5, 4960, .inl f5)), (h1, .inr (11, [.ref h2, .int 1])), (h2, .inl (cc0, 4960, .inl (upd (f0) 0 0))), (h3, .inr (11, [.ref h4, .int 1])), (h4, .inl (cc1, 4960, .inl (upd (f1) 0 0))), (h5, .inr (11, [.ref h6, .int 1])), (h6, .inl (cc2, 4960, .inl (upd (f2) 0 5)))]) (w1 := [(h7, .inr (11, [.ref h8, .int 1])), (h8, .inl (cc3, 4960, .inl (upd (f3) 0 0)))]) hP hD [1, 2] [0, 3, 4, 5, 6, 7, 8, 9, 10, 11, 12] rfl rfl (by decide) (by decide) hk1 hFc hP1 hD1
  have hK := (hK.sub (tys' := [(cc4, .int), (cc5, .int), (cc0, .int), (cc1, .int), (cc2, .int)]) [1, 2, 3, 4, 5] rfl).app hK1
  generalize H1 = H at hP hS ⊢
  have hP : va_P (dC, dI) vwCl [(h0, .inr (10, [v0, .ref h1, .ref h3, .ref h5, .ref h7, .ref h9, .ref h11, v1, v2])), (h9, .inr (11, [.ref h10, .int 0])), (h10, .inl (cc4, 4960, .inl f4)), (h11, .inr (11, [.ref h12, .int 0])), (h12, .inl (cc5, 4960, .inl f5)), (h1, .inr (11, [.ref h2, .int 1])), (h2, .inl (cc0, 4960, .inl (upd (f0) 0 0))), (h3, .inr (11, [.ref h4, .int 1])), (h4, .inl (cc1, 4960, .inl (upd (f1) 0 0))), (h5, .inr (11, [.ref h6, .int 1])), (h6, .inl (cc2, 4960, .inl (upd (f2) 0 5))), (h7, .inr (11, [.ref h8, .int 1])), (h8, .inl (cc3, 4960, .inl (upd (f3) 0 0)))] H := hP
  have hD : va_D A [(h0, .inr (10, [v0, .ref h1, .ref h3, .ref h5, .ref h7, .ref h9, .ref h11, v1, v2])), (h9, .inr (11, [.ref h10, .int 0])), (h10, .inl (cc4, 4960, .inl f4)), (h11, .inr (11, [.ref h12, .int 0])), (h12, .inl (cc5, 4960, .inl f5)), (h1, .inr (11, [.ref h2, .int 1])), (h2, .inl (cc0, 4960, .inl (upd (f0) 0 0))), (h3, .inr (11, [.ref h4, .int 1])), (h4, .inl (cc1, 4960, .inl (upd (f1) 0 0))), (h5, .inr (11, [.ref h6, .int 1])), (h6, .inl (cc2, 4960, .inl (upd (f2) 0 5))), (h7, .inr (11, [.ref h8, .int 1])), (h8, .inl (cc3, 4960, .inl (upd (f3) 0 0)))] := hD
  have hK : va_K (dC, dI) vwCl [(cc4, .int), (cc5, .int), (cc0, .int), (cc1, .int), (cc2, .int), (cc3, .int)] s := hK
  refine W.widen (k := 0) (n := 0) (Nat.le_of_ble_eq_true rfl) (Nat.le_of_ble_eq_true rfl) ?_
  refine lv_aload_n hx hb dX3_addPlace_33 rfl (lv_at hl 0 rfl) ?_
  refine va_get (D := (dC, dI)) (ci := 10) (v := .ref h9) (C := RX3) (T := TX3) (N := 9) hx hb hta naX3 hown hK hP 0 rfl rfl 5 (by decide) (hta _ wm23) (fun _ h9 => h9) rfl dX3_addPlace_34 ?_
  refine lv_iload hx hb dX3_addPlace_37 (lv_at hl 5 rfl) ?_
  have hPc := hP.sub (ws' := [(h9, .inr (11, [.ref h10, .int 0])), (h10, .inl (cc4, 4960, .inl f4))]) [1, 2] rfl
  have hDc := hD.sub (ws' := [(h9, .inr (11, [.ref h10, .int 0])), (h10, .inl (cc4, 4960, .inl f4))]) [1, 2] (by decide) rfl
  have hKc := hK.sub (tys' := [(cc4, .int)]) [0] rfl
  have hFc := va_free (wc := [(h9, .inr (11, [.ref h10, .int 0])), (h10, .inl (cc4, 4960, .inl f4))]) hD hS hA [1, 2] rfl
  refine va_callv (va_runV (As := [.int 1]) (rest := []) ⟨hx, hb, hml, hown, hts⟩ (kX4_add_3 l dC dI g H.size h9 h10 cc4 f4 ) (cwV 1 hts (ns_gp (List.forall_mem_cons.mpr ⟨wm257, (List.forall_mem_cons.mpr ⟨wm258, (List.forall_mem_cons.mpr ⟨wm259, (List.forall_mem_cons.mpr ⟨wm12, (fun _ h9 => nomatch h9)⟩)⟩)⟩)⟩) wm256) rfl rfl rfl (by decide +kernel) ⟨Nat.le_of_ble_eq_true rfl, Nat.le_of_ble_eq_true rfl⟩) ⟨fun a U gg mk q => by obtain ⟨q0, q1, qP, qK, qD, qF⟩ := q; exact ⟨q0, q1, qP, va_K.moved (u := U) (U := U.calling gg mk a) (Vm.Alike.refl U.vm) qK, qD, ns_same qF⟩, va_recv hK hP (ci := 11) (q0 := 1) rfl rfl, fun U hU hW => ⟨rfl, by rw [hU], by rw [hU]; exact hPc, va_K.moved hW.alike hKc, hDc.weaken (fun _ _ _ _ => trivial), ns_call hF hS hFc hU hW⟩⟩ rfl rfl hl.1 rfl (lv_room (Nat.le_of_ble_eq_true rfl)) dX3_addPlace_39 ⟨Nat.le_of_ble_eq_true rfl, Nat.le_of_ble_eq_true rfl⟩) hS (fun q _ h => hFc q h) hFc (fun u t H1 locs ht hvm hw hB hz1 hk1 hS => ?_)
  obtain ⟨hP1, hK1, hD1⟩ := hB
  rw [ht] at hP1
  have hK1 := va_K.moved hvm.symm hK1
  obtain ⟨hP, hD⟩ := va_join (wr := [(h0, .inr (10, [v0, .ref h1, .ref h3, .ref h5, .ref h7, .ref h9, .ref h11, v1, v2])), (h11, .inr (11, [.ref h12, .int 0])), (h12, .inl (cc5, 4960, .inl f5)), (h1, .inr (11, [.ref h2, .int 1])), (h2, .inl (cc0, 4960, .inl (upd (f0) 0 0))), (h3, .inr (11, [.ref h4, .int 1])), (h4, .inl (cc1, 4960, .inl (upd (f1) 0 0))), (h5, .inr (11, [.ref h6, .int 1])), (h6, .inl (cc2, 4960, .inl (upd (f2) 0 5))), (h7, .inr (11, [.ref h8, .int 1])), (h8, .inl (cc3, 4960, .inl (upd (f3) 0 0)))]) (w1 := [(h9, .inr (11, [.ref h10, .int 1])), (h10, .inl (cc4, 4960, .inl (upd (f4) 0 1)))]) hP hD [1, 2] [0, 3, 4, 5, 6, 7, 8, 9, 10, 11, 12] rfl rfl (by decide) (by decide) hk1 hFc hP1 hD1
  have hK := (hK.sub (tys' := [(cc5, .int), (cc0, .int), (cc1, .int), (cc2, .int), (cc3, .int)]) [1, 2, 3, 4, 5] rfl).app hK1
  generalize H1 = H at hP hS ⊢
  have hP : va_P (dC, dI) vwCl [(h0, .inr (10, [v0, .ref h1, .ref h3, .ref h5, .ref h7, .ref h9, .ref h11, v1, v2])), (h11, .inr (11, [.ref h12, .int 0])), (h12, .inl (cc5, 4960, .inl f5)), (h1, .inr (11, [.ref h2, .int 1])), (h2, .inl (cc0, 4960, .inl (upd (f0) 0 0))), (h3, .inr (11, [.ref h4, .int 1])), (h4, .inl (cc1, 4960, .inl (upd (f1) 0 0))), (h5, .inr (11, [.ref h6, .int 1])), (h6, .inl (cc2, 4960, .inl (upd (f2) 0 5))), (h7, .inr (11, [.ref h8, .int 1])), (h8, .inl (cc3, 4960, .inl (upd (f3) 0 0))), (h9, .inr (11, [.ref h10, .int 1])), (h10, .inl (cc4, 4960, .inl (upd (f4) 0 1)))] H := hP
  have hD : va_D A [(h0, .inr (10, [v0, .ref h1, .ref h3, .ref h5, .ref h7, .ref h9, .ref h11, v1, v2])), (h11, .inr (11, [.ref h12, .int 0])), (h12, .inl (cc5, 4960, .inl f5)), (h1, .inr (11, [.ref h2, .int 1])), (h2, .inl (cc0, 4960, .inl (upd (f0) 0 0))), (h3, .inr (11, [.ref h4, .int 1])), (h4, .inl (cc1, 4960, .inl (upd (f1) 0 0))), (h5, .inr (11, [.ref h6, .int 1])), (h6, .inl (cc2, 4960, .inl (upd (f2) 0 5))), (h7, .inr (11, [.ref h8, .int 1])), (h8, .inl (cc3, 4960, .inl (upd (f3) 0 0))), (h9, .inr (11, [.ref h10, .int 1])), (h10, .inl (cc4, 4960, .inl (upd (f4) 0 1)))] := hD
  have hK : va_K (dC, dI) vwCl [(cc5, .int), (cc0, .int), (cc1, .int), (cc2, .int), (cc3, .int), (cc4, .int)] s := hK
  refine W.widen (k := 0) (n := 0) (Nat.le_of_ble_eq_true rfl) (Nat.le_of_ble_eq_true rfl) ?_
  refine lv_aload_n hx hb dX3_addPlace_42 rfl (lv_at hl 0 rfl) ?_
  refine va_get (D := (dC, dI)) (ci := 10) (v := .ref h11) (C := RX3) (T := TX3) (N := 9) hx hb hta naX3 hown hK hP 0 rfl rfl 6 (by decide) (hta _ wm24) (fun _ h9 => h9) rfl dX3_addPlace_43 ?_
  refine lv_iload hx hb dX3_addPlace_46 (lv_at hl 6 rfl) ?_
  have hPc := hP.sub (ws' := [(h11, .inr (11, [.ref h12, .int 0])), (h12, .inl (cc5, 4960, .inl f5))]) [1, 2] rfl
  have hDc := hD.sub (ws' := [(h11, .inr (11, [.ref h12, .int 0])), (h12, .inl (cc5, 4960, .inl f5))]) [1, 2] (by decide) rfl
  have hKc := hK.sub (tys' := [(cc5, .int)]) [0] rfl
  have hFc := va_free (wc := [(h11, .inr (11, [.ref h12, .int 0])), (h12, .inl (cc5, 4960, .inl f5))]) hD hS hA [1, 2] rfl
  refine va_callv (va_runV (As := [.int 1]) (rest := []) ⟨hx, hb, hml, hown, hts⟩ (kX4_add_3 l dC dI g H.size h11 h12 cc5 f5 ) (cwV 1 hts (ns_gp (List.forall_mem_cons.mpr ⟨wm257, (List.forall_mem_cons.mpr ⟨wm258, (List.forall_mem_cons.mpr ⟨wm259, (List.forall_mem_cons.mpr ⟨wm12, (fun _ h9 => nomatch h9)⟩)⟩)⟩)⟩) wm256) rfl rfl rfl (by decide +kernel) ⟨Nat.le_of_ble_eq_true rfl, Nat.le_of_ble_eq_true rfl⟩) ⟨fun a U gg mk q => by obtain ⟨q0, q1, qP, qK, qD, qF⟩ := q; exact ⟨q0, q1, qP, va_K.moved (u := U) (U := U.calling gg mk a) (Vm.Alike.refl U.vm) qK, qD, ns_same qF⟩, va_recv hK hP (ci := 11) (q0 := 1) rfl rfl, fun U hU hW => ⟨rfl, by rw [hU], by rw [hU]; exact hPc, va_K.moved hW.alike hKc, hDc.weaken (fun _ _ _ _ => trivial), ns_call hF hS hFc hU hW⟩⟩ rfl rfl hl.1 rfl (lv_room (Nat.le_of_ble_eq_true rfl)) dX3_addPlace_48 ⟨Nat.le_of_ble_eq_true rfl, Nat.le_of_ble_eq_true rfl⟩) hS (fun q _ h => hFc q h) hFc (fun u t H1 locs ht hvm hw hB hz1 hk1 hS => ?_)
  obtain ⟨hP1, hK1, hD1⟩ := hB
  rw [ht] at hP1
  have hK1 := va_K.moved hvm.symm hK1
  obtain ⟨hP, hD⟩ := va_join (wr := [(h0, .inr (10, [v0, .ref h1, .ref h3, .ref h5, .ref h7, .ref h9, .ref h11, v1, v2])), (h1, .inr (11, [.ref h2, .int 1])), (h2, .inl (cc0, 4960, .inl (upd (f0) 0 0))), (h3, .inr (11, [.ref h4, .int 1])), (h4, .inl (cc1, 4960, .inl (upd (f1) 0 0))), (h5, .inr (11, [.ref h6, .int 1])), (h6, .inl (cc2, 4960, .inl (upd (f2) 0 5))), (h7, .inr (11, [.ref h8, .int 1])), (h8, .inl (cc3, 4960, .inl (upd (f3) 0 0))), (h9, .inr (11, [.ref h10, .int 1])), (h10, .inl (cc4, 4960, .inl (upd (f4) 0 1)))]) (w1 := [(h11, .inr (11, [.ref h12, .int 1])), (h12, .inl (cc5, 4960, .inl (upd (f5) 0 1)))]) hP hD [1, 2] [0, 3, 4, 5, 6, 7, 8, 9, 10, 11, 12] rfl rfl (by decide) (by decide) hk1 hFc hP1 hD1
  have hK := (hK.sub (tys' := [(cc0, .int), (cc1, .int), (cc2, .int), (cc3, .int), (cc4, .int)]) [1, 2, 3, 4, 5] rfl).app hK1
  generalize H1 = H at hP hS ⊢
  have hP : va_P (dC, dI) vwCl [(h0, .inr (10, [v0, .ref h1, .ref h3, .ref h5, .ref h7, .ref h9, .ref h11, v1, v2])), (h1, .inr (11, [.ref h2, .int 1])), (h2, .inl (cc0, 4960, .inl (upd (f0) 0 0))), (h3, .inr (11, [.ref h4, .int 1])), (h4, .inl (cc1, 4960, .inl (upd (f1) 0 0))), (h5, .inr (11, [.ref h6, .int 1])), (h6, .inl (cc2, 4960, .inl (upd (f2) 0 5))), (h7, .inr (11, [.ref h8, .int 1])), (h8, .inl (cc3, 4960, .inl (upd (f3) 0 0))), (h9, .inr (11, [.ref h10, .int 1])), (h10, .inl (cc4, 4960, .inl (upd (f4) 0 1))), (h11, .inr (11, [.ref h12, .int 1])), (h12, .inl (cc5, 4960, .inl (upd (f5) 0 1)))] H := hP
  have hD : va_D A [(h0, .inr (10, [v0, .ref h1, .ref h3, .ref h5, .ref h7, .ref h9, .ref h11, v1, v2])), (h1, .inr (11, [.ref h2, .int 1])), (h2, .inl (cc0, 4960, .inl (upd (f0) 0 0))), (h3, .inr (11, [.ref h4, .int 1])), (h4, .inl (cc1, 4960, .inl (upd (f1) 0 0))), (h5, .inr (11, [.ref h6, .int 1])), (h6, .inl (cc2, 4960, .inl (upd (f2) 0 5))), (h7, .inr (11, [.ref h8, .int 1])), (h8, .inl (cc3, 4960, .inl (upd (f3) 0 0))), (h9, .inr (11, [.ref h10, .int 1])), (h10, .inl (cc4, 4960, .inl (upd (f4) 0 1))), (h11, .inr (11, [.ref h12, .int 1])), (h12, .inl (cc5, 4960, .inl (upd (f5) 0 1)))] := hD
  have hK : va_K (dC, dI) vwCl [(cc0, .int), (cc1, .int), (cc2, .int), (cc3, .int), (cc4, .int), (cc5, .int)] s := hK
  refine W.widen (k := 0) (n := 0) (Nat.le_of_ble_eq_true rfl) (Nat.le_of_ble_eq_true rfl) ?_
  refine lv_aload_n hx hb dX3_addPlace_51 rfl (lv_at hl 0 rfl) ?_
  refine va_get (D := (dC, dI)) (ci := 10) (v := .ref h1) (C := RX3) (T := TX3) (N := 9) hx hb hta naX3 hown hK hP 0 rfl rfl 1 (by decide) (hta _ wm19) (fun _ h9 => h9) rfl dX3_addPlace_52 ?_
  have hPc := hP.sub (ws' := [(h1, .inr (11, [.ref h2, .int 1]))]) [1] rfl
  have hDc := hD.sub (ws' := [(h1, .inr (11, [.ref h2, .int 1]))]) [1] (by decide) rfl
  have hKc := hK.sub (tys' := []) [] rfl
  have hFc := va_free (wc := [(h1, .inr (11, [.ref h2, .int 1]))]) hD hS hA [1] rfl
  refine va_calli (va_runV (As := []) (rest := []) ⟨hx, hb, hml, hown, hts⟩ (kX4_size_2 l dC dI g H.size h1 (.ref h2) ) (cwV 0 hts (ns_gp (List.forall_mem_cons.mpr ⟨wm248, (List.forall_mem_cons.mpr ⟨wm249, (List.forall_mem_cons.mpr ⟨wm250, (List.forall_mem_cons.mpr ⟨wm12, (fun _ h9 => nomatch h9)⟩)⟩)⟩)⟩) wm247) rfl rfl rfl (by decide +kernel) ⟨Nat.le_of_ble_eq_true rfl, Nat.le_of_ble_eq_true rfl⟩) ⟨fun a U gg mk q => by obtain ⟨q0, q1, qP, qK, qD, qF⟩ := q; exact ⟨q0, q1, qP, va_K.moved (u := U) (U := U.calling gg mk a) (Vm.Alike.refl U.vm) qK, qD, ns_same qF⟩, va_recv hK hP (ci := 11) (q0 := 1) rfl rfl, fun U hU hW => ⟨rfl, by rw [hU], by rw [hU]; exact hPc, va_K.moved hW.alike hKc, hDc.weaken (fun _ _ _ _ => trivial), ns_call hF hS hFc hU hW⟩⟩ rfl rfl hl.1 rfl (lv_room (Nat.le_of_ble_eq_true rfl)) dX3_addPlace_55 ⟨Nat.le_of_ble_eq_true rfl, Nat.le_of_ble_eq_true rfl⟩) hS (fun q _ h => hFc q h) hFc (fun r9 u t H1 locs ht hvm hw hB hz1 hk1 hS => ?_)
  obtain rfl := hw.symm
  obtain ⟨hP1, hK1, hD1⟩ := hB
  rw [ht] at hP1
  have hK1 := va_K.moved hvm.symm hK1
  obtain ⟨hP, hD⟩ := va_join (wr := [(h0, .inr (10, [v0, .ref h1, .ref h3, .ref h5, .ref h7, .ref h9, .ref h11, v1, v2])), (h2, .inl (cc0, 4960, .inl (upd (f0) 0 0))), (h3, .inr (11, [.ref h4, .int 1])), (h4, .inl (cc1, 4960, .inl (upd (f1) 0 0))), (h5, .inr (11, [.ref h6, .int 1])), (h6, .inl (cc2, 4960, .inl (upd (f2) 0 5))), (h7, .inr (11, [.ref h8, .int 1])), (h8, .inl (cc3, 4960, .inl (upd (f3) 0 0))), (h9, .inr (11, [.ref h10, .int 1])), (h10, .inl (cc4, 4960, .inl (upd (f4) 0 1))), (h11, .inr (11, [.ref h12, .int 1])), (h12, .inl (cc5, 4960, .inl (upd (f5) 0 1)))]) (w1 := [(h1, .inr (11, [.ref h2, .int 1]))]) hP hD [1] [0, 2, 3, 4, 5, 6, 7, 8, 9, 10, 11, 12] rfl rfl (by decide) (by decide) hk1 hFc hP1 hD1
  have hK := (hK.sub (tys' := [(cc0, .int), (cc1, .int), (cc2, .int), (cc3, .int), (cc4, .int), (cc5, .int)]) [0, 1, 2, 3, 4, 5] rfl).app hK1
  generalize H1 = H at hP hS ⊢
  have hP : va_P (dC, dI) vwCl [(h0, .inr (10, [v0, .ref h1, .ref h3, .ref h5, .ref h7, .ref h9, .ref h11, v1, v2])), (h2, .inl (cc0, 4960, .inl (upd (f0) 0 0))), (h3, .inr (11, [.ref h4, .int 1])), (h4, .inl (cc1, 4960, .inl (upd (f1) 0 0))), (h5, .inr (11, [.ref h6, .int 1])), (h6, .inl (cc2, 4960, .inl (upd (f2) 0 5))), (h7, .inr (11, [.ref h8, .int 1])), (h8, .inl (cc3, 4960, .inl (upd (f3) 0 0))), (h9, .inr (11, [.ref h10, .int 1])), (h10, .inl (cc4, 4960, .inl (upd (f4) 0 1))), (h11, .inr (11, [.ref h12, .int 1])), (h12, .inl (cc5, 4960, .inl (upd (f5) 0 1))), (h1, .inr (11, [.ref h2, .int 1]))] H := hP
  have hD : va_D A [(h0, .inr (10, [v0, .ref h1, .ref h3, .ref h5, .ref h7, .ref h9, .ref h11, v1, v2])), (h2, .inl (cc0, 4960, .inl (upd (f0) 0 0))), (h3, .inr (11, [.ref h4, .int 1])), (h4, .inl (cc1, 4960, .inl (upd (f1) 0 0))), (h5, .inr (11, [.ref h6, .int 1])), (h6, .inl (cc2, 4960, .inl (upd (f2) 0 5))), (h7, .inr (11, [.ref h8, .int 1])), (h8, .inl (cc3, 4960, .inl (upd (f3) 0 0))), (h9, .inr (11, [.ref h10, .int 1])), (h10, .inl (cc4, 4960, .inl (upd (f4) 0 1))), (h11, .inr (11, [.ref h12, .int 1])), (h12, .inl (cc5, 4960, .inl (upd (f5) 0 1))), (h1, .inr (11, [.ref h2, .int 1]))] := hD
  have hK : va_K (dC, dI) vwCl [(cc0, .int), (cc1, .int), (cc2, .int), (cc3, .int), (cc4, .int), (cc5, .int)] s := hK
  refine W.widen (k := 0) (n := 0) (Nat.le_of_ble_eq_true rfl) (Nat.le_of_ble_eq_true rfl) ?_
  refine lv_iconst (v := 1) hx hb dX3_addPlace_58 (by decide) ?_
  refine lv_isub hx hb dX3_addPlace_59 ?_
  refine lv_topi (fun y1 ey1 => ?_)
  obtain rfl : y1 = 0 := ey1.trans (by decide)
  have hP9 := hP.sub (ws' := [(h0, .inr (10, [v0, .ref h1, .ref h3, .ref h5, .ref h7, .ref h9, .ref h11, v1, v2])), (h2, .inl (cc0, 4960, .inl (upd (f0) 0 0))), (h3, .inr (11, [.ref h4, .int 1])), (h4, .inl (cc1, 4960, .inl (upd (f1) 0 0))), (h5, .inr (11, [.ref h6, .int 1])), (h6, .inl (cc2, 4960, .inl (upd (f2) 0 5))), (h7, .inr (11, [.ref h8, .int 1])), (h8, .inl (cc3, 4960, .inl (upd (f3) 0 0))), (h9, .inr (11, [.ref h10, .int 1])), (h10, .inl (cc4, 4960, .inl (upd (f4) 0 1))), (h11, .inr (11, [.ref h12, .int 1])), (h12, .inl (cc5, 4960, .inl (upd (f5) 0 1))), (h1, .inr (11, [.ref h2, .int 1]))]) [0, 1, 2, 3, 4, 5, 6, 7, 8, 9, 10, 11, 12] rfl
  have hD9 := hD.sub (ws' := [(h0, .inr (10, [v0, .ref h1, .ref h3, .ref h5, .ref h7, .ref h9, .ref h11, v1, v2])), (h2, .inl (cc0, 4960, .inl (upd (f0) 0 0))), (h3, .inr (11, [.ref h4, .int 1])), (h4, .inl (cc1, 4960, .inl (upd (f1) 0 0))), (h5, .inr (11, [.ref h6, .int 1])), (h6, .inl (cc2, 4960, .inl (upd (f2) 0 5))), (h7, .inr (11, [.ref h8, .int 1])), (h8, .inl (cc3, 4960, .inl (upd (f3) 0 0))), (h9, .inr (11, [.ref h10, .int 1])), (h10, .inl (cc4, 4960, .inl (upd (f4) 0 1))), (h11, .inr (11, [.ref h12, .int 1])), (h12, .inl (cc5, 4960, .inl (upd (f5) 0 1))), (h1, .inr (11, [.ref h2, .int 1]))]) [0, 1, 2, 3, 4, 5, 6, 7, 8, 9, 10, 11, 12] (by decide) rfl
  have hK9 := hK.sub (tys' := [(cc0, .int), (cc1, .int), (cc2, .int), (cc3, .int), (cc4, .int), (cc5, .int)]) [0, 1, 2, 3, 4, 5] rfl
  refine W.widen (k := 0) (n := 0) (Nat.le_of_ble_eq_true rfl) (Nat.le_of_ble_eq_true rfl) ?_
  exact W.iret (v := 0) hx hb hr (fun t ht hW => ⟨⟨_, (), rfl, rfl, by rw [ht]; exact hP9, va_K.moved hW.alike hK9, hD9⟩, hS.F ht⟩) hS.2.2 dX3_addPlace_60
set_option maxHeartbeats 4000000 in
set_option maxRecDepth 100000 in
theorem kX9_needCodes_2 (l : Launch) (dC : Nat → ClassId) (dI : Nat → Nat → Nat) (g : Nat → Nat) (sz : Nat) (h0 : Nat) (h1 : Nat) (h2 : Nat) (v0 : Value) (v1 : Value) (v2 : Value) (v3 : Value) (v4 : Value) (v5 : Value) (v6 : Value) (v7 : Value) (v8 : Value) (v9 : Value) (v10 : Value) (v11 : Value) (v12 : Value) (v13 : Value) (v14 : Value) (cc0 : ClassId) (x0 : Int32) (x1 : Int32) (x2 : Int32) (x3 : Int32) (x4 : Int32) (x5 : Int32) (ex0 : (-1 : Int) ≤ x0.toInt ∧ x0.toInt ≤ (21 : Int)) (ex1 : (-2147483648 : Int) ≤ x1.toInt ∧ x1.toInt ≤ (-2 : Int)) (hlt : l.stackTraces = false) : vx_Met l yX9_needCodes wbX9_needCodes ({ frames := 6, cells := 1, slots := 6, locals := 82 }) (va_Pc [.ref h0] (fun U => U.heap.size = sz ∧ va_P (dC, dI) vwCl [(h0, .inr (16, [v0, v1, .ref h1, v2, v3, v4, v5, v6, v7, v8, v9, v10, v11, v12, v13, v14])), (h1, .inr (11, [.ref h2, .int 6])), (h2, .inl (cc0, 6, .inl (upd (upd (upd (upd (upd (upd (fun _ => 0) 0 x0) 1 x1) 2 x2) 3 x3) 4 x4) 5 x5)))] U.heap ∧ va_K (dC, dI) vwCl [(cc0, .int)] U ∧ va_D (fun _ => True) [(h0, .inr (16, [v0, v1, .ref h1, v2, v3, v4, v5, v6, v7, v8, v9, v10, v11, v12, v13, v14])), (h1, .inr (11, [.ref h2, .int 6])), (h2, .inl (cc0, 6, .inl (upd (upd (upd (upd (upd (upd (fun _ => 0) 0 x0) 1 x1) 2 x2) 3 x3) 4 x4) 5 x5)))] ∧ ns_F g (va_A [(h0, .inr (16, [v0, v1, .ref h1, v2, v3, v4, v5, v6, v7, v8, v9, v10, v11, v12, v13, v14])), (h1, .inr (11, [.ref h2, .int 6])), (h2, .inl (cc0, 6, .inl (upd (upd (upd (upd (upd (upd (fun _ => 0) 0 x0) 1 x1) 2 x2) 3 x3) 4 x4) 5 x5)))] sz) U U.heap)) (va_Qv (fun _ : Unit => False) (fun _ _ => True) (va_A [(h0, .inr (16, [v0, v1, .ref h1, v2, v3, v4, v5, v6, v7, v8, v9, v10, v11, v12, v13, v14])), (h1, .inr (11, [.ref h2, .int 6])), (h2, .inl (cc0, 6, .inl (upd (upd (upd (upd (upd (upd (fun _ => 0) 0 x0) 1 x1) 2 x2) 3 x3) 4 x4) 5 x5)))] sz)) (vx_X (fun _ : Unit => True) (fun E _ _ => E = "java/lang/IllegalArgumentException") (va_A [(h0, .inr (16, [v0, v1, .ref h1, v2, v3, v4, v5, v6, v7, v8, v9, v10, v11, v12, v13, v14])), (h1, .inr (11, [.ref h2, .int 6])), (h2, .inl (cc0, 6, .inl (upd (upd (upd (upd (upd (upd (fun _ => 0) 0 x0) 1 x1) 2 x2) 3 x3) 4 x4) 5 x5)))] sz)) 1 6 (va_A [(h0, .inr (16, [v0, v1, .ref h1, v2, v3, v4, v5, v6, v7, v8, v9, v10, v11, v12, v13, v14])), (h1, .inr (11, [.ref h2, .int 6])), (h2, .inl (cc0, 6, .inl (upd (upd (upd (upd (upd (upd (fun _ => 0) 0 x0) 1 x1) 2 x2) 3 x3) 4 x4) 5 x5)))] sz) := by
  refine vx_ofW (cc := cX9_needCodes) (maxL := 3) (ret := none) (by decide) rfl ?_
  intro p e s m args below meth c s₁ B hml hnox hv
  obtain ⟨rfl, hsz, hP, hK, hD0, hF⟩ := hv
  have hx := B.exec
  have hb := B.bytes
  have hr := B.returns
  have hts := atoms_spec (ws := wbX9_needCodes) B.pre
  have hta : ∀ w ∈ wsALL, w.before _ s = true := fun w h => hts w (List.mem_cons_of_mem _ h)
  have hown : s.vm.findClass RX9 = some m.cls := findClass_of_methodNamed B.named
  have hlocks := B.notSynchronized
  subst hsz
  have hD := hD0.self (sz := s.heap.size)
  generalize hAe : va_A [(h0, .inr (16, [v0, v1, .ref h1, v2, v3, v4, v5, v6, v7, v8, v9, v10, v11, v12, v13, v14])), (h1, .inr (11, [.ref h2, .int 6])), (h2, .inl (cc0, 6, .inl (upd (upd (upd (upd (upd (upd (fun _ => 0) 0 x0) 1 x1) 2 x2) 3 x3) 4 x4) 5 x5)))] s.heap.size = A at hD hF ⊢
  have hA : ∀ q : Nat, s.heap.size ≤ q → A q := fun q h => by rw [← hAe]; exact Or.inr h
  have hS : va_S A s.heap s.heap [] := va_S.rf
  have hP : va_P (dC, dI) vwCl [(h0, .inr (16, [v0, v1, .ref h1, v2, v3, v4, v5, v6, v7, v8, v9, v10, v11, v12, v13, v14])), (h1, .inr (11, [.ref h2, .int 6])), (h2, .inl (cc0, 6, .inl (upd (upd (upd (upd (upd (upd (fun _ => 0) 0 x0) 1 x1) 2 x2) 3 x3) 4 x4) 5 x5)))] s.heap := hP
  have hl := lv_entry ([.ref h0]) (n := 3) (Nat.le_of_ble_eq_true rfl)
  rw [lg_entry_eq]
  generalize (lg_sl ([.ref h0]) ++ List.replicate (3 - (lg_sl ([.ref h0])).length) Slot.unset).toArray = ls at hl ⊢
  have hl : lv_has ls 3 [(0, .ref h0)] := hl
  refine lv_iconst (v := 0) hx hb dX9_needCodes_0 (by decide) ?_
  refine lv_istore_n (lv' := [(1, .int 0), (0, .ref h0)]) hx hb dX9_needCodes_1 rfl hl (by decide) rfl (fun ls hl => ?_)
  refine lv_iload_n hx hb dX9_needCodes_2 rfl (lv_at hl 0 rfl) ?_
  refine lv_aload_n hx hb dX9_needCodes_3 rfl (lv_at hl 1 rfl) ?_
  refine va_get (D := (dC, dI)) (ci := 16) (v := .ref h1) (C := RX9) (T := TX9) (N := 16) hx hb hta naX9 hown hK hP 0 rfl rfl 2 (by decide) (hta _ wm33) (fun _ h9 => h9) rfl dX9_needCodes_4 ?_
  have hPc := hP.sub (ws' := [(h1, .inr (11, [.ref h2, .int 6]))]) [1] rfl
  have hDc := hD.sub (ws' := [(h1, .inr (11, [.ref h2, .int 6]))]) [1] (by decide) rfl
  have hKc := hK.sub (tys' := []) [] rfl
  have hFc := va_free (wc := [(h1, .inr (11, [.ref h2, .int 6]))]) hD hS hA [1] rfl
  refine va_calli (va_runV (As := []) (rest := [.int 0]) ⟨hx, hb, hml, hown, hts⟩ (kX4_size_7 l dC dI g s.heap.size h1 (.ref h2) ) (cwV 0 hts (ns_gp (List.forall_mem_cons.mpr ⟨wm549, (List.forall_mem_cons.mpr ⟨wm249, (List.forall_mem_cons.mpr ⟨wm250, (List.forall_mem_cons.mpr ⟨wm12, (fun _ h9 => nomatch h9)⟩)⟩)⟩)⟩) wm247) rfl rfl rfl (by decide +kernel) ⟨Nat.le_of_ble_eq_true rfl, Nat.le_of_ble_eq_true rfl⟩) ⟨fun a U gg mk q => by obtain ⟨q0, q1, qP, qK, qD, qF⟩ := q; exact ⟨q0, q1, qP, va_K.moved (u := U) (U := U.calling gg mk a) (Vm.Alike.refl U.vm) qK, qD, ns_same qF⟩, va_recv hK hP (ci := 11) (q0 := 1) rfl rfl, fun U hU hW => ⟨rfl, by rw [hU], by rw [hU]; exact hPc, va_K.moved hW.alike hKc, hDc.weaken (fun _ _ _ _ => trivial), ns_call hF hS hFc hU hW⟩⟩ rfl rfl hl.1 rfl (lv_room (Nat.le_of_ble_eq_true rfl)) dX9_needCodes_7 ⟨Nat.le_of_ble_eq_true rfl, Nat.le_of_ble_eq_true rfl⟩) hS (fun q _ h => hFc q h) hFc (fun r9 u t H1 locs ht hvm hw hB hz1 hk1 hS => ?_)
  obtain rfl := hw.symm
  obtain ⟨hP1, hK1, hD1⟩ := hB
  rw [ht] at hP1
  have hK1 := va_K.moved hvm.symm hK1
  obtain ⟨hP, hD⟩ := va_join (wr := [(h0, .inr (16, [v0, v1, .ref h1, v2, v3, v4, v5, v6, v7, v8, v9, v10, v11, v12, v13, v14])), (h2, .inl (cc0, 6, .inl (upd (upd (upd (upd (upd (upd (fun _ => 0) 0 x0) 1 x1) 2 x2) 3 x3) 4 x4) 5 x5)))]) (w1 := [(h1, .inr (11, [.ref h2, .int 6]))]) hP hD [1] [0, 2] rfl rfl (by decide) (by decide) hk1 hFc hP1 hD1
  have hK := (hK.sub (tys' := [(cc0, .int)]) [0] rfl).app hK1
  generalize H1 = H at hP hS ⊢
  have hP : va_P (dC, dI) vwCl [(h0, .inr (16, [v0, v1, .ref h1, v2, v3, v4, v5, v6, v7, v8, v9, v10, v11, v12, v13, v14])), (h2, .inl (cc0, 6, .inl (upd (upd (upd (upd (upd (upd (fun _ => 0) 0 x0) 1 x1) 2 x2) 3 x3) 4 x4) 5 x5))), (h1, .inr (11, [.ref h2, .int 6]))] H := hP
  have hD : va_D A [(h0, .inr (16, [v0, v1, .ref h1, v2, v3, v4, v5, v6, v7, v8, v9, v10, v11, v12, v13, v14])), (h2, .inl (cc0, 6, .inl (upd (upd (upd (upd (upd (upd (fun _ => 0) 0 x0) 1 x1) 2 x2) 3 x3) 4 x4) 5 x5))), (h1, .inr (11, [.ref h2, .int 6]))] := hD
  have hK : va_K (dC, dI) vwCl [(cc0, .int)] s := hK
  refine W.widen (k := 0) (n := 0) (Nat.le_of_ble_eq_true rfl) (Nat.le_of_ble_eq_true rfl) ?_
  refine lv_icmp_ge (tgt := 55) hx hb dX9_needCodes_10 (by decide) (fun c1 => absurd c1 (by decide)) (fun c1 => ?_)
  refine lv_aload_n hx hb dX9_needCodes_13 rfl (lv_at hl 1 rfl) ?_
  refine va_get (D := (dC, dI)) (ci := 16) (v := .ref h1) (C := RX9) (T := TX9) (N := 16) hx hb hta naX9 hown hK hP 0 rfl rfl 2 (by decide) (hta _ wm33) (fun _ h9 => h9) rfl dX9_needCodes_14 ?_
  refine lv_iload_n hx hb dX9_needCodes_17 rfl (lv_at hl 0 rfl) ?_
  have hPc := hP.sub (ws' := [(h1, .inr (11, [.ref h2, .int 6])), (h2, .inl (cc0, 6, .inl (upd (upd (upd (upd (upd (upd (fun _ => 0) 0 x0) 1 x1) 2 x2) 3 x3) 4 x4) 5 x5)))]) [2, 1] rfl
  have hDc := hD.sub (ws' := [(h1, .inr (11, [.ref h2, .int 6])), (h2, .inl (cc0, 6, .inl (upd (upd (upd (upd (upd (upd (fun _ => 0) 0 x0) 1 x1) 2 x2) 3 x3) 4 x4) 5 x5)))]) [2, 1] (by decide) rfl
  have hKc := hK.sub (tys' := [(cc0, .int)]) [0] rfl
  have hFc := va_free (wc := [(h1, .inr (11, [.ref h2, .int 6])), (h2, .inl (cc0, 6, .inl (upd (upd (upd (upd (upd (upd (fun _ => 0) 0 x0) 1 x1) 2 x2) 3 x3) 4 x4) 5 x5)))]) hD hS hA [2, 1] rfl
  refine va_calli (va_runV (As := [.int 0]) (rest := []) ⟨hx, hb, hml, hown, hts⟩ (kX4_get_2 l dC dI g H.size h1 h2 cc0 x0 x1 x2 x3 x4 x5 ⟨by omega, by omega⟩ ⟨by omega, by omega⟩) (cwV 1 hts (ns_gp (List.forall_mem_cons.mpr ⟨wm550, (List.forall_mem_cons.mpr ⟨wm551, (List.forall_mem_cons.mpr ⟨wm552, (List.forall_mem_cons.mpr ⟨wm12, (fun _ h9 => nomatch h9)⟩)⟩)⟩)⟩) wm548) rfl rfl rfl (by decide +kernel) ⟨Nat.le_of_ble_eq_true rfl, Nat.le_of_ble_eq_true rfl⟩) ⟨fun a U gg mk q => by obtain ⟨q0, q1, qP, qK, qD, qF⟩ := q; exact ⟨q0, q1, qP, va_K.moved (u := U) (U := U.calling gg mk a) (Vm.Alike.refl U.vm) qK, qD, ns_same qF⟩, va_recv hK hP (ci := 11) (q0 := 2) rfl rfl, fun U hU hW => ⟨rfl, by rw [hU], by rw [hU]; exact hPc, va_K.moved hW.alike hKc, hDc.weaken (fun _ _ _ _ => trivial), ns_call hF hS hFc hU hW⟩⟩ rfl rfl hl.1 rfl (lv_room (Nat.le_of_ble_eq_true rfl)) dX9_needCodes_18 ⟨Nat.le_of_ble_eq_true rfl, Nat.le_of_ble_eq_true rfl⟩) hS (fun q _ h => hFc q h) hFc (fun r9 u t H1 locs ht hvm hw hB hz1 hk1 hS => ?_)
  obtain rfl := hw.symm
  obtain ⟨hP1, hK1, hD1⟩ := hB
  rw [ht] at hP1
  have hK1 := va_K.moved hvm.symm hK1
  obtain ⟨hP, hD⟩ := va_join (wr := [(h0, .inr (16, [v0, v1, .ref h1, v2, v3, v4, v5, v6, v7, v8, v9, v10, v11, v12, v13, v14]))]) (w1 := [(h1, .inr (11, [.ref h2, .int 6])), (h2, .inl (cc0, 6, .inl (upd (upd (upd (upd (upd (upd (fun _ => 0) 0 x0) 1 x1) 2 x2) 3 x3) 4 x4) 5 x5)))]) hP hD [2, 1] [0] rfl rfl (by decide) (by decide) hk1 hFc hP1 hD1
  have hK := (hK.sub (tys' := []) [] rfl).app hK1
  generalize H1 = H at hP hS ⊢
  have hP : va_P (dC, dI) vwCl [(h0, .inr (16, [v0, v1, .ref h1, v2, v3, v4, v5, v6, v7, v8, v9, v10, v11, v12, v13, v14])), (h1, .inr (11, [.ref h2, .int 6])), (h2, .inl (cc0, 6, .inl (upd (upd (upd (upd (upd (upd (fun _ => 0) 0 x0) 1 x1) 2 x2) 3 x3) 4 x4) 5 x5)))] H := hP
  have hD : va_D A [(h0, .inr (16, [v0, v1, .ref h1, v2, v3, v4, v5, v6, v7, v8, v9, v10, v11, v12, v13, v14])), (h1, .inr (11, [.ref h2, .int 6])), (h2, .inl (cc0, 6, .inl (upd (upd (upd (upd (upd (upd (fun _ => 0) 0 x0) 1 x1) 2 x2) 3 x3) 4 x4) 5 x5)))] := hD
  have hK : va_K (dC, dI) vwCl [(cc0, .int)] s := hK
  refine W.widen (k := 0) (n := 0) (Nat.le_of_ble_eq_true rfl) (Nat.le_of_ble_eq_true rfl) ?_
  refine lv_iconst (v := (-1)) hx hb dX9_needCodes_21 (by decide) ?_
  refine lv_icmp_lt (tgt := 38) hx hb dX9_needCodes_22 (by decide) (fun c2 => absurd c2 (fun z => absurd (show x0.toInt < (-1 : Int) from Int32.lt_iff_toInt_lt.mp z) (by omega))) (fun c2 => ?_)
  refine lv_aload_n hx hb dX9_needCodes_25 rfl (lv_at hl 1 rfl) ?_
  refine va_get (D := (dC, dI)) (ci := 16) (v := .ref h1) (C := RX9) (T := TX9) (N := 16) hx hb hta naX9 hown hK hP 0 rfl rfl 2 (by decide) (hta _ wm33) (fun _ h9 => h9) rfl dX9_needCodes_26 ?_
  refine lv_iload_n hx hb dX9_needCodes_29 rfl (lv_at hl 0 rfl) ?_
  have hPc := hP.sub (ws' := [(h1, .inr (11, [.ref h2, .int 6])), (h2, .inl (cc0, 6, .inl (upd (upd (upd (upd (upd (upd (fun _ => 0) 0 x0) 1 x1) 2 x2) 3 x3) 4 x4) 5 x5)))]) [1, 2] rfl
  have hDc := hD.sub (ws' := [(h1, .inr (11, [.ref h2, .int 6])), (h2, .inl (cc0, 6, .inl (upd (upd (upd (upd (upd (upd (fun _ => 0) 0 x0) 1 x1) 2 x2) 3 x3) 4 x4) 5 x5)))]) [1, 2] (by decide) rfl
  have hKc := hK.sub (tys' := [(cc0, .int)]) [0] rfl
  have hFc := va_free (wc := [(h1, .inr (11, [.ref h2, .int 6])), (h2, .inl (cc0, 6, .inl (upd (upd (upd (upd (upd (upd (fun _ => 0) 0 x0) 1 x1) 2 x2) 3 x3) 4 x4) 5 x5)))]) hD hS hA [1, 2] rfl
  refine va_calli (va_runV (As := [.int 0]) (rest := []) ⟨hx, hb, hml, hown, hts⟩ (kX4_get_2 l dC dI g H.size h1 h2 cc0 x0 x1 x2 x3 x4 x5 ⟨by omega, by omega⟩ ⟨by omega, by omega⟩) (cwV 1 hts (ns_gp (List.forall_mem_cons.mpr ⟨wm550, (List.forall_mem_cons.mpr ⟨wm551, (List.forall_mem_cons.mpr ⟨wm552, (List.forall_mem_cons.mpr ⟨wm12, (fun _ h9 => nomatch h9)⟩)⟩)⟩)⟩) wm548) rfl rfl rfl (by decide +kernel) ⟨Nat.le_of_ble_eq_true rfl, Nat.le_of_ble_eq_true rfl⟩) ⟨fun a U gg mk q => by obtain ⟨q0, q1, qP, qK, qD, qF⟩ := q; exact ⟨q0, q1, qP, va_K.moved (u := U) (U := U.calling gg mk a) (Vm.Alike.refl U.vm) qK, qD, ns_same qF⟩, va_recv hK hP (ci := 11) (q0 := 1) rfl rfl, fun U hU hW => ⟨rfl, by rw [hU], by rw [hU]; exact hPc, va_K.moved hW.alike hKc, hDc.weaken (fun _ _ _ _ => trivial), ns_call hF hS hFc hU hW⟩⟩ rfl rfl hl.1 rfl (lv_room (Nat.le_of_ble_eq_true rfl)) dX9_needCodes_30 ⟨Nat.le_of_ble_eq_true rfl, Nat.le_of_ble_eq_true rfl⟩) hS (fun q _ h => hFc q h) hFc (fun r9 u t H1 locs ht hvm hw hB hz1 hk1 hS => ?_)
  obtain rfl := hw.symm
  obtain ⟨hP1, hK1, hD1⟩ := hB
  rw [ht] at hP1
  have hK1 := va_K.moved hvm.symm hK1
  obtain ⟨hP, hD⟩ := va_join (wr := [(h0, .inr (16, [v0, v1, .ref h1, v2, v3, v4, v5, v6, v7, v8, v9, v10, v11, v12, v13, v14]))]) (w1 := [(h1, .inr (11, [.ref h2, .int 6])), (h2, .inl (cc0, 6, .inl (upd (upd (upd (upd (upd (upd (fun _ => 0) 0 x0) 1 x1) 2 x2) 3 x3) 4 x4) 5 x5)))]) hP hD [1, 2] [0] rfl rfl (by decide) (by decide) hk1 hFc hP1 hD1
  have hK := (hK.sub (tys' := []) [] rfl).app hK1
  generalize H1 = H at hP hS ⊢
  have hP : va_P (dC, dI) vwCl [(h0, .inr (16, [v0, v1, .ref h1, v2, v3, v4, v5, v6, v7, v8, v9, v10, v11, v12, v13, v14])), (h1, .inr (11, [.ref h2, .int 6])), (h2, .inl (cc0, 6, .inl (upd (upd (upd (upd (upd (upd (fun _ => 0) 0 x0) 1 x1) 2 x2) 3 x3) 4 x4) 5 x5)))] H := hP
  have hD : va_D A [(h0, .inr (16, [v0, v1, .ref h1, v2, v3, v4, v5, v6, v7, v8, v9, v10, v11, v12, v13, v14])), (h1, .inr (11, [.ref h2, .int 6])), (h2, .inl (cc0, 6, .inl (upd (upd (upd (upd (upd (upd (fun _ => 0) 0 x0) 1 x1) 2 x2) 3 x3) 4 x4) 5 x5)))] := hD
  have hK : va_K (dC, dI) vwCl [(cc0, .int)] s := hK
  refine W.widen (k := 0) (n := 0) (Nat.le_of_ble_eq_true rfl) (Nat.le_of_ble_eq_true rfl) ?_
  refine lv_bipush (v := 21) hx hb dX9_needCodes_33 (by decide) ?_
  refine lv_icmp_le (tgt := 49) hx hb dX9_needCodes_35 (by decide) (fun c3 => ?_) (fun c3 => absurd (show x0 ≤ (21 : Int32) from Int32.le_iff_toInt_le.mpr (show x0.toInt ≤ (21 : Int) by omega)) c3)
  refine lv_iinc (v := 1) (lv' := [(1, .int 1), (0, .ref h0)]) hx hb dX9_needCodes_49 hl (k := 0) rfl (by decide) (by decide) rfl (fun ls hl => ?_)
  refine lv_goto (tgt := 2) hx hb dX9_needCodes_52 (by decide) ?_
  refine lv_iload_n hx hb dX9_needCodes_2 rfl (lv_at hl 0 rfl) ?_
  refine lv_aload_n hx hb dX9_needCodes_3 rfl (lv_at hl 1 rfl) ?_
  refine va_get (D := (dC, dI)) (ci := 16) (v := .ref h1) (C := RX9) (T := TX9) (N := 16) hx hb hta naX9 hown hK hP 0 rfl rfl 2 (by decide) (hta _ wm33) (fun _ h9 => h9) rfl dX9_needCodes_4 ?_
  have hPc := hP.sub (ws' := [(h1, .inr (11, [.ref h2, .int 6]))]) [1] rfl
  have hDc := hD.sub (ws' := [(h1, .inr (11, [.ref h2, .int 6]))]) [1] (by decide) rfl
  have hKc := hK.sub (tys' := []) [] rfl
  have hFc := va_free (wc := [(h1, .inr (11, [.ref h2, .int 6]))]) hD hS hA [1] rfl
  refine va_calli (va_runV (As := []) (rest := [.int 1]) ⟨hx, hb, hml, hown, hts⟩ (kX4_size_7 l dC dI g H.size h1 (.ref h2) ) (cwV 0 hts (ns_gp (List.forall_mem_cons.mpr ⟨wm549, (List.forall_mem_cons.mpr ⟨wm249, (List.forall_mem_cons.mpr ⟨wm250, (List.forall_mem_cons.mpr ⟨wm12, (fun _ h9 => nomatch h9)⟩)⟩)⟩)⟩) wm247) rfl rfl rfl (by decide +kernel) ⟨Nat.le_of_ble_eq_true rfl, Nat.le_of_ble_eq_true rfl⟩) ⟨fun a U gg mk q => by obtain ⟨q0, q1, qP, qK, qD, qF⟩ := q; exact ⟨q0, q1, qP, va_K.moved (u := U) (U := U.calling gg mk a) (Vm.Alike.refl U.vm) qK, qD, ns_same qF⟩, va_recv hK hP (ci := 11) (q0 := 1) rfl rfl, fun U hU hW => ⟨rfl, by rw [hU], by rw [hU]; exact hPc, va_K.moved hW.alike hKc, hDc.weaken (fun _ _ _ _ => trivial), ns_call hF hS hFc hU hW⟩⟩ rfl rfl hl.1 rfl (lv_room (Nat.le_of_ble_eq_true rfl)) dX9_needCodes_7 ⟨Nat.le_of_ble_eq_true rfl, Nat.le_of_ble_eq_true rfl⟩) hS (fun q _ h => hFc q h) hFc (fun r9 u t H1 locs ht hvm hw hB hz1 hk1 hS => ?_)
  obtain rfl := hw.symm
  obtain ⟨hP1, hK1, hD1⟩ := hB
  rw [ht] at hP1
  have hK1 := va_K.moved hvm.symm hK1
  obtain ⟨hP, hD⟩ := va_join (wr := [(h0, .inr (16, [v0, v1, .ref h1, v2, v3, v4, v5, v6, v7, v8, v9, v10, v11, v12, v13, v14])), (h2, .inl (cc0, 6, .inl (upd (upd (upd (upd (upd (upd (fun _ => 0) 0 x0) 1 x1) 2 x2) 3 x3) 4 x4) 5 x5)))]) (w1 := [(h1, .inr (11, [.ref h2, .int 6]))]) hP hD [1] [0, 2] rfl rfl (by decide) (by decide) hk1 hFc hP1 hD1
  have hK := (hK.sub (tys' := [(cc0, .int)]) [0] rfl).app hK1
  generalize H1 = H at hP hS ⊢
  have hP : va_P (dC, dI) vwCl [(h0, .inr (16, [v0, v1, .ref h1, v2, v3, v4, v5, v6, v7, v8, v9, v10, v11, v12, v13, v14])), (h2, .inl (cc0, 6, .inl (upd (upd (upd (upd (upd (upd (fun _ => 0) 0 x0) 1 x1) 2 x2) 3 x3) 4 x4) 5 x5))), (h1, .inr (11, [.ref h2, .int 6]))] H := hP
  have hD : va_D A [(h0, .inr (16, [v0, v1, .ref h1, v2, v3, v4, v5, v6, v7, v8, v9, v10, v11, v12, v13, v14])), (h2, .inl (cc0, 6, .inl (upd (upd (upd (upd (upd (upd (fun _ => 0) 0 x0) 1 x1) 2 x2) 3 x3) 4 x4) 5 x5))), (h1, .inr (11, [.ref h2, .int 6]))] := hD
  have hK : va_K (dC, dI) vwCl [(cc0, .int)] s := hK
  refine W.widen (k := 0) (n := 0) (Nat.le_of_ble_eq_true rfl) (Nat.le_of_ble_eq_true rfl) ?_
  refine lv_icmp_ge (tgt := 55) hx hb dX9_needCodes_10 (by decide) (fun c4 => absurd c4 (by decide)) (fun c4 => ?_)
  refine lv_aload_n hx hb dX9_needCodes_13 rfl (lv_at hl 1 rfl) ?_
  refine va_get (D := (dC, dI)) (ci := 16) (v := .ref h1) (C := RX9) (T := TX9) (N := 16) hx hb hta naX9 hown hK hP 0 rfl rfl 2 (by decide) (hta _ wm33) (fun _ h9 => h9) rfl dX9_needCodes_14 ?_
  refine lv_iload_n hx hb dX9_needCodes_17 rfl (lv_at hl 0 rfl) ?_
  have hPc := hP.sub (ws' := [(h1, .inr (11, [.ref h2, .int 6])), (h2, .inl (cc0, 6, .inl (upd (upd (upd (upd (upd (upd (fun _ => 0) 0 x0) 1 x1) 2 x2) 3 x3) 4 x4) 5 x5)))]) [2, 1] rfl
  have hDc := hD.sub (ws' := [(h1, .inr (11, [.ref h2, .int 6])), (h2, .inl (cc0, 6, .inl (upd (upd (upd (upd (upd (upd (fun _ => 0) 0 x0) 1 x1) 2 x2) 3 x3) 4 x4) 5 x5)))]) [2, 1] (by decide) rfl
  have hKc := hK.sub (tys' := [(cc0, .int)]) [0] rfl
  have hFc := va_free (wc := [(h1, .inr (11, [.ref h2, .int 6])), (h2, .inl (cc0, 6, .inl (upd (upd (upd (upd (upd (upd (fun _ => 0) 0 x0) 1 x1) 2 x2) 3 x3) 4 x4) 5 x5)))]) hD hS hA [2, 1] rfl
  refine va_calli (va_runV (As := [.int 1]) (rest := []) ⟨hx, hb, hml, hown, hts⟩ (kX4_get_3 l dC dI g H.size h1 h2 cc0 x0 x1 x2 x3 x4 x5 ⟨by omega, by omega⟩ ⟨by omega, by omega⟩) (cwV 1 hts (ns_gp (List.forall_mem_cons.mpr ⟨wm550, (List.forall_mem_cons.mpr ⟨wm551, (List.forall_mem_cons.mpr ⟨wm552, (List.forall_mem_cons.mpr ⟨wm12, (fun _ h9 => nomatch h9)⟩)⟩)⟩)⟩) wm548) rfl rfl rfl (by decide +kernel) ⟨Nat.le_of_ble_eq_true rfl, Nat.le_of_ble_eq_true rfl⟩) ⟨fun a U gg mk q => by obtain ⟨q0, q1, qP, qK, qD, qF⟩ := q; exact ⟨q0, q1, qP, va_K.moved (u := U) (U := U.calling gg mk a) (Vm.Alike.refl U.vm) qK, qD, ns_same qF⟩, va_recv hK hP (ci := 11) (q0 := 2) rfl rfl, fun U hU hW => ⟨rfl, by rw [hU], by rw [hU]; exact hPc, va_K.moved hW.alike hKc, hDc.weaken (fun _ _ _ _ => trivial), ns_call hF hS hFc hU hW⟩⟩ rfl rfl hl.1 rfl (lv_room (Nat.le_of_ble_eq_true rfl)) dX9_needCodes_18 ⟨Nat.le_of_ble_eq_true rfl, Nat.le_of_ble_eq_true rfl⟩) hS (fun q _ h => hFc q h) hFc (fun r9 u t H1 locs ht hvm hw hB hz1 hk1 hS => ?_)
  obtain rfl := hw.symm
  obtain ⟨hP1, hK1, hD1⟩ := hB
  rw [ht] at hP1
  have hK1 := va_K.moved hvm.symm hK1
  obtain ⟨hP, hD⟩ := va_join (wr := [(h0, .inr (16, [v0, v1, .ref h1, v2, v3, v4, v5, v6, v7, v8, v9, v10, v11, v12, v13, v14]))]) (w1 := [(h1, .inr (11, [.ref h2, .int 6])), (h2, .inl (cc0, 6, .inl (upd (upd (upd (upd (upd (upd (fun _ => 0) 0 x0) 1 x1) 2 x2) 3 x3) 4 x4) 5 x5)))]) hP hD [2, 1] [0] rfl rfl (by decide) (by decide) hk1 hFc hP1 hD1
  have hK := (hK.sub (tys' := []) [] rfl).app hK1
  generalize H1 = H at hP hS ⊢
  have hP : va_P (dC, dI) vwCl [(h0, .inr (16, [v0, v1, .ref h1, v2, v3, v4, v5, v6, v7, v8, v9, v10, v11, v12, v13, v14])), (h1, .inr (11, [.ref h2, .int 6])), (h2, .inl (cc0, 6, .inl (upd (upd (upd (upd (upd (upd (fun _ => 0) 0 x0) 1 x1) 2 x2) 3 x3) 4 x4) 5 x5)))] H := hP
  have hD : va_D A [(h0, .inr (16, [v0, v1, .ref h1, v2, v3, v4, v5, v6, v7, v8, v9, v10, v11, v12, v13, v14])), (h1, .inr (11, [.ref h2, .int 6])), (h2, .inl (cc0, 6, .inl (upd (upd (upd (upd (upd (upd (fun _ => 0) 0 x0) 1 x1) 2 x2) 3 x3) 4 x4) 5 x5)))] := hD
  have hK : va_K (dC, dI) vwCl [(cc0, .int)] s := hK
  refine W.widen (k := 0) (n := 0) (Nat.le_of_ble_eq_true rfl) (Nat.le_of_ble_eq_true rfl) ?_
  refine lv_iconst (v := (-1)) hx hb dX9_needCodes_21 (by decide) ?_
  refine lv_icmp_lt (tgt := 38) hx hb dX9_needCodes_22 (by decide) (fun c5 => ?_) (fun c5 => absurd (show x1 < (-1 : Int32) from Int32.lt_iff_toInt_lt.mpr (show x1.toInt < (-1 : Int) by omega)) c5)
  exact vx_throwSW hx hb hlt (text := "a code is -1 to 21") (sa := (g 30)) (names := ["java/lang/RuntimeException", "java/lang/Exception"]) hown (by decide) (by decide) (hta _ wm225) (hta _ wm226) (ns_f31 hF) (vx_hat (B := [.declares ⟨"java/lang/RuntimeException", "<init>", "(Ljava/lang/String;)V"⟩, .declares ⟨"java/lang/Exception", "<init>", "(Ljava/lang/String;)V"⟩, .declares ⟨"java/lang/Throwable", "<init>", "(Ljava/lang/String;)V"⟩, .castable "java/lang/IllegalArgumentException" "java/lang/IllegalArgumentException"]) (fun w9 h9 => hta w9 (vm0 w9 h9)) (by decide +kernel) (vx_c (va_Nw.use rfl (ns_f12 hF)) (vx_c (va_Nw.use rfl (ns_f13 hF)) (vx_c (va_Nw.use rfl (ns_f14 hF)) (vx_c (va_Nw.use rfl (ns_f11 hF)) vx_n))))) (by decide +kernel) (ns_f18 hF) (ns_f19 hF) hS (by rw [hml]; exact hl.1) dX9_needCodes_38 dX9_needCodes_41 dX9_needCodes_42 dX9_needCodes_45 dX9_needCodes_48 (fun x hx => (hnox x hx).elim) (Nat.le_of_ble_eq_true rfl) (Nat.le_of_ble_eq_true rfl) (Nat.le_of_ble_eq_true rfl) (Nat.le_of_ble_eq_true rfl) hlocks (fun t9 hal hsz9 hk9 => ⟨(), trivial, rfl, Nat.le_trans hS.1 hsz9, fun q hq1 hq2 => (hk9 q (Nat.lt_of_lt_of_le hq1 hS.1)).trans (hS.2.1 q hq1 hq2)⟩) hS.2.2 (Nat.le_of_ble_eq_true rfl) (Nat.le_of_ble_eq_true rfl)
set_option maxHeartbeats 4000000 in
set_option maxRecDepth 100000 in
theorem kJ5_append_3fe6f_8 (l : Launch) (dC : Nat → ClassId) (dI : Nat → Nat → Nat) (g : Nat → Nat) (sz : Nat) (h0 : Nat) (x0 : Int32) (h1 : Nat) (v0 : Value) (cc0 : ClassId) (f0 : Nat → Int32) (hf0 : sb_Fit f0) (ex0 : (97 : Int) ≤ x0.toInt ∧ x0.toInt ≤ (122 : Int)) : Met l yJ5_append_3fe6f wbJ5_append_3fe6f ({ frames := 1, cells := 0, slots := 0, locals := 22 }) (va_Pc [.ref h0, .int x0] (fun U => U.heap.size = sz ∧ va_P (dC, dI) vwCl [(h0, .inr (1, [.ref h1, .int 0, v0, .int 7])), (h1, .inl (cc0, 16, .inl f0))] U.heap ∧ va_K (dC, dI) vwCl [(cc0, .byte)] U ∧ va_D (fun _ => True) [(h0, .inr (1, [.ref h1, .int 0, v0, .int 7])), (h1, .inl (cc0, 16, .inl f0))] ∧ ns_F g (va_A [(h0, .inr (1, [.ref h1, .int 0, v0, .int 7])), (h1, .inl (cc0, 16, .inl f0))] sz) U U.heap)) (va_Qr (fun _ : Unit => True) (fun _ r t => r = h0 ∧ va_P (dC, dI) vwCl [(h1, .inl (cc0, 16, .inl (upd (f0) 7 (vp_nar .byte x0.toInt8.toInt32)))), (h0, .inr (1, [.ref h1, .int 0, v0, .int 8]))] t.heap ∧ va_K (dC, dI) vwCl [(cc0, .byte)] t ∧ va_D (va_A [(h0, .inr (1, [.ref h1, .int 0, v0, .int 7])), (h1, .inl (cc0, 16, .inl f0))] sz) [(h1, .inl (cc0, 16, .inl (upd (f0) 7 (vp_nar .byte x0.toInt8.toInt32)))), (h0, .inr (1, [.ref h1, .int 0, v0, .int 8]))]) (va_A [(h0, .inr (1, [.ref h1, .int 0, v0, .int 7])), (h1, .inl (cc0, 16, .inl f0))] sz)) 0 0 (va_A [(h0, .inr (1, [.ref h1, .int 0, v0, .int 7])), (h1, .inl (cc0, 16, .inl f0))] sz) := by
  refine Met.ofW (cc := cJ5_append_3fe6f) (maxL := 2) (ret := (some (.object "java/lang/AbstractStringBuilder"))) (by decide) rfl ?_
  intro p e s m args below meth c s₁ B hml hv
  obtain ⟨rfl, hsz, hP, hK, hD0, hF⟩ := hv
  have hx := B.exec
  have hb := B.bytes
  have hr := B.returns
  have hts := atoms_spec (ws := wbJ5_append_3fe6f) B.pre
  have hta : ∀ w ∈ wsALL, w.before _ s = true := fun w h => hts w (List.mem_cons_of_mem _ h)
  have hown : s.vm.findClass RJ5 = some m.cls := findClass_of_methodNamed B.named
  have hlocks := B.notSynchronized
  subst hsz
  have hD := hD0.self (sz := s.heap.size)
  generalize hAe : va_A [(h0, .inr (1, [.ref h1, .int 0, v0, .int 7])), (h1, .inl (cc0, 16, .inl f0))] s.heap.size = A at hD hF ⊢
  have hA : ∀ q : Nat, s.heap.size ≤ q → A q := fun q h => by rw [← hAe]; exact Or.inr h
  have hS : va_S A s.heap s.heap [] := va_S.rf
  have hP : va_P (dC, dI) vwCl [(h0, .inr (1, [.ref h1, .int 0, v0, .int 7])), (h1, .inl (cc0, 16, .inl f0))] s.heap := hP
  have hl := lv_entry ([.ref h0, .int x0]) (n := 2) (Nat.le_of_ble_eq_true rfl)
  rw [lg_entry_eq]
  generalize (lg_sl ([.ref h0, .int x0]) ++ List.replicate (2 - (lg_sl ([.ref h0, .int x0])).length) Slot.unset).toArray = ls at hl ⊢
  have hl : lv_has ls 2 [(0, .ref h0), (1, .int x0)] := hl
  refine lv_aload_n hx hb dJ5_append_3fe6f_0 rfl (lv_at hl 0 rfl) ?_
  refine lv_aload_n hx hb dJ5_append_3fe6f_1 rfl (lv_at hl 0 rfl) ?_
  refine va_get (D := (dC, dI)) (ci := 1) (v := .int 7) (C := RJ4) (T := TJ4) (N := 4) hx hb hta naJ4 hown hK hP 0 rfl rfl 3 (by decide) (hta _ wm290) (fun _ h9 => h9) rfl dJ5_append_3fe6f_2 ?_
  refine lv_iconst (v := 1) hx hb dJ5_append_3fe6f_5 (by decide) ?_
  refine lv_iadd hx hb dJ5_append_3fe6f_6 ?_
  refine lv_topi (fun y1 ey1 => ?_)
  obtain rfl : y1 = 8 := ey1.trans (by decide)
  have hPc := hP.sub (ws' := [(h0, .inr (1, [.ref h1, .int 0, v0, .int 7])), (h1, .inl (cc0, 16, .inl f0))]) [0, 1] rfl
  have hDc := hD.sub (ws' := [(h0, .inr (1, [.ref h1, .int 0, v0, .int 7])), (h1, .inl (cc0, 16, .inl f0))]) [0, 1] (by decide) rfl
  have hKc := hK.sub (tys' := [(cc0, .byte)]) [0] rfl
  have hFc := va_free (wc := [(h0, .inr (1, [.ref h1, .int 0, v0, .int 7])), (h1, .inl (cc0, 16, .inl f0))]) hD hS hA [0, 1] rfl
  refine va_callv (va_runU (As := [.int 8]) (rest := []) ⟨hx, hb, hml, hown, hts⟩ (kJ5_ensureCapacityInternal_d00df_8 l dC dI g s.heap.size h0 h1 v0 (.int 7) cc0 f0 hf0 ) (va_cwU 1 hts (ns_gp (List.forall_mem_cons.mpr ⟨wm294, (List.forall_mem_cons.mpr ⟨wm295, (List.forall_mem_cons.mpr ⟨wm296, (List.forall_mem_cons.mpr ⟨wm297, (List.forall_mem_cons.mpr ⟨wm144, (fun _ h9 => nomatch h9)⟩)⟩)⟩)⟩)⟩) wm291) rfl rfl rfl rfl (by decide +kernel) ⟨Nat.le_of_ble_eq_true rfl, Nat.le_of_ble_eq_true rfl⟩) ⟨fun a U gg mk q => by obtain ⟨q0, q1, qP, qK, qD, qF⟩ := q; exact ⟨q0, q1, qP, va_K.moved (u := U) (U := U.calling gg mk a) (Vm.Alike.refl U.vm) qK, qD, ns_same qF⟩, va_recv hK hP (ci := 1) (q0 := 0) rfl rfl, fun U hU hW => ⟨rfl, by rw [hU], by rw [hU]; exact hPc, va_K.moved hW.alike hKc, hDc.weaken (fun _ _ _ _ => trivial), ns_call hF hS hFc hU hW⟩⟩ rfl rfl hl.1 rfl (lv_room (Nat.le_of_ble_eq_true rfl)) dJ5_append_3fe6f_7 ⟨Nat.le_of_ble_eq_true rfl, Nat.le_of_ble_eq_true rfl⟩) hS (fun q _ h => hFc q h) hFc (fun u t H1 locs ht hvm hw hB hz1 hk1 hS => ?_)
  obtain ⟨hP1, hK1, hD1⟩ := hB
  rw [ht] at hP1
  have hK1 := va_K.moved hvm.symm hK1
  obtain ⟨hP, hD⟩ := va_join (wr := []) (w1 := [(h0, .inr (1, [.ref h1, .int 0, v0, .int 7])), (h1, .inl (cc0, 16, .inl f0))]) hP hD [0, 1] [] rfl rfl (by decide) (by decide) hk1 hFc hP1 hD1
  have hK := (hK.sub (tys' := []) [] rfl).app hK1
  generalize H1 = H at hP hS ⊢
  have hP : va_P (dC, dI) vwCl [(h0, .inr (1, [.ref h1, .int 0, v0, .int 7])), (h1, .inl (cc0, 16, .inl f0))] H := hP
  have hD : va_D A [(h0, .inr (1, [.ref h1, .int 0, v0, .int 7])), (h1, .inl (cc0, 16, .inl f0))] := hD
  have hK : va_K (dC, dI) vwCl [(cc0, .byte)] s := hK
  refine W.widen (k := 0) (n := 0) (Nat.le_of_ble_eq_true rfl) (Nat.le_of_ble_eq_true rfl) ?_
  refine lv_aload_n hx hb dJ5_append_3fe6f_10 rfl (lv_at hl 0 rfl) ?_
  have hPc := hP.sub (ws' := [(h0, .inr (1, [.ref h1, .int 0, v0, .int 7]))]) [0] rfl
  have hDc := hD.sub (ws' := [(h0, .inr (1, [.ref h1, .int 0, v0, .int 7]))]) [0] (by decide) rfl
  have hKc := hK.sub (tys' := []) [] rfl
  have hFc := va_free (wc := [(h0, .inr (1, [.ref h1, .int 0, v0, .int 7]))]) hD hS hA [0] rfl
  refine va_calli (va_runU (As := []) (rest := []) ⟨hx, hb, hml, hown, hts⟩ (kJ5_isLatin1_aae02 l dC dI g H.size h0 (.ref h1) v0 (.int 7) ) (va_cwU 0 hts (ns_gp (List.forall_mem_cons.mpr ⟨wm298, (List.forall_mem_cons.mpr ⟨wm299, (List.forall_mem_cons.mpr ⟨wm300, (List.forall_mem_cons.mpr ⟨wm301, (List.forall_mem_cons.mpr ⟨wm144, (fun _ h9 => nomatch h9)⟩)⟩)⟩)⟩)⟩) wm292) rfl rfl rfl rfl (by decide +kernel) ⟨Nat.le_of_ble_eq_true rfl, Nat.le_of_ble_eq_true rfl⟩) ⟨fun a U gg mk q => by obtain ⟨q0, q1, qP, qK, qD, qF⟩ := q; exact ⟨q0, q1, qP, va_K.moved (u := U) (U := U.calling gg mk a) (Vm.Alike.refl U.vm) qK, qD, ns_same qF⟩, va_recv hK hP (ci := 1) (q0 := 0) rfl rfl, fun U hU hW => ⟨rfl, by rw [hU], by rw [hU]; exact hPc, va_K.moved hW.alike hKc, hDc.weaken (fun _ _ _ _ => trivial), ns_call hF hS hFc hU hW⟩⟩ rfl rfl hl.1 rfl (lv_room (Nat.le_of_ble_eq_true rfl)) dJ5_append_3fe6f_11 ⟨Nat.le_of_ble_eq_true rfl, Nat.le_of_ble_eq_true rfl⟩) hS (fun q _ h => hFc q h) hFc (fun r9 u t H1 locs ht hvm hw hB hz1 hk1 hS => ?_)
  obtain rfl := hw.symm
  obtain ⟨hP1, hK1, hD1⟩ := hB
  rw [ht] at hP1
  have hK1 := va_K.moved hvm.symm hK1
  obtain ⟨hP, hD⟩ := va_join (wr := [(h1, .inl (cc0, 16, .inl f0))]) (w1 := [(h0, .inr (1, [.ref h1, .int 0, v0, .int 7]))]) hP hD [0] [1] rfl rfl (by decide) (by decide) hk1 hFc hP1 hD1
  have hK := (hK.sub (tys' := [(cc0, .byte)]) [0] rfl).app hK1
  generalize H1 = H at hP hS ⊢
  have hP : va_P (dC, dI) vwCl [(h1, .inl (cc0, 16, .inl f0)), (h0, .inr (1, [.ref h1, .int 0, v0, .int 7]))] H := hP
  have hD : va_D A [(h1, .inl (cc0, 16, .inl f0)), (h0, .inr (1, [.ref h1, .int 0, v0, .int 7]))] := hD
  have hK : va_K (dC, dI) vwCl [(cc0, .byte)] s := hK
  refine W.widen (k := 0) (n := 0) (Nat.le_of_ble_eq_true rfl) (Nat.le_of_ble_eq_true rfl) ?_
  refine lv_if_eq (tgt := 45) hx hb dJ5_append_3fe6f_14 (by decide) (fun c2 => absurd c2 (by decide)) (fun c2 => ?_)
  refine lv_iload_n hx hb dJ5_append_3fe6f_17 rfl (lv_at hl 1 rfl) ?_
  have hPc := hP.sub (ws' := []) [] rfl
  have hDc := hD.sub (ws' := []) [] (by decide) rfl
  have hKc := hK.sub (tys' := []) [] rfl
  have hFc := va_free (wc := []) hD hS hA [] rfl
  refine va_calli (va_runS (As := [.int x0]) (rest := []) ⟨hx, hb, hml, hown, hts⟩ (kJ1_canEncode_fc78d l dC dI g H.size x0 ⟨by omega, by omega⟩) (va_cwS 1 hts (ns_gp (List.forall_mem_cons.mpr ⟨wm303, (List.forall_mem_cons.mpr ⟨wm304, (List.forall_mem_cons.mpr ⟨wm302, (fun _ h9 => nomatch h9)⟩)⟩)⟩) wm293) rfl rfl rfl (by decide +kernel) ⟨Nat.le_of_ble_eq_true rfl, Nat.le_of_ble_eq_true rfl⟩) ⟨fun a U gg mk q => by obtain ⟨q0, q1, qP, qK, qD, qF⟩ := q; exact ⟨q0, q1, qP, va_K.moved (u := U) (U := U.calling gg mk a) (Vm.Alike.refl U.vm) qK, qD, ns_same qF⟩, fun U hU hW => ⟨rfl, by rw [hU], by rw [hU]; exact hPc, va_K.moved hW.alike hKc, hDc.weaken (fun _ _ _ _ => trivial), ns_call hF hS hFc hU hW⟩⟩ rfl rfl hl.1 rfl (lv_room (Nat.le_of_ble_eq_true rfl)) dJ5_append_3fe6f_18 ⟨Nat.le_of_ble_eq_true rfl, Nat.le_of_ble_eq_true rfl⟩) hS (fun q _ h => hFc q h) hFc (fun r9 u t H1 locs ht hvm hw hB hz1 hk1 hS => ?_)
  obtain rfl := hw.symm
  obtain ⟨hP1, hK1, hD1⟩ := hB
  rw [ht] at hP1
  have hK1 := va_K.moved hvm.symm hK1
  obtain ⟨hP, hD⟩ := va_join (wr := [(h1, .inl (cc0, 16, .inl f0)), (h0, .inr (1, [.ref h1, .int 0, v0, .int 7]))]) (w1 := []) hP hD [] [0, 1] rfl rfl (by decide) (by decide) hk1 hFc hP1 hD1
  have hK := (hK.sub (tys' := [(cc0, .byte)]) [0] rfl).app hK1
  generalize H1 = H at hP hS ⊢
  have hP : va_P (dC, dI) vwCl [(h1, .inl (cc0, 16, .inl f0)), (h0, .inr (1, [.ref h1, .int 0, v0, .int 7]))] H := hP
  have hD : va_D A [(h1, .inl (cc0, 16, .inl f0)), (h0, .inr (1, [.ref h1, .int 0, v0, .int 7]))] := hD
  have hK : va_K (dC, dI) vwCl [(cc0, .byte)] s := hK
  refine W.widen (k := 0) (n := 0) (Nat.le_of_ble_eq_true rfl) (Nat.le_of_ble_eq_true rfl) ?_
  refine lv_if_eq (tgt := 45) hx hb dJ5_append_3fe6f_21 (by decide) (fun c3 => absurd c3 (by decide)) (fun c3 => ?_)
  refine lv_aload_n hx hb dJ5_append_3fe6f_24 rfl (lv_at hl 0 rfl) ?_
  refine va_get (D := (dC, dI)) (ci := 1) (v := .ref h1) (C := RJ4) (T := TJ4) (N := 4) hx hb hta naJ4 hown hK hP 1 rfl rfl 0 (by decide) (hta _ wm141) (fun _ h9 => h9) rfl dJ5_append_3fe6f_25 ?_
  refine lv_aload_n hx hb dJ5_append_3fe6f_28 rfl (lv_at hl 0 rfl) ?_
  refine lv_dup hx hb dJ5_append_3fe6f_29 rfl ?_
  refine va_get (D := (dC, dI)) (ci := 1) (v := .int 7) (C := RJ4) (T := TJ4) (N := 4) hx hb hta naJ4 hown hK hP 1 rfl rfl 3 (by decide) (hta _ wm290) (fun _ h9 => h9) rfl dJ5_append_3fe6f_30 ?_
  refine lv_dup_x1 hx hb dJ5_append_3fe6f_33 rfl rfl ?_
  refine lv_iconst (v := 1) hx hb dJ5_append_3fe6f_34 (by decide) ?_
  refine lv_iadd hx hb dJ5_append_3fe6f_35 ?_
  refine lv_topi (fun y4 ey4 => ?_)
  obtain rfl : y4 = 8 := ey4.trans (by decide)
  refine va_put (D := (dC, dI)) (ci := 1) (v := .int 8) (ty := .int) (C := RJ4) (T := TJ4) (N := 4) hx hb hta naJ4 tyJ4 tyJ4_ok nmJ4 hown hK hP hD hS 1 rfl rfl 3 (by decide) (hta _ wm290) (fun _ h9 => h9) rfl (by decide +kernel) rfl rfl (Nat.le_of_ble_eq_true rfl) dJ5_append_3fe6f_36 (fun H locs hP hD hS => ?_)
  have hP : va_P (dC, dI) vwCl [(h1, .inl (cc0, 16, .inl f0)), (h0, .inr (1, [.ref h1, .int 0, v0, .int 8]))] H := hP
  have hD : va_D A [(h1, .inl (cc0, 16, .inl f0)), (h0, .inr (1, [.ref h1, .int 0, v0, .int 8]))] := hD
  refine lv_iload_n hx hb dJ5_append_3fe6f_39 rfl (lv_at hl 1 rfl) ?_
  refine lv_i2b (v := x0.toInt8.toInt32) hx hb dJ5_append_3fe6f_40 rfl ?_
  refine va_bast hx hb hK hP hD hS 0 0 rfl rfl (vp_in_nI (n := 7) (by decide) (by decide)) dJ5_append_3fe6f_41 (fun H locs hP hD hS => ?_)
  have hP : va_P (dC, dI) vwCl [(h1, .inl (cc0, 16, .inl (upd (f0) 7 (vp_nar .byte x0.toInt8.toInt32)))), (h0, .inr (1, [.ref h1, .int 0, v0, .int 8]))] H := hP
  have hD : va_D A [(h1, .inl (cc0, 16, .inl (upd (f0) 7 (vp_nar .byte x0.toInt8.toInt32)))), (h0, .inr (1, [.ref h1, .int 0, v0, .int 8]))] := hD
  refine lv_goto (tgt := 75) hx hb dJ5_append_3fe6f_42 (by decide) ?_
  refine lv_aload_n hx hb dJ5_append_3fe6f_75 rfl (lv_at hl 0 rfl) ?_
  have hP9 := hP.sub (ws' := [(h1, .inl (cc0, 16, .inl (upd (f0) 7 (vp_nar .byte x0.toInt8.toInt32)))), (h0, .inr (1, [.ref h1, .int 0, v0, .int 8]))]) [0, 1] rfl
  have hD9 := hD.sub (ws' := [(h1, .inl (cc0, 16, .inl (upd (f0) 7 (vp_nar .byte x0.toInt8.toInt32)))), (h0, .inr (1, [.ref h1, .int 0, v0, .int 8]))]) [0, 1] (by decide) rfl
  have hK9 := hK.sub (tys' := [(cc0, .byte)]) [0] rfl
  refine W.widen (k := 0) (n := 0) (Nat.le_of_ble_eq_true rfl) (Nat.le_of_ble_eq_true rfl) ?_
  exact W.aret (v := .ref h0) hx hb hr (by first | exact Or.inl ⟨_, rfl⟩ | exact Or.inr ⟨_, rfl⟩) (Or.inr ⟨_, rfl⟩) (fun t ht hW => ⟨⟨(), _, rfl, trivial, rfl, by rw [ht]; exact hP9, va_K.moved hW.alike hK9, hD9⟩, hS.F ht⟩) hS.2.2 dJ5_append_3fe6f_76
set_option maxHeartbeats 4000000 in
set_option maxRecDepth 100000 in
theorem kJ7_copyOfRangeByte_39247_14 (l : Launch) (dC : Nat → ClassId) (dI : Nat → Nat → Nat) (g : Nat → Nat) (sz : Nat) (h0 : Nat) (cc0 : ClassId) (f0 : Nat → Int32) (hf0 : sb_Fit f0) : Met l yJ7_copyOfRangeByte_39247 wbJ7_copyOfRangeByte_39247 ({ frames := 1, cells := 1, slots := 0, locals := 40 }) (va_Pc [.ref h0, .int 0, .int 0] (fun U => U.heap.size = sz ∧ va_P (dC, dI) vwCl [(h0, .inl (cc0, 16, .inl f0))] U.heap ∧ va_K (dC, dI) vwCl [(cc0, .byte)] U ∧ va_D (fun _ => True) [(h0, .inl (cc0, 16, .inl f0))] ∧ ns_F g (va_A [(h0, .inl (cc0, 16, .inl f0))] sz) U U.heap)) (va_Qr (fun _ : Unit => True) (fun _ r t => ∃ k0 : Nat, ∃ kc1 : ClassId, r = k0 ∧ va_P (dC, dI) vwCl [(h0, .inl (cc0, 16, .inl f0)), (k0, .inl (kc1, 0, .inl (va_cpy (f0) (fun _ => 0) 0 0 0)))] t.heap ∧ va_K (dC, dI) vwCl [(cc0, .byte), (kc1, .byte)] t ∧ va_D (va_A [(h0, .inl (cc0, 16, .inl f0))] sz) [(h0, .inl (cc0, 16, .inl f0)), (k0, .inl (kc1, 0, .inl (va_cpy (f0) (fun _ => 0) 0 0 0)))]) (va_A [(h0, .inl (cc0, 16, .inl f0))] sz)) 1 0 (va_A [(h0, .inl (cc0, 16, .inl f0))] sz) := by
  refine Met.ofW (cc := cJ7_copyOfRangeByte_39247) (maxL := 5) (ret := (some (.array .byte))) (by decide) rfl ?_
  intro p e s m args below meth c s₁ B hml hv
  obtain ⟨rfl, hsz, hP, hK, hD0, hF⟩ := hv
  have hx := B.exec
  have hb := B.bytes
  have hr := B.returns
  have hts := atoms_spec (ws := wbJ7_copyOfRangeByte_39247) B.pre
  have hta : ∀ w ∈ wsALL, w.before _ s = true := fun w h => hts w (List.mem_cons_of_mem _ h)
  have hown : s.vm.findClass RJ7 = some m.cls := findClass_of_methodNamed B.named
  have hlocks := B.notSynchronized
  subst hsz
  have hD := hD0.self (sz := s.heap.size)
  generalize hAe : va_A [(h0, .inl (cc0, 16, .inl f0))] s.heap.size = A at hD hF ⊢
  have hA : ∀ q : Nat, s.heap.size ≤ q → A q := fun q h => by rw [← hAe]; exact Or.inr h
  have hS : va_S A s.heap s.heap [] := va_S.rf
  have hP : va_P (dC, dI) vwCl [(h0, .inl (cc0, 16, .inl f0))] s.heap := hP
  have hl := lv_entry ([.ref h0, .int 0, .int 0]) (n := 5) (Nat.le_of_ble_eq_true rfl)
  rw [lg_entry_eq]
  generalize (lg_sl ([.ref h0, .int 0, .int 0]) ++ List.replicate (5 - (lg_sl ([.ref h0, .int 0, .int 0])).length) Slot.unset).toArray = ls at hl ⊢
  have hl : lv_has ls 5 [(0, .ref h0), (1, .int 0), (2, .int 0)] := hl
  refine lv_iload_n hx hb dJ7_copyOfRangeByte_39247_0 rfl (lv_at hl 1 rfl) ?_
  refine lv_iload_n hx hb dJ7_copyOfRangeByte_39247_1 rfl (lv_at hl 2 rfl) ?_
  have hPc := hP.sub (ws' := []) [] rfl
  have hDc := hD.sub (ws' := []) [] (by decide) rfl
  have hKc := hK.sub (tys' := []) [] rfl
  have hFc := va_free (wc := []) hD hS hA [] rfl
  refine va_callv (va_runS (As := [.int 0, .int 0]) (rest := []) ⟨hx, hb, hml, hown, hts⟩ (kJ7_checkLength_df160_10 l dC dI g s.heap.size  ) (va_cwS 2 hts (ns_gp (List.forall_mem_cons.mpr ⟨wm335, (List.forall_mem_cons.mpr ⟨wm336, (List.forall_mem_cons.mpr ⟨wm334, (fun _ h9 => nomatch h9)⟩)⟩)⟩) wm325) rfl rfl rfl (by decide +kernel) ⟨Nat.le_of_ble_eq_true rfl, Nat.le_of_ble_eq_true rfl⟩) ⟨fun a U gg mk q => by obtain ⟨q0, q1, qP, qK, qD, qF⟩ := q; exact ⟨q0, q1, qP, va_K.moved (u := U) (U := U.calling gg mk a) (Vm.Alike.refl U.vm) qK, qD, ns_same qF⟩, fun U hU hW => ⟨rfl, by rw [hU], by rw [hU]; exact hPc, va_K.moved hW.alike hKc, hDc.weaken (fun _ _ _ _ => trivial), ns_call hF hS hFc hU hW⟩⟩ rfl rfl hl.1 rfl (lv_room (Nat.le_of_ble_eq_true rfl)) dJ7_copyOfRangeByte_39247_2 ⟨Nat.le_of_ble_eq_true rfl, Nat.le_of_ble_eq_true rfl⟩) hS (fun q _ h => hFc q h) hFc (fun u t H1 locs ht hvm hw hB hz1 hk1 hS => ?_)
  obtain ⟨hP1, hK1, hD1⟩ := hB
  rw [ht] at hP1
  have hK1 := va_K.moved hvm.symm hK1
  obtain ⟨hP, hD⟩ := va_join (wr := [(h0, .inl (cc0, 16, .inl f0))]) (w1 := []) hP hD [] [0] rfl rfl (by decide) (by decide) hk1 hFc hP1 hD1
  have hK := (hK.sub (tys' := [(cc0, .byte)]) [0] rfl).app hK1
  generalize H1 = H at hP hS ⊢
  have hP : va_P (dC, dI) vwCl [(h0, .inl (cc0, 16, .inl f0))] H := hP
  have hD : va_D A [(h0, .inl (cc0, 16, .inl f0))] := hD
  have hK : va_K (dC, dI) vwCl [(cc0, .byte)] s := hK
  refine W.widen (k := 0) (n := 0) (Nat.le_of_ble_eq_true rfl) (Nat.le_of_ble_eq_true rfl) ?_
  refine lv_iload_n hx hb dJ7_copyOfRangeByte_39247_5 rfl (lv_at hl 2 rfl) ?_
  refine lv_iload_n hx hb dJ7_copyOfRangeByte_39247_6 rfl (lv_at hl 1 rfl) ?_
  refine lv_isub hx hb dJ7_copyOfRangeByte_39247_7 ?_
  refine lv_topi (fun y1 ey1 => ?_)
  obtain rfl : y1 = 0 := ey1.trans (by decide)
  refine lv_istore_n (lv' := [(3, .int 0), (0, .ref h0), (1, .int 0), (2, .int 0)]) hx hb dJ7_copyOfRangeByte_39247_8 rfl hl (by decide) rfl (fun ls hl => ?_)
  refine lv_iload_n hx hb dJ7_copyOfRangeByte_39247_9 rfl (lv_at hl 0 rfl) ?_
  refine va_newa (atype := .byte) hx hb (hta _ wm140) rfl hK hP hD hS hA (N' := 0) (a0 := (0, .inl (fun _ => 0))) (fun _ => rfl) (by decide) (by decide) (Nat.le_of_ble_eq_true rfl) (Nat.le_of_ble_eq_true rfl) (Nat.le_of_ble_eq_true rfl) dJ7_copyOfRangeByte_39247_10 (fun q2 cyq2 H hK hP hD hS => ?_)
  have hP : va_P (dC, dI) vwCl [(h0, .inl (cc0, 16, .inl f0)), (q2, .inl (cyq2, 0, .inl (fun _ => 0)))] H := hP
  have hD : va_D A [(h0, .inl (cc0, 16, .inl f0)), (q2, .inl (cyq2, 0, .inl (fun _ => 0)))] := hD
  have hK : va_K (dC, dI) vwCl [(cc0, .byte), (cyq2, .byte)] s := hK
  refine W.widen (k := 1) (n := 0) (Nat.le_of_ble_eq_true rfl) (Nat.le_of_ble_eq_true rfl) ?_
  refine lv_astore (lv' := [(4, .ref q2), (3, .int 0), (0, .ref h0), (1, .int 0), (2, .int 0)]) hx hb dJ7_copyOfRangeByte_39247_12 hl (by decide) rfl (fun ls hl => ?_)
  refine lv_aload_n hx hb dJ7_copyOfRangeByte_39247_14 rfl (lv_at hl 2 rfl) ?_
  refine lv_iload_n hx hb dJ7_copyOfRangeByte_39247_15 rfl (lv_at hl 3 rfl) ?_
  refine lv_aload hx hb dJ7_copyOfRangeByte_39247_16 (lv_at hl 0 rfl) ?_
  refine lv_iconst (v := 0) hx hb dJ7_copyOfRangeByte_39247_18 (by decide) ?_
  refine lv_aload_n hx hb dJ7_copyOfRangeByte_39247_19 rfl (lv_at hl 2 rfl) ?_
  refine va_alen (v := 16) hx hb hK hP 0 0 rfl rfl (show Int32.ofNat 16 = 16 by decide) dJ7_copyOfRangeByte_39247_20 ?_
  refine lv_iload_n hx hb dJ7_copyOfRangeByte_39247_21 rfl (lv_at hl 3 rfl) ?_
  refine lv_isub hx hb dJ7_copyOfRangeByte_39247_22 ?_
  refine lv_topi (fun y3 ey3 => ?_)
  obtain rfl : y3 = 16 := ey3.trans (by decide)
  refine lv_iload_n hx hb dJ7_copyOfRangeByte_39247_23 rfl (lv_at hl 1 rfl) ?_
  refine va_mmin hx hb (by rw [hml]; exact hl.1.symm) hown (hta _ wm326) (hta _ wm327) (hta _ wm328) (hta _ wm329) (Nat.le_of_ble_eq_true rfl) (Nat.le_of_ble_eq_true rfl) (Nat.le_of_ble_eq_true rfl) (Nat.le_of_ble_eq_true rfl) dJ7_copyOfRangeByte_39247_24 ?_
  refine lv_topi (fun y4 ey4 => ?_)
  obtain rfl : y4 = 0 := ey4.trans (by decide)
  refine va_copyi hx hb (by rw [hml]; exact hl.1.symm) hown (hta _ wm330) (hta _ wm331) (hta _ wm332) (hta _ wm333) hK hP hD hS 0 1 0 1 rfl rfl rfl rfl rfl (by decide) (by decide) (by decide) (Nat.le_of_ble_eq_true rfl) (Nat.le_of_ble_eq_true rfl) (fun i h => absurd h (Nat.not_lt_zero _)) (Nat.le_of_ble_eq_true rfl) (Nat.le_of_ble_eq_true rfl) dJ7_copyOfRangeByte_39247_27 (fun H locs hP hD hS => ?_)
  have hP : va_P (dC, dI) vwCl [(h0, .inl (cc0, 16, .inl f0)), (q2, .inl (cyq2, 0, .inl (va_cpy (f0) (fun _ => 0) 0 0 0)))] H := hP
  have hD : va_D A [(h0, .inl (cc0, 16, .inl f0)), (q2, .inl (cyq2, 0, .inl (va_cpy (f0) (fun _ => 0) 0 0 0)))] := hD
  refine lv_aload hx hb dJ7_copyOfRangeByte_39247_30 (lv_at hl 0 rfl) ?_
  have hP9 := hP.sub (ws' := [(h0, .inl (cc0, 16, .inl f0)), (q2, .inl (cyq2, 0, .inl (va_cpy (f0) (fun _ => 0) 0 0 0)))]) [0, 1] rfl
  have hD9 := hD.sub (ws' := [(h0, .inl (cc0, 16, .inl f0)), (q2, .inl (cyq2, 0, .inl (va_cpy (f0) (fun _ => 0) 0 0 0)))]) [0, 1] (by decide) rfl
  have hK9 := hK.sub (tys' := [(cc0, .byte), (cyq2, .byte)]) [0, 1] rfl
  refine W.widen (k := 1) (n := 0) (Nat.le_of_ble_eq_true rfl) (Nat.le_of_ble_eq_true rfl) ?_
  exact W.aret (v := .ref q2) hx hb hr (by first | exact Or.inl ⟨_, rfl⟩ | exact Or.inr ⟨_, rfl⟩) (Or.inr ⟨_, rfl⟩) (fun t ht hW => ⟨⟨(), _, rfl, trivial, q2, cyq2, rfl, by rw [ht]; exact hP9, va_K.moved hW.alike hK9, hD9⟩, hS.F ht⟩) hS.2.2 dJ7_copyOfRangeByte_39247_32
set_option maxHeartbeats 4000000 in
set_option maxRecDepth 100000 in
theorem kJ7_copyOfRangeByte_39247 (l : Launch) (dC : Nat → ClassId) (dI : Nat → Nat → Nat) (g : Nat → Nat) (sz : Nat) (h0 : Nat) (cc0 : ClassId) (f0 : Nat → Int32) (hf0 : sb_Fit f0) : Met l yJ7_copyOfRangeByte_39247 wbJ7_copyOfRangeByte_39247 ({ frames := 1, cells := 1, slots := 1, locals := 40 }) (va_Pc [.ref h0, .int 0, .int 1] (fun U => U.heap.size = sz ∧ va_P (dC, dI) vwCl [(h0, .inl (cc0, 16, .inl f0))] U.heap ∧ va_K (dC, dI) vwCl [(cc0, .byte)] U ∧ va_D (fun _ => True) [(h0, .inl (cc0, 16, .inl f0))] ∧ ns_F g (va_A [(h0, .inl (cc0, 16, .inl f0))] sz) U U.heap)) (va_Qr (fun _ : Unit => True) (fun _ r t => ∃ k0 : Nat, ∃ kc1 : ClassId, r = k0 ∧ va_P (dC, dI) vwCl [(h0, .inl (cc0, 16, .inl f0)), (k0, .inl (kc1, 1, .inl (va_cpy (f0) (fun _ => 0) 0 0 1)))] t.heap ∧ va_K (dC, dI) vwCl [(cc0, .byte), (kc1, .byte)] t ∧ va_D (va_A [(h0, .inl (cc0, 16, .inl f0))] sz) [(h0, .inl (cc0, 16, .inl f0)), (k0, .inl (kc1, 1, .inl (va_cpy (f0) (fun _ => 0) 0 0 1)))]) (va_A [(h0, .inl (cc0, 16, .inl f0))] sz)) 1 1 (va_A [(h0, .inl (cc0, 16, .inl f0))] sz) := by
  refine Met.ofW (cc := cJ7_copyOfRangeByte_39247) (maxL := 5) (ret := (some (.array .byte))) (by decide) rfl ?_
  intro p e s m args below meth c s₁ B hml hv
  obtain ⟨rfl, hsz, hP, hK, hD0, hF⟩ := hv
  have hx := B.exec
  have hb := B.bytes
  have hr := B.returns
  have hts := atoms_spec (ws := wbJ7_copyOfRangeByte_39247) B.pre
  have hta : ∀ w ∈ wsALL, w.before _ s = true := fun w h => hts w (List.mem_cons_of_mem _ h)
  have hown : s.vm.findClass RJ7 = some m.cls := findClass_of_methodNamed B.named
  have hlocks := B.notSynchronized
  subst hsz
  have hD := hD0.self (sz := s.heap.size)
  generalize hAe : va_A [(h0, .inl (cc0, 16, .inl f0))] s.heap.size = A at hD hF ⊢
  have hA : ∀ q : Nat, s.heap.size ≤ q → A q := fun q h => by rw [← hAe]; exact Or.inr h
  have hS : va_S A s.heap s.heap [] := va_S.rf
  have hP : va_P (dC, dI) vwCl [(h0, .inl (cc0, 16, .inl f0))] s.heap := hP
  have hl := lv_entry ([.ref h0, .int 0, .int 1]) (n := 5) (Nat.le_of_ble_eq_true rfl)
  rw [lg_entry_eq]
  generalize (lg_sl ([.ref h0, .int 0, .int 1]) ++ List.replicate (5 - (lg_sl ([.ref h0, .int 0, .int 1])).length) Slot.unset).toArray = ls at hl ⊢
  have hl : lv_has ls 5 [(0, .ref h0), (1, .int 0), (2, .int 1)] := hl
  refine lv_iload_n hx hb dJ7_copyOfRangeByte_39247_0 rfl (lv_at hl 1 rfl) ?_
  refine lv_iload_n hx hb dJ7_copyOfRangeByte_39247_1 rfl (lv_at hl 2 rfl) ?_
  have hPc := hP.sub (ws' := []) [] rfl
  have hDc := hD.sub (ws' := []) [] (by decide) rfl
  have hKc := hK.sub (tys' := []) [] rfl
  have hFc := va_free (wc := []) hD hS hA [] rfl
  refine va_callv (va_runS (As := [.int 0, .int 1]) (rest := []) ⟨hx, hb, hml, hown, hts⟩ (kJ7_checkLength_df160 l dC dI g s.heap.size  ) (va_cwS 2 hts (ns_gp (List.forall_mem_cons.mpr ⟨wm335, (List.forall_mem_cons.mpr ⟨wm336, (List.forall_mem_cons.mpr ⟨wm334, (fun _ h9 => nomatch h9)⟩)⟩)⟩) wm325) rfl rfl rfl (by decide +kernel) ⟨Nat.le_of_ble_eq_true rfl, Nat.le_of_ble_eq_true rfl⟩) ⟨fun a U gg mk q => by obtain ⟨q0, q1, qP, qK, qD, qF⟩ := q; exact ⟨q0, q1, qP, va_K.moved (u := U) (U := U.calling gg mk a) (Vm.Alike.refl U.vm) qK, qD, ns_same qF⟩, fun U hU hW => ⟨rfl, by rw [hU], by rw [hU]; exact hPc, va_K.moved hW.alike hKc, hDc.weaken (fun _ _ _ _ => trivial), ns_call hF hS hFc hU hW⟩⟩ rfl rfl hl.1 rfl (lv_room (Nat.le_of_ble_eq_true rfl)) dJ7_copyOfRangeByte_39247_2 ⟨Nat.le_of_ble_eq_true rfl, Nat.le_of_ble_eq_true rfl⟩) hS (fun q _ h => hFc q h) hFc (fun u t H1 locs ht hvm hw hB hz1 hk1 hS => ?_)
  obtain ⟨hP1, hK1, hD1⟩ := hB
  rw [ht] at hP1
  have hK1 := va_K.moved hvm.symm hK1
  obtain ⟨hP, hD⟩ := va_join (wr := [(h0, .inl (cc0, 16, .inl f0))]) (w1 := []) hP hD [] [0] rfl rfl (by decide) (by decide) hk1 hFc hP1 hD1
  have hK := (hK.sub (tys' := [(cc0, .byte)]) [0] rfl).app hK1
  generalize H1 = H at hP hS ⊢
  have hP : va_P (dC, dI) vwCl [(h0, .inl (cc0, 16, .inl f0))] H := hP
  have hD : va_D A [(h0, .inl (cc0, 16, .inl f0))] := hD
  have hK : va_K (dC, dI) vwCl [(cc0, .byte)] s := hK
  refine W.widen (k := 0) (n := 0) (Nat.le_of_ble_eq_true rfl) (Nat.le_of_ble_eq_true rfl) ?_
  refine lv_iload_n hx hb dJ7_copyOfRangeByte_39247_5 rfl (lv_at hl 2 rfl) ?_
  refine lv_iload_n hx hb dJ7_copyOfRangeByte_39247_6 rfl (lv_at hl 1 rfl) ?_
  refine lv_isub hx hb dJ7_copyOfRangeByte_39247_7 ?_
  refine lv_topi (fun y1 ey1 => ?_)
  obtain rfl : y1 = 1 := ey1.trans (by decide)
  refine lv_istore_n (lv' := [(3, .int 1), (0, .ref h0), (1, .int 0), (2, .int 1)]) hx hb dJ7_copyOfRangeByte_39247_8 rfl hl (by decide) rfl (fun ls hl => ?_)
  refine lv_iload_n hx hb dJ7_copyOfRangeByte_39247_9 rfl (lv_at hl 0 rfl) ?_
  refine va_newa (atype := .byte) hx hb (hta _ wm140) rfl hK hP hD hS hA (N' := 1) (a0 := (1, .inl (fun _ => 0))) (fun _ => rfl) (by decide) (by decide) (Nat.le_of_ble_eq_true rfl) (Nat.le_of_ble_eq_true rfl) (Nat.le_of_ble_eq_true rfl) dJ7_copyOfRangeByte_39247_10 (fun q2 cyq2 H hK hP hD hS => ?_)
  have hP : va_P (dC, dI) vwCl [(h0, .inl (cc0, 16, .inl f0)), (q2, .inl (cyq2, 1, .inl (fun _ => 0)))] H := hP
  have hD : va_D A [(h0, .inl (cc0, 16, .inl f0)), (q2, .inl (cyq2, 1, .inl (fun _ => 0)))] := hD
  have hK : va_K (dC, dI) vwCl [(cc0, .byte), (cyq2, .byte)] s := hK
  refine W.widen (k := 1) (n := 1) (Nat.le_of_ble_eq_true rfl) (Nat.le_of_ble_eq_true rfl) ?_
  refine lv_astore (lv' := [(4, .ref q2), (3, .int 1), (0, .ref h0), (1, .int 0), (2, .int 1)]) hx hb dJ7_copyOfRangeByte_39247_12 hl (by decide) rfl (fun ls hl => ?_)
  refine lv_aload_n hx hb dJ7_copyOfRangeByte_39247_14 rfl (lv_at hl 2 rfl) ?_
  refine lv_iload_n hx hb dJ7_copyOfRangeByte_39247_15 rfl (lv_at hl 3 rfl) ?_
  refine lv_aload hx hb dJ7_copyOfRangeByte_39247_16 (lv_at hl 0 rfl) ?_
  refine lv_iconst (v := 0) hx hb dJ7_copyOfRangeByte_39247_18 (by decide) ?_
  refine lv_aload_n hx hb dJ7_copyOfRangeByte_39247_19 rfl (lv_at hl 2 rfl) ?_
  refine va_alen (v := 16) hx hb hK hP 0 0 rfl rfl (show Int32.ofNat 16 = 16 by decide) dJ7_copyOfRangeByte_39247_20 ?_
  refine lv_iload_n hx hb dJ7_copyOfRangeByte_39247_21 rfl (lv_at hl 3 rfl) ?_
  refine lv_isub hx hb dJ7_copyOfRangeByte_39247_22 ?_
  refine lv_topi (fun y3 ey3 => ?_)
  obtain rfl : y3 = 16 := ey3.trans (by decide)
  refine lv_iload_n hx hb dJ7_copyOfRangeByte_39247_23 rfl (lv_at hl 1 rfl) ?_
  refine va_mmin hx hb (by rw [hml]; exact hl.1.symm) hown (hta _ wm326) (hta _ wm327) (hta _ wm328) (hta _ wm329) (Nat.le_of_ble_eq_true rfl) (Nat.le_of_ble_eq_true rfl) (Nat.le_of_ble_eq_true rfl) (Nat.le_of_ble_eq_true rfl) dJ7_copyOfRangeByte_39247_24 ?_
  refine lv_topi (fun y4 ey4 => ?_)
  obtain rfl : y4 = 1 := ey4.trans (by decide)
  refine va_copyi hx hb (by rw [hml]; exact hl.1.symm) hown (hta _ wm330) (hta _ wm331) (hta _ wm332) (hta _ wm333) hK hP hD hS 0 1 0 1 rfl rfl rfl rfl rfl (by decide) (by decide) (by decide) (Nat.le_of_ble_eq_true rfl) (Nat.le_of_ble_eq_true rfl) (fun i h => hf0 _) (Nat.le_of_ble_eq_true rfl) (Nat.le_of_ble_eq_true rfl) dJ7_copyOfRangeByte_39247_27 (fun H locs hP hD hS => ?_)
  have hP : va_P (dC, dI) vwCl [(h0, .inl (cc0, 16, .inl f0)), (q2, .inl (cyq2, 1, .inl (va_cpy (f0) (fun _ => 0) 0 0 1)))] H := hP
  have hD : va_D A [(h0, .inl (cc0, 16, .inl f0)), (q2, .inl (cyq2, 1, .inl (va_cpy (f0) (fun _ => 0) 0 0 1)))] := hD
  refine lv_aload hx hb dJ7_copyOfRangeByte_39247_30 (lv_at hl 0 rfl) ?_
  have hP9 := hP.sub (ws' := [(h0, .inl (cc0, 16, .inl f0)), (q2, .inl (cyq2, 1, .inl (va_cpy (f0) (fun _ => 0) 0 0 1)))]) [0, 1] rfl
  have hD9 := hD.sub (ws' := [(h0, .inl (cc0, 16, .inl f0)), (q2, .inl (cyq2, 1, .inl (va_cpy (f0) (fun _ => 0) 0 0 1)))]) [0, 1] (by decide) rfl
  have hK9 := hK.sub (tys' := [(cc0, .byte), (cyq2, .byte)]) [0, 1] rfl
  refine W.widen (k := 1) (n := 1) (Nat.le_of_ble_eq_true rfl) (Nat.le_of_ble_eq_true rfl) ?_
  exact W.aret (v := .ref q2) hx hb hr (by first | exact Or.inl ⟨_, rfl⟩ | exact Or.inr ⟨_, rfl⟩) (Or.inr ⟨_, rfl⟩) (fun t ht hW => ⟨⟨(), _, rfl, trivial, q2, cyq2, rfl, by rw [ht]; exact hP9, va_K.moved hW.alike hK9, hD9⟩, hS.F ht⟩) hS.2.2 dJ7_copyOfRangeByte_39247_32
set_option maxHeartbeats 4000000 in
set_option maxRecDepth 100000 in
theorem kX3_has (l : Launch) (dC : Nat → ClassId) (dI : Nat → Nat → Nat) (g : Nat → Nat) (sz : Nat) (h0 : Nat) (x0 : Int32) (h1 : Nat) (v0 : Value) (v1 : Value) (v2 : Value) (v3 : Value) (v4 : Value) (v5 : Value) (v6 : Value) (v7 : Value) (v8 : Value) : Met l yX3_has wbX3_has ({ frames := 1, cells := 0, slots := 0, locals := 20 }) (va_Pc [.ref h0, .int x0] (fun U => U.heap.size = sz ∧ va_P (dC, dI) vwCl [(h0, .inr (10, [.ref h1, v0, v1, v2, v3, v4, v5, v6, v7])), (h1, .inr (11, [v8, .int 0]))] U.heap ∧ va_K (dC, dI) vwCl [] U ∧ va_D (fun _ => True) [(h0, .inr (10, [.ref h1, v0, v1, v2, v3, v4, v5, v6, v7])), (h1, .inr (11, [v8, .int 0]))] ∧ ns_F g (va_A [(h0, .inr (10, [.ref h1, v0, v1, v2, v3, v4, v5, v6, v7])), (h1, .inr (11, [v8, .int 0]))] sz) U U.heap)) (va_Qi (fun (r : Int32) (_ : Unit) => r = 0) (fun _ t => va_P (dC, dI) vwCl [(h0, .inr (10, [.ref h1, v0, v1, v2, v3, v4, v5, v6, v7])), (h1, .inr (11, [v8, .int 0]))] t.heap ∧ va_K (dC, dI) vwCl [] t ∧ va_D (va_A [(h0, .inr (10, [.ref h1, v0, v1, v2, v3, v4, v5, v6, v7])), (h1, .inr (11, [v8, .int 0]))] sz) [(h0, .inr (10, [.ref h1, v0, v1, v2, v3, v4, v5, v6, v7])), (h1, .inr (11, [v8, .int 0]))]) (va_A [(h0, .inr (10, [.ref h1, v0, v1, v2, v3, v4, v5, v6, v7])), (h1, .inr (11, [v8, .int 0]))] sz)) 0 0 (va_A [(h0, .inr (10, [.ref h1, v0, v1, v2, v3, v4, v5, v6, v7])), (h1, .inr (11, [v8, .int 0]))] sz) := by
  refine Met.ofW (cc := cX3_has) (maxL := 2) (ret := (some .boolean)) (by decide) rfl ?_
  intro p e s m args below meth c s₁ B hml hv
  obtain ⟨rfl, hsz, hP, hK, hD0, hF⟩ := hv
  have hx := B.exec
  have hb := B.bytes
  have hr := B.returns
  have hts := atoms_spec (ws := wbX3_has) B.pre
  have hta : ∀ w ∈ wsALL, w.before _ s = true := fun w h => hts w (List.mem_cons_of_mem _ h)
  have hown : s.vm.findClass RX3 = some m.cls := findClass_of_methodNamed B.named
  have hlocks := B.notSynchronized
  subst hsz
  have hD := hD0.self (sz := s.heap.size)
  generalize hAe : va_A [(h0, .inr (10, [.ref h1, v0, v1, v2, v3, v4, v5, v6, v7])), (h1, .inr (11, [v8, .int 0]))] s.heap.size = A at hD hF ⊢
  have hA : ∀ q : Nat, s.heap.size ≤ q → A q := fun q h => by rw [← hAe]; exact Or.inr h
  have hS : va_S A s.heap s.heap [] := va_S.rf
  have hP : va_P (dC, dI) vwCl [(h0, .inr (10, [.ref h1, v0, v1, v2, v3, v4, v5, v6, v7])), (h1, .inr (11, [v8, .int 0]))] s.heap := hP
  have hl := lv_entry ([.ref h0, .int x0]) (n := 2) (Nat.le_of_ble_eq_true rfl)
  rw [lg_entry_eq]
  generalize (lg_sl ([.ref h0, .int x0]) ++ List.replicate (2 - (lg_sl ([.ref h0, .int x0])).length) Slot.unset).toArray = ls at hl ⊢
  have hl : lv_has ls 2 [(0, .ref h0), (1, .int x0)] := hl
  refine lv_iload_n hx hb dX3_has_0 rfl (lv_at hl 1 rfl) ?_
  refine lv_if_lt (tgt := 19) hx hb dX3_has_1 (by decide) (fun c1 => ?_) (fun c1 => ?_)
  · have ec1 : x0.toInt < (0 : Int) := Int32.lt_iff_toInt_lt.mp c1
    refine lv_iconst (v := 0) hx hb dX3_has_19 (by decide) ?_
    have hP9 := hP.sub (ws' := [(h0, .inr (10, [.ref h1, v0, v1, v2, v3, v4, v5, v6, v7])), (h1, .inr (11, [v8, .int 0]))]) [0, 1] rfl
    have hD9 := hD.sub (ws' := [(h0, .inr (10, [.ref h1, v0, v1, v2, v3, v4, v5, v6, v7])), (h1, .inr (11, [v8, .int 0]))]) [0, 1] (by decide) rfl
    have hK9 := hK.sub (tys' := []) [] rfl
    refine W.widen (k := 0) (n := 0) (Nat.le_of_ble_eq_true rfl) (Nat.le_of_ble_eq_true rfl) ?_
    exact W.zret (v := 0) hx hb hr (by decide) (fun t ht hW => ⟨⟨_, (), rfl, rfl, by rw [ht]; exact hP9, va_K.moved hW.alike hK9, hD9⟩, hS.F ht⟩) hS.2.2 dX3_has_20
  · have ec1 : ¬ x0.toInt < (0 : Int) := fun z => c1 (Int32.lt_iff_toInt_lt.mpr z)
    refine lv_iload_n hx hb dX3_has_4 rfl (lv_at hl 1 rfl) ?_
    refine lv_aload_n hx hb dX3_has_5 rfl (lv_at hl 0 rfl) ?_
    refine va_get (D := (dC, dI)) (ci := 10) (v := .ref h1) (C := RX3) (T := TX3) (N := 9) hx hb hta naX3 hown hK hP 0 rfl rfl 0 (by decide) (hta _ wm18) (fun _ h9 => h9) rfl dX3_has_6 ?_
    have hPc := hP.sub (ws' := [(h1, .inr (11, [v8, .int 0]))]) [1] rfl
    have hDc := hD.sub (ws' := [(h1, .inr (11, [v8, .int 0]))]) [1] (by decide) rfl
    have hKc := hK.sub (tys' := []) [] rfl
    have hFc := va_free (wc := [(h1, .inr (11, [v8, .int 0]))]) hD hS hA [1] rfl
    refine va_calli (va_runV (As := []) (rest := [.int x0]) ⟨hx, hb, hml, hown, hts⟩ (kX4_size l dC dI g s.heap.size h1 v8 ) (cwV 0 hts (ns_gp (List.forall_mem_cons.mpr ⟨wm248, (List.forall_mem_cons.mpr ⟨wm249, (List.forall_mem_cons.mpr ⟨wm250, (List.forall_mem_cons.mpr ⟨wm12, (fun _ h9 => nomatch h9)⟩)⟩)⟩)⟩) wm247) rfl rfl rfl (by decide +kernel) ⟨Nat.le_of_ble_eq_true rfl, Nat.le_of_ble_eq_true rfl⟩) ⟨fun a U gg mk q => by obtain ⟨q0, q1, qP, qK, qD, qF⟩ := q; exact ⟨q0, q1, qP, va_K.moved (u := U) (U := U.calling gg mk a) (Vm.Alike.refl U.vm) qK, qD, ns_same qF⟩, va_recv hK hP (ci := 11) (q0 := 1) rfl rfl, fun U hU hW => ⟨rfl, by rw [hU], by rw [hU]; exact hPc, va_K.moved hW.alike hKc, hDc.weaken (fun _ _ _ _ => trivial), ns_call hF hS hFc hU hW⟩⟩ rfl rfl hl.1 rfl (lv_room (Nat.le_of_ble_eq_true rfl)) dX3_has_9 ⟨Nat.le_of_ble_eq_true rfl, Nat.le_of_ble_eq_true rfl⟩) hS (fun q _ h => hFc q h) hFc (fun r9 u t H1 locs ht hvm hw hB hz1 hk1 hS => ?_)
    obtain rfl := hw.symm
    obtain ⟨hP1, hK1, hD1⟩ := hB
    rw [ht] at hP1
    have hK1 := va_K.moved hvm.symm hK1
    obtain ⟨hP, hD⟩ := va_join (wr := [(h0, .inr (10, [.ref h1, v0, v1, v2, v3, v4, v5, v6, v7]))]) (w1 := [(h1, .inr (11, [v8, .int 0]))]) hP hD [1] [0] rfl rfl (by decide) (by decide) hk1 hFc hP1 hD1
    have hK := (hK.sub (tys' := []) [] rfl).app hK1
    generalize H1 = H at hP hS ⊢
    have hP : va_P (dC, dI) vwCl [(h0, .inr (10, [.ref h1, v0, v1, v2, v3, v4, v5, v6, v7])), (h1, .inr (11, [v8, .int 0]))] H := hP
    have hD : va_D A [(h0, .inr (10, [.ref h1, v0, v1, v2, v3, v4, v5, v6, v7])), (h1, .inr (11, [v8, .int 0]))] := hD
    have hK : va_K (dC, dI) vwCl [] s := hK
    refine W.widen (k := 0) (n := 0) (Nat.le_of_ble_eq_true rfl) (Nat.le_of_ble_eq_true rfl) ?_
    refine lv_icmp_ge (tgt := 19) hx hb dX3_has_12 (by decide) (fun c2 => ?_) (fun c2 => absurd (show (0 : Int32) ≤ x0 from Int32.le_iff_toInt_le.mpr (show (0 : Int) ≤ x0.toInt by omega)) c2)
    refine lv_iconst (v := 0) hx hb dX3_has_19 (by decide) ?_
    have hP9 := hP.sub (ws' := [(h0, .inr (10, [.ref h1, v0, v1, v2, v3, v4, v5, v6, v7])), (h1, .inr (11, [v8, .int 0]))]) [0, 1] rfl
    have hD9 := hD.sub (ws' := [(h0, .inr (10, [.ref h1, v0, v1, v2, v3, v4, v5, v6, v7])), (h1, .inr (11, [v8, .int 0]))]) [0, 1] (by decide) rfl
    have hK9 := hK.sub (tys' := []) [] rfl
    refine W.widen (k := 0) (n := 0) (Nat.le_of_ble_eq_true rfl) (Nat.le_of_ble_eq_true rfl) ?_
    exact W.zret (v := 0) hx hb hr (by decide) (fun t ht hW => ⟨⟨_, (), rfl, rfl, by rw [ht]; exact hP9, va_K.moved hW.alike hK9, hD9⟩, hS.F ht⟩) hS.2.2 dX3_has_20
set_option maxHeartbeats 4000000 in
set_option maxRecDepth 100000 in
theorem kX3_addSign_7 (l : Launch) (dC : Nat → ClassId) (dI : Nat → Nat → Nat) (g : Nat → Nat) (sz : Nat) (h0 : Nat) (x0 : Int32) (h1 : Nat) (h2 : Nat) (v0 : Value) (v1 : Value) (v2 : Value) (v3 : Value) (v4 : Value) (v5 : Value) (v6 : Value) (v7 : Value) (cc0 : ClassId) (f0 : Nat → Int32) (ex0 : (97 : Int) ≤ x0.toInt ∧ x0.toInt ≤ (122 : Int)) : Met l yX3_addSign wbX3_addSign ({ frames := 1, cells := 0, slots := 0, locals := 21 }) (va_Pc [.ref h0, .int x0] (fun U => U.heap.size = sz ∧ va_P (dC, dI) vwCl [(h0, .inr (10, [v0, v1, v2, v3, v4, v5, v6, v7, .ref h1])), (h1, .inr (11, [.ref h2, .int 6])), (h2, .inl (cc0, 4960, .inl f0))] U.heap ∧ va_K (dC, dI) vwCl [(cc0, .int)] U ∧ va_D (fun _ => True) [(h0, .inr (10, [v0, v1, v2, v3, v4, v5, v6, v7, .ref h1])), (h1, .inr (11, [.ref h2, .int 6])), (h2, .inl (cc0, 4960, .inl f0))] ∧ ns_F g (va_A [(h0, .inr (10, [v0, v1, v2, v3, v4, v5, v6, v7, .ref h1])), (h1, .inr (11, [.ref h2, .int 6])), (h2, .inl (cc0, 4960, .inl f0))] sz) U U.heap)) (va_Qv (fun _ : Unit => True) (fun _ t => va_P (dC, dI) vwCl [(h0, .inr (10, [v0, v1, v2, v3, v4, v5, v6, v7, .ref h1])), (h1, .inr (11, [.ref h2, .int 7])), (h2, .inl (cc0, 4960, .inl (upd (f0) 6 x0)))] t.heap ∧ va_K (dC, dI) vwCl [(cc0, .int)] t ∧ va_D (va_A [(h0, .inr (10, [v0, v1, v2, v3, v4, v5, v6, v7, .ref h1])), (h1, .inr (11, [.ref h2, .int 6])), (h2, .inl (cc0, 4960, .inl f0))] sz) [(h0, .inr (10, [v0, v1, v2, v3, v4, v5, v6, v7, .ref h1])), (h1, .inr (11, [.ref h2, .int 7])), (h2, .inl (cc0, 4960, .inl (upd (f0) 6 x0)))]) (va_A [(h0, .inr (10, [v0, v1, v2, v3, v4, v5, v6, v7, .ref h1])), (h1, .inr (11, [.ref h2, .int 6])), (h2, .inl (cc0, 4960, .inl f0))] sz)) 0 0 (va_A [(h0, .inr (10, [v0, v1, v2, v3, v4, v5, v6, v7, .ref h1])), (h1, .inr (11, [.ref h2, .int 6])), (h2, .inl (cc0, 4960, .inl f0))] sz) := by
  refine Met.ofW (cc := cX3_addSign) (maxL := 2) (ret := none) (by decide) rfl ?_
  intro p e s m args below meth c s₁ B hml hv
  obtain ⟨rfl, hsz, hP, hK, hD0, hF⟩ := hv
  have hx := B.exec
  have hb := B.bytes
  have hr := B.returns
  have hts := atoms_spec (ws := wbX3_addSign) B.pre
  have hta : ∀ w ∈ wsALL, w.before _ s = true := fun w h => hts w (List.mem_cons_of_mem _ h)
  have hown : s.vm.findClass RX3 = some m.cls := findClass_of_methodNamed B.named
  have hlocks := B.notSynchronized
  subst hsz
  have hD := hD0.self (sz := s.heap.size)
  generalize hAe : va_A [(h0, .inr (10, [v0, v1, v2, v3, v4, v5, v6, v7, .ref h1])), (h1, .inr (11, [.ref h2, .int 6])), (h2, .inl (cc0, 4960, .inl f0))] s.heap.size = A at hD hF ⊢
  have hA : ∀ q : Nat, s.heap.size ≤ q → A q := fun q h => by rw [← hAe]; exact Or.inr h
  have hS : va_S A s.heap s.heap [] := va_S.rf
  have hP : va_P (dC, dI) vwCl [(h0, .inr (10, [v0, v1, v2, v3, v4, v5, v6, v7, .ref h1])), (h1, .inr (11, [.ref h2, .int 6])), (h2, .inl (cc0, 4960, .inl f0))] s.heap := hP
  have hl := lv_entry ([.ref h0, .int x0]) (n := 2) (Nat.le_of_ble_eq_true rfl)
  rw [lg_entry_eq]
  generalize (lg_sl ([.ref h0, .int x0]) ++ List.replicate (2 - (lg_sl ([.ref h0, .int x0])).length) Slot.unset).toArray = ls at hl ⊢
  have hl : lv_has ls 2 [(0, .ref h0), (1, .int x0)] := hl
  refine lv_aload_n hx hb dX3_addSign_0 rfl (lv_at hl 0 rfl) ?_
  refine va_get (D := (dC, dI)) (ci := 10) (v := .ref h1) (C := RX3) (T := TX3) (N := 9) hx hb hta naX3 hown hK hP 0 rfl rfl 8 (by decide) (hta _ wm26) (fun _ h9 => h9) rfl dX3_addSign_1 ?_
  refine lv_iload_n hx hb dX3_addSign_4 rfl (lv_at hl 1 rfl) ?_
  have hPc := hP.sub (ws' := [(h1, .inr (11, [.ref h2, .int 6])), (h2, .inl (cc0, 4960, .inl f0))]) [1, 2] rfl
  have hDc := hD.sub (ws' := [(h1, .inr (11, [.ref h2, .int 6])), (h2, .inl (cc0, 4960, .inl f0))]) [1, 2] (by decide) rfl
  have hKc := hK.sub (tys' := [(cc0, .int)]) [0] rfl
  have hFc := va_free (wc := [(h1, .inr (11, [.ref h2, .int 6])), (h2, .inl (cc0, 4960, .inl f0))]) hD hS hA [1, 2] rfl
  refine va_callv (va_runV (As := [.int x0]) (rest := []) ⟨hx, hb, hml, hown, hts⟩ (kX4_add_15 l dC dI g s.heap.size h1 x0 h2 cc0 f0 ⟨by omega, by omega⟩) (cwV 1 hts (ns_gp (List.forall_mem_cons.mpr ⟨wm257, (List.forall_mem_cons.mpr ⟨wm258, (List.forall_mem_cons.mpr ⟨wm259, (List.forall_mem_cons.mpr ⟨wm12, (fun _ h9 => nomatch h9)⟩)⟩)⟩)⟩) wm256) rfl rfl rfl (by decide +kernel) ⟨Nat.le_of_ble_eq_true rfl, Nat.le_of_ble_eq_true rfl⟩) ⟨fun a U gg mk q => by obtain ⟨q0, q1, qP, qK, qD, qF⟩ := q; exact ⟨q0, q1, qP, va_K.moved (u := U) (U := U.calling gg mk a) (Vm.Alike.refl U.vm) qK, qD, ns_same qF⟩, va_recv hK hP (ci := 11) (q0 := 1) rfl rfl, fun U hU hW => ⟨rfl, by rw [hU], by rw [hU]; exact hPc, va_K.moved hW.alike hKc, hDc.weaken (fun _ _ _ _ => trivial), ns_call hF hS hFc hU hW⟩⟩ rfl rfl hl.1 rfl (lv_room (Nat.le_of_ble_eq_true rfl)) dX3_addSign_5 ⟨Nat.le_of_ble_eq_true rfl, Nat.le_of_ble_eq_true rfl⟩) hS (fun q _ h => hFc q h) hFc (fun u t H1 locs ht hvm hw hB hz1 hk1 hS => ?_)
  obtain ⟨hP1, hK1, hD1⟩ := hB
  rw [ht] at hP1
  have hK1 := va_K.moved hvm.symm hK1
  obtain ⟨hP, hD⟩ := va_join (wr := [(h0, .inr (10, [v0, v1, v2, v3, v4, v5, v6, v7, .ref h1]))]) (w1 := [(h1, .inr (11, [.ref h2, .int 7])), (h2, .inl (cc0, 4960, .inl (upd (f0) 6 x0)))]) hP hD [1, 2] [0] rfl rfl (by decide) (by decide) hk1 hFc hP1 hD1
  have hK := (hK.sub (tys' := []) [] rfl).app hK1
  generalize H1 = H at hP hS ⊢
  have hP : va_P (dC, dI) vwCl [(h0, .inr (10, [v0, v1, v2, v3, v4, v5, v6, v7, .ref h1])), (h1, .inr (11, [.ref h2, .int 7])), (h2, .inl (cc0, 4960, .inl (upd (f0) 6 x0)))] H := hP
  have hD : va_D A [(h0, .inr (10, [v0, v1, v2, v3, v4, v5, v6, v7, .ref h1])), (h1, .inr (11, [.ref h2, .int 7])), (h2, .inl (cc0, 4960, .inl (upd (f0) 6 x0)))] := hD
  have hK : va_K (dC, dI) vwCl [(cc0, .int)] s := hK
  refine W.widen (k := 0) (n := 0) (Nat.le_of_ble_eq_true rfl) (Nat.le_of_ble_eq_true rfl) ?_
  have hP9 := hP.sub (ws' := [(h0, .inr (10, [v0, v1, v2, v3, v4, v5, v6, v7, .ref h1])), (h1, .inr (11, [.ref h2, .int 7])), (h2, .inl (cc0, 4960, .inl (upd (f0) 6 x0)))]) [0, 1, 2] rfl
  have hD9 := hD.sub (ws' := [(h0, .inr (10, [v0, v1, v2, v3, v4, v5, v6, v7, .ref h1])), (h1, .inr (11, [.ref h2, .int 7])), (h2, .inl (cc0, 4960, .inl (upd (f0) 6 x0)))]) [0, 1, 2] (by decide) rfl
  have hK9 := hK.sub (tys' := [(cc0, .int)]) [0] rfl
  refine W.widen (k := 0) (n := 0) (Nat.le_of_ble_eq_true rfl) (Nat.le_of_ble_eq_true rfl) ?_
  exact W.vret hx hb hr (fun t ht hW => ⟨⟨(), rfl, trivial, by rw [ht]; exact hP9, va_K.moved hW.alike hK9, hD9⟩, hS.F ht⟩) hS.2.2 dX3_addSign_8
set_option maxHeartbeats 4000000 in
set_option maxRecDepth 100000 in
theorem kL_word_28 (l : Launch) (dC : Nat → ClassId) (dI : Nat → Nat → Nat) (g : Nat → Nat) (sz : Nat) (h0 : Nat) (x0 : Int32) (h1 : Nat) (v0 : Value) (v1 : Value) (v2 : Value) (v3 : Value) (v4 : Value) (v5 : Value) (v6 : Value) (v7 : Value) (v8 : Value) (v9 : Value) (v10 : Value) (v11 : Value) (v12 : Value) (v13 : Value) (v14 : Value) (v15 : Value) (ex0 : (26 : Int) ≤ x0.toInt ∧ x0.toInt ≤ (2147483647 : Int)) (hlt : l.stackTraces = false) : Met l yL_word wbL_word ({ frames := 7, cells := 1, slots := 6, locals := 105 }) (va_Pc [.ref h0, .int x0, .int 5, .ref h1] (fun U => U.heap.size = sz ∧ va_P (dC, dI) vwCl [(h0, .inr (16, [v0, v1, v2, v3, v4, v5, v6, v7, v8, v9, v10, v11, v12, v13, v14, v15]))] U.heap ∧ va_K (dC, dI) vwCl [] U ∧ va_D (fun _ => True) [(h0, .inr (16, [v0, v1, v2, v3, v4, v5, v6, v7, v8, v9, v10, v11, v12, v13, v14, v15]))] ∧ ns_F g (va_A [(h0, .inr (16, [v0, v1, v2, v3, v4, v5, v6, v7, v8, v9, v10, v11, v12, v13, v14, v15]))] sz) U U.heap)) (va_Qi (fun (r : Int32) (_ : Unit) => r = 1) (fun _ t => va_P (dC, dI) vwCl [(h0, .inr (16, [v0, v1, v2, v3, v4, v5, v6, v7, v8, v9, v10, v11, v12, v13, v14, v15]))] t.heap ∧ va_K (dC, dI) vwCl [] t ∧ va_D (va_A [(h0, .inr (16, [v0, v1, v2, v3, v4, v5, v6, v7, v8, v9, v10, v11, v12, v13, v14, v15]))] sz) [(h0, .inr (16, [v0, v1, v2, v3, v4, v5, v6, v7, v8, v9, v10, v11, v12, v13, v14, v15]))]) (va_A [(h0, .inr (16, [v0, v1, v2, v3, v4, v5, v6, v7, v8, v9, v10, v11, v12, v13, v14, v15]))] sz)) 1 6 (va_A [(h0, .inr (16, [v0, v1, v2, v3, v4, v5, v6, v7, v8, v9, v10, v11, v12, v13, v14, v15]))] sz) := by
  refine va_MetW (cc := cL_word) (maxL := 5) (ret := (some .int)) (hh := [(0, 11, 14, 19), (0, 11, 18, 21)]) (by decide) rfl ?_
  intro p e s m args below meth c s₁ B hml hv
  obtain ⟨rfl, hsz, hP, hK, hD0, hF⟩ := hv
  have hx := B.exec
  have hb := B.bytes
  have hr := B.returns
  have hts := atoms_spec (ws := wbL_word) B.pre
  have hta : ∀ w ∈ wsALL, w.before _ s = true := fun w h => hts w (List.mem_cons_of_mem _ h)
  have hown : s.vm.findClass RL = some m.cls := findClass_of_methodNamed B.named
  have hlocks := B.notSynchronized
  have htab : c.exceptionTable.toList = [⟨0, 11, 14, 19⟩, ⟨0, 11, 18, 21⟩] := vx_table (x := yL_word) B (hts _ List.mem_cons_self)
  subst hsz
  have hD := hD0.self (sz := s.heap.size)
  generalize hAe : va_A [(h0, .inr (16, [v0, v1, v2, v3, v4, v5, v6, v7, v8, v9, v10, v11, v12, v13, v14, v15]))] s.heap.size = A at hD hF ⊢
  have hA : ∀ q : Nat, s.heap.size ≤ q → A q := fun q h => by rw [← hAe]; exact Or.inr h
  have hS : va_S A s.heap s.heap [] := va_S.rf
  have hP : va_P (dC, dI) vwCl [(h0, .inr (16, [v0, v1, v2, v3, v4, v5, v6, v7, v8, v9, v10, v11, v12, v13, v14, v15]))] s.heap := hP
  have hl := lv_entry ([.ref h0, .int x0, .int 5, .ref h1]) (n := 5) (Nat.le_of_ble_eq_true rfl)
  rw [lg_entry_eq]
  generalize (lg_sl ([.ref h0, .int x0, .int 5, .ref h1]) ++ List.replicate (5 - (lg_sl ([.ref h0, .int x0, .int 5, .ref h1])).length) Slot.unset).toArray = ls at hl ⊢
  have hl : lv_has ls 5 [(0, .ref h0), (1, .int x0), (2, .int 5), (3, .ref h1)] := hl
  refine lv_aload_n hx hb dL_word_0 rfl (lv_at hl 3 rfl) ?_
  refine lv_aload_n hx hb dL_word_1 rfl (lv_at hl 0 rfl) ?_
  refine lv_iload_n hx hb dL_word_2 rfl (lv_at hl 1 rfl) ?_
  refine lv_iload_n hx hb dL_word_3 rfl (lv_at hl 2 rfl) ?_
  have hPc := hP.sub (ws' := []) [] rfl
  have hDc := hD.sub (ws' := []) [] (by decide) rfl
  have hKc := hK.sub (tys' := []) [] rfl
  have hFc := va_free (wc := []) hD hS hA [] rfl
  refine vx_callv (vx_runV (As := [.int x0, .int 5]) (rest := [.ref h1]) ⟨hx, hb, hml, hown, hts⟩ (kX9_word_28 l dC dI g s.heap.size h0 x0 ⟨by omega, by omega⟩ hlt) (cwV 2 hts (ns_gp (List.forall_mem_cons.mpr ⟨wm229, (List.forall_mem_cons.mpr ⟨wm230, (List.forall_mem_cons.mpr ⟨wm231, (List.forall_mem_cons.mpr ⟨wm2, (fun _ h9 => nomatch h9)⟩)⟩)⟩)⟩) wm227) rfl rfl rfl (by decide +kernel) ⟨Nat.le_of_ble_eq_true rfl, Nat.le_of_ble_eq_true rfl⟩) ⟨fun a U gg mk q => by obtain ⟨q0, q1, qP, qK, qD, qF⟩ := q; exact ⟨q0, q1, qP, va_K.moved (u := U) (U := U.calling gg mk a) (Vm.Alike.refl U.vm) qK, qD, ns_same qF⟩, va_recv hK hP (ci := 16) (q0 := 0) rfl rfl, fun U hU hW => ⟨rfl, by rw [hU], by rw [hU]; exact hPc, va_K.moved hW.alike hKc, hDc.weaken (fun _ _ _ _ => trivial), ns_call hF hS hFc hU hW⟩⟩ rfl rfl hl.1 rfl (lv_room (Nat.le_of_ble_eq_true rfl)) dL_word_4 ⟨Nat.le_of_ble_eq_true rfl, Nat.le_of_ble_eq_true rfl⟩) hS (fun q _ h => hFc q h) hFc (fun q _ h => hFc q h) (fun E ce q9 u t H1 locs ht hvm hw hB hz1 hk1 hS hc1 hc2 hc3 => ?_) (fun _ _ _ _ _ _ hw _ _ _ _ => False.elim hw)
  obtain rfl : E = "java/lang/IllegalArgumentException" := hB
  obtain ⟨hP, hD⟩ := va_join (wr := [(h0, .inr (16, [v0, v1, v2, v3, v4, v5, v6, v7, v8, v9, v10, v11, v12, v13, v14, v15]))]) (w1 := []) hP hD [] [0] rfl rfl (by decide) (by decide) hk1 hFc (fun k q h => by simp at h) ⟨fun i j p q h => by simp at h, fun k q h => by simp at h⟩
  have hK := hK.sub (tys' := []) [] rfl
  generalize H1 = H at hP hS hc1 ⊢
  have hP : va_P (dC, dI) vwCl [(h0, .inr (16, [v0, v1, v2, v3, v4, v5, v6, v7, v8, v9, v10, v11, v12, v13, v14, v15]))] H := hP
  have hD : va_D A [(h0, .inr (16, [v0, v1, v2, v3, v4, v5, v6, v7, v8, v9, v10, v11, v12, v13, v14, v15]))] := hD
  have hK : va_K (dC, dI) vwCl [] s := hK
  refine vx_widen (k := 1) (n := 6) (Nat.le_of_ble_eq_true rfl) (Nat.le_of_ble_eq_true rfl) ?_
  refine vx_catch hown [] ⟨0, 11, 14, 19⟩ [⟨0, 11, 18, 21⟩] htab (fun z hz => by simp at hz) (by decide) (by decide) (hta _ wm228) (va_Nw.use rfl (ns_f11 hF)) hc1 hc2 hc3 ?_
  refine W.eq (g2 := F0 m 14 ls [.ref q9]) rfl ?_
  refine lv_astore (lv' := [(4, .ref q9), (0, .ref h0), (1, .int x0), (2, .int 5), (3, .ref h1)]) hx hb dL_word_14 hl (by decide) rfl (fun ls hl => ?_)
  refine lv_iconst (v := 1) hx hb dL_word_16 (by decide) ?_
  have hP9 := hP.sub (ws' := [(h0, .inr (16, [v0, v1, v2, v3, v4, v5, v6, v7, v8, v9, v10, v11, v12, v13, v14, v15]))]) [0] rfl
  have hD9 := hD.sub (ws' := [(h0, .inr (16, [v0, v1, v2, v3, v4, v5, v6, v7, v8, v9, v10, v11, v12, v13, v14, v15]))]) [0] (by decide) rfl
  have hK9 := hK.sub (tys' := []) [] rfl
  refine W.widen (k := 1) (n := 6) (Nat.le_of_ble_eq_true rfl) (Nat.le_of_ble_eq_true rfl) ?_
  exact W.iret (v := 1) hx hb hr (fun t ht hW => ⟨⟨_, (), rfl, rfl, by rw [ht]; exact hP9, va_K.moved hW.alike hK9, hD9⟩, hS.F ht⟩) hS.2.2 dL_word_17
set_option maxHeartbeats 4000000 in
set_option maxRecDepth 100000 in
theorem kX9_stateOf_4 (l : Launch) (dC : Nat → ClassId) (dI : Nat → Nat → Nat) (g : Nat → Nat) (sz : Nat) (h0 : Nat) (h1 : Nat) (v0 : Value) (v1 : Value) (v2 : Value) (v3 : Value) (v4 : Value) (v5 : Value) (v6 : Value) (v7 : Value) (v8 : Value) (v9 : Value) (v10 : Value) (v11 : Value) (v12 : Value) (v13 : Value) (v14 : Value) (v15 : Value) : Met l yX9_stateOf wbX9_stateOf ({ frames := 1, cells := 0, slots := 0, locals := 20 }) (va_Pc [.ref h0, .int 3] (fun U => U.heap.size = sz ∧ va_P (dC, dI) vwCl [(h0, .inr (16, [v0, .ref h1, v1, v2, v3, v4, v5, v6, v7, v8, v9, v10, v11, v12, v13, v14])), (h1, .inr (11, [v15, .int 0]))] U.heap ∧ va_K (dC, dI) vwCl [] U ∧ va_D (fun _ => True) [(h0, .inr (16, [v0, .ref h1, v1, v2, v3, v4, v5, v6, v7, v8, v9, v10, v11, v12, v13, v14])), (h1, .inr (11, [v15, .int 0]))] ∧ ns_F g (va_A [(h0, .inr (16, [v0, .ref h1, v1, v2, v3, v4, v5, v6, v7, v8, v9, v10, v11, v12, v13, v14])), (h1, .inr (11, [v15, .int 0]))] sz) U U.heap)) (va_Qi (fun (r : Int32) (_ : Unit) => r = 0) (fun _ t => va_P (dC, dI) vwCl [(h0, .inr (16, [v0, .ref h1, v1, v2, v3, v4, v5, v6, v7, v8, v9, v10, v11, v12, v13, v14])), (h1, .inr (11, [v15, .int 0]))] t.heap ∧ va_K (dC, dI) vwCl [] t ∧ va_D (va_A [(h0, .inr (16, [v0, .ref h1, v1, v2, v3, v4, v5, v6, v7, v8, v9, v10, v11, v12, v13, v14])), (h1, .inr (11, [v15, .int 0]))] sz) [(h0, .inr (16, [v0, .ref h1, v1, v2, v3, v4, v5, v6, v7, v8, v9, v10, v11, v12, v13, v14])), (h1, .inr (11, [v15, .int 0]))]) (va_A [(h0, .inr (16, [v0, .ref h1, v1, v2, v3, v4, v5, v6, v7, v8, v9, v10, v11, v12, v13, v14])), (h1, .inr (11, [v15, .int 0]))] sz)) 0 0 (va_A [(h0, .inr (16, [v0, .ref h1, v1, v2, v3, v4, v5, v6, v7, v8, v9, v10, v11, v12, v13, v14])), (h1, .inr (11, [v15, .int 0]))] sz) := by
  refine Met.ofW (cc := cX9_stateOf) (maxL := 2) (ret := (some .int)) (by decide) rfl ?_
  intro p e s m args below meth c s₁ B hml hv
  obtain ⟨rfl, hsz, hP, hK, hD0, hF⟩ := hv
  have hx := B.exec
  have hb := B.bytes
  have hr := B.returns
  have hts := atoms_spec (ws := wbX9_stateOf) B.pre
  have hta : ∀ w ∈ wsALL, w.before _ s = true := fun w h => hts w (List.mem_cons_of_mem _ h)
  have hown : s.vm.findClass RX9 = some m.cls := findClass_of_methodNamed B.named
  have hlocks := B.notSynchronized
  subst hsz
  have hD := hD0.self (sz := s.heap.size)
  generalize hAe : va_A [(h0, .inr (16, [v0, .ref h1, v1, v2, v3, v4, v5, v6, v7, v8, v9, v10, v11, v12, v13, v14])), (h1, .inr (11, [v15, .int 0]))] s.heap.size = A at hD hF ⊢
  have hA : ∀ q : Nat, s.heap.size ≤ q → A q := fun q h => by rw [← hAe]; exact Or.inr h
  have hS : va_S A s.heap s.heap [] := va_S.rf
  have hP : va_P (dC, dI) vwCl [(h0, .inr (16, [v0, .ref h1, v1, v2, v3, v4, v5, v6, v7, v8, v9, v10, v11, v12, v13, v14])), (h1, .inr (11, [v15, .int 0]))] s.heap := hP
  have hl := lv_entry ([.ref h0, .int 3]) (n := 2) (Nat.le_of_ble_eq_true rfl)
  rw [lg_entry_eq]
  generalize (lg_sl ([.ref h0, .int 3]) ++ List.replicate (2 - (lg_sl ([.ref h0, .int 3])).length) Slot.unset).toArray = ls at hl ⊢
  have hl : lv_has ls 2 [(0, .ref h0), (1, .int 3)] := hl
  refine lv_iload_n hx hb dX9_stateOf_0 rfl (lv_at hl 1 rfl) ?_
  refine lv_tableIn (off := 61) (tgt := 62) hx hb dX9_stateOf_1 (by decide) (by decide) (by decide) (by decide) ?_
  refine lv_aload_n hx hb dX9_stateOf_62 rfl (lv_at hl 0 rfl) ?_
  refine va_get (D := (dC, dI)) (ci := 16) (v := .ref h1) (C := RX9) (T := TX9) (N := 16) hx hb hta naX9 hown hK hP 0 rfl rfl 1 (by decide) (hta _ wm32) (fun _ h9 => h9) rfl dX9_stateOf_63 ?_
  have hPc := hP.sub (ws' := [(h1, .inr (11, [v15, .int 0]))]) [1] rfl
  have hDc := hD.sub (ws' := [(h1, .inr (11, [v15, .int 0]))]) [1] (by decide) rfl
  have hKc := hK.sub (tys' := []) [] rfl
  have hFc := va_free (wc := [(h1, .inr (11, [v15, .int 0]))]) hD hS hA [1] rfl
  refine va_calli (va_runV (As := []) (rest := []) ⟨hx, hb, hml, hown, hts⟩ (kX4_size l dC dI g s.heap.size h1 v15 ) (cwV 0 hts (ns_gp (List.forall_mem_cons.mpr ⟨wm549, (List.forall_mem_cons.mpr ⟨wm249, (List.forall_mem_cons.mpr ⟨wm250, (List.forall_mem_cons.mpr ⟨wm12, (fun _ h9 => nomatch h9)⟩)⟩)⟩)⟩) wm247) rfl rfl rfl (by decide +kernel) ⟨Nat.le_of_ble_eq_true rfl, Nat.le_of_ble_eq_true rfl⟩) ⟨fun a U gg mk q => by obtain ⟨q0, q1, qP, qK, qD, qF⟩ := q; exact ⟨q0, q1, qP, va_K.moved (u := U) (U := U.calling gg mk a) (Vm.Alike.refl U.vm) qK, qD, ns_same qF⟩, va_recv hK hP (ci := 11) (q0 := 1) rfl rfl, fun U hU hW => ⟨rfl, by rw [hU], by rw [hU]; exact hPc, va_K.moved hW.alike hKc, hDc.weaken (fun _ _ _ _ => trivial), ns_call hF hS hFc hU hW⟩⟩ rfl rfl hl.1 rfl (lv_room (Nat.le_of_ble_eq_true rfl)) dX9_stateOf_66 ⟨Nat.le_of_ble_eq_true rfl, Nat.le_of_ble_eq_true rfl⟩) hS (fun q _ h => hFc q h) hFc (fun r9 u t H1 locs ht hvm hw hB hz1 hk1 hS => ?_)
  obtain rfl := hw.symm
  obtain ⟨hP1, hK1, hD1⟩ := hB
  rw [ht] at hP1
  have hK1 := va_K.moved hvm.symm hK1
  obtain ⟨hP, hD⟩ := va_join (wr := [(h0, .inr (16, [v0, .ref h1, v1, v2, v3, v4, v5, v6, v7, v8, v9, v10, v11, v12, v13, v14]))]) (w1 := [(h1, .inr (11, [v15, .int 0]))]) hP hD [1] [0] rfl rfl (by decide) (by decide) hk1 hFc hP1 hD1
  have hK := (hK.sub (tys' := []) [] rfl).app hK1
  generalize H1 = H at hP hS ⊢
  have hP : va_P (dC, dI) vwCl [(h0, .inr (16, [v0, .ref h1, v1, v2, v3, v4, v5, v6, v7, v8, v9, v10, v11, v12, v13, v14])), (h1, .inr (11, [v15, .int 0]))] H := hP
  have hD : va_D A [(h0, .inr (16, [v0, .ref h1, v1, v2, v3, v4, v5, v6, v7, v8, v9, v10, v11, v12, v13, v14])), (h1, .inr (11, [v15, .int 0]))] := hD
  have hK : va_K (dC, dI) vwCl [] s := hK
  refine W.widen (k := 0) (n := 0) (Nat.le_of_ble_eq_true rfl) (Nat.le_of_ble_eq_true rfl) ?_
  have hP9 := hP.sub (ws' := [(h0, .inr (16, [v0, .ref h1, v1, v2, v3, v4, v5, v6, v7, v8, v9, v10, v11, v12, v13, v14])), (h1, .inr (11, [v15, .int 0]))]) [0, 1] rfl
  have hD9 := hD.sub (ws' := [(h0, .inr (16, [v0, .ref h1, v1, v2, v3, v4, v5, v6, v7, v8, v9, v10, v11, v12, v13, v14])), (h1, .inr (11, [v15, .int 0]))]) [0, 1] (by decide) rfl
  have hK9 := hK.sub (tys' := []) [] rfl
  refine W.widen (k := 0) (n := 0) (Nat.le_of_ble_eq_true rfl) (Nat.le_of_ble_eq_true rfl) ?_
  exact W.iret (v := 0) hx hb hr (fun t ht hW => ⟨⟨_, (), rfl, rfl, by rw [ht]; exact hP9, va_K.moved hW.alike hK9, hD9⟩, hS.F ht⟩) hS.2.2 dX9_stateOf_69
set_option maxHeartbeats 4000000 in
set_option maxRecDepth 100000 in
theorem kX9_house_7 (l : Launch) (dC : Nat → ClassId) (dI : Nat → Nat → Nat) (g : Nat → Nat) (sz : Nat) (h0 : Nat) (v0 : Value) (v1 : Value) (v2 : Value) (v3 : Value) (v4 : Value) (v5 : Value) (v6 : Value) (v7 : Value) (v8 : Value) (v9 : Value) (v10 : Value) (v11 : Value) (v12 : Value) (v13 : Value) (v14 : Value) : Met l yX9_house wbX9_house ({ frames := 1, cells := 0, slots := 0, locals := 21 }) (va_Pc [.ref h0, .int 5] (fun U => U.heap.size = sz ∧ va_P (dC, dI) vwCl [(h0, .inr (16, [v0, v1, v2, v3, v4, v5, v6, v7, v8, v9, v10, v11, v12, v13, .int 0, v14]))] U.heap ∧ va_K (dC, dI) vwCl [] U ∧ va_D (fun _ => True) [(h0, .inr (16, [v0, v1, v2, v3, v4, v5, v6, v7, v8, v9, v10, v11, v12, v13, .int 0, v14]))] ∧ ns_F g (va_A [(h0, .inr (16, [v0, v1, v2, v3, v4, v5, v6, v7, v8, v9, v10, v11, v12, v13, .int 0, v14]))] sz) U U.heap)) (va_Qi (fun (r : Int32) (_ : Unit) => r = 0) (fun _ t => va_P (dC, dI) vwCl [(h0, .inr (16, [v0, v1, v2, v3, v4, v5, v6, v7, v8, v9, v10, v11, v12, v13, .int 0, v14]))] t.heap ∧ va_K (dC, dI) vwCl [] t ∧ va_D (va_A [(h0, .inr (16, [v0, v1, v2, v3, v4, v5, v6, v7, v8, v9, v10, v11, v12, v13, .int 0, v14]))] sz) [(h0, .inr (16, [v0, v1, v2, v3, v4, v5, v6, v7, v8, v9, v10, v11, v12, v13, .int 0, v14]))]) (va_A [(h0, .inr (16, [v0, v1, v2, v3, v4, v5, v6, v7, v8, v9, v10, v11, v12, v13, .int 0, v14]))] sz)) 0 0 (va_A [(h0, .inr (16, [v0, v1, v2, v3, v4, v5, v6, v7, v8, v9, v10, v11, v12, v13, .int 0, v14]))] sz) := by
  refine Met.ofW (cc := cX9_house) (maxL := 2) (ret := (some .int)) (by decide) rfl ?_
  intro p e s m args below meth c s₁ B hml hv
  obtain ⟨rfl, hsz, hP, hK, hD0, hF⟩ := hv
  have hx := B.exec
  have hb := B.bytes
  have hr := B.returns
  have hts := atoms_spec (ws := wbX9_house) B.pre
  have hta : ∀ w ∈ wsALL, w.before _ s = true := fun w h => hts w (List.mem_cons_of_mem _ h)
  have hown : s.vm.findClass RX9 = some m.cls := findClass_of_methodNamed B.named
  have hlocks := B.notSynchronized
  subst hsz
  have hD := hD0.self (sz := s.heap.size)
  generalize hAe : va_A [(h0, .inr (16, [v0, v1, v2, v3, v4, v5, v6, v7, v8, v9, v10, v11, v12, v13, .int 0, v14]))] s.heap.size = A at hD hF ⊢
  have hA : ∀ q : Nat, s.heap.size ≤ q → A q := fun q h => by rw [← hAe]; exact Or.inr h
  have hS : va_S A s.heap s.heap [] := va_S.rf
  have hP : va_P (dC, dI) vwCl [(h0, .inr (16, [v0, v1, v2, v3, v4, v5, v6, v7, v8, v9, v10, v11, v12, v13, .int 0, v14]))] s.heap := hP
  have hl := lv_entry ([.ref h0, .int 5]) (n := 2) (Nat.le_of_ble_eq_true rfl)
  rw [lg_entry_eq]
  generalize (lg_sl ([.ref h0, .int 5]) ++ List.replicate (2 - (lg_sl ([.ref h0, .int 5])).length) Slot.unset).toArray = ls at hl ⊢
  have hl : lv_has ls 2 [(0, .ref h0), (1, .int 5)] := hl
  refine lv_iload_n hx hb dX9_house_0 rfl (lv_at hl 1 rfl) ?_
  refine lv_if_lt (tgt := 10) hx hb dX9_house_1 (by decide) (fun c1 => absurd c1 (by decide)) (fun c1 => ?_)
  refine lv_iload_n hx hb dX9_house_4 rfl (lv_at hl 1 rfl) ?_
  refine lv_bipush (v := 7) hx hb dX9_house_5 (by decide) ?_
  refine lv_icmp_le (tgt := 20) hx hb dX9_house_7 (by decide) (fun c2 => ?_) (fun c2 => absurd (by decide) c2)
  refine lv_aload_n hx hb dX9_house_20 rfl (lv_at hl 0 rfl) ?_
  refine lv_iload_n hx hb dX9_house_21 rfl (lv_at hl 1 rfl) ?_
  have hPc := hP.sub (ws' := [(h0, .inr (16, [v0, v1, v2, v3, v4, v5, v6, v7, v8, v9, v10, v11, v12, v13, .int 0, v14]))]) [0] rfl
  have hDc := hD.sub (ws' := [(h0, .inr (16, [v0, v1, v2, v3, v4, v5, v6, v7, v8, v9, v10, v11, v12, v13, .int 0, v14]))]) [0] (by decide) rfl
  have hKc := hK.sub (tys' := []) [] rfl
  have hFc := va_free (wc := [(h0, .inr (16, [v0, v1, v2, v3, v4, v5, v6, v7, v8, v9, v10, v11, v12, v13, .int 0, v14]))]) hD hS hA [0] rfl
  refine va_calli (va_runV (As := [.int 5]) (rest := []) ⟨hx, hb, hml, hown, hts⟩ (kX9_stateOf_6 l dC dI g s.heap.size h0 v0 v1 v2 v3 v4 v5 v6 v7 v8 v9 v10 v11 v12 v13 v14 ) (cwV 1 hts (ns_gp (List.forall_mem_cons.mpr ⟨wm991, (List.forall_mem_cons.mpr ⟨wm992, (List.forall_mem_cons.mpr ⟨wm993, (List.forall_mem_cons.mpr ⟨wm2, (fun _ h9 => nomatch h9)⟩)⟩)⟩)⟩) wm990) rfl rfl rfl (by decide +kernel) ⟨Nat.le_of_ble_eq_true rfl, Nat.le_of_ble_eq_true rfl⟩) ⟨fun a U gg mk q => by obtain ⟨q0, q1, qP, qK, qD, qF⟩ := q; exact ⟨q0, q1, qP, va_K.moved (u := U) (U := U.calling gg mk a) (Vm.Alike.refl U.vm) qK, qD, ns_same qF⟩, va_recv hK hP (ci := 16) (q0 := 0) rfl rfl, fun U hU hW => ⟨rfl, by rw [hU], by rw [hU]; exact hPc, va_K.moved hW.alike hKc, hDc.weaken (fun _ _ _ _ => trivial), ns_call hF hS hFc hU hW⟩⟩ rfl rfl hl.1 rfl (lv_room (Nat.le_of_ble_eq_true rfl)) dX9_house_22 ⟨Nat.le_of_ble_eq_true rfl, Nat.le_of_ble_eq_true rfl⟩) hS (fun q _ h => hFc q h) hFc (fun r9 u t H1 locs ht hvm hw hB hz1 hk1 hS => ?_)
  obtain rfl := hw.symm
  obtain ⟨hP1, hK1, hD1⟩ := hB
  rw [ht] at hP1
  have hK1 := va_K.moved hvm.symm hK1
  obtain ⟨hP, hD⟩ := va_join (wr := []) (w1 := [(h0, .inr (16, [v0, v1, v2, v3, v4, v5, v6, v7, v8, v9, v10, v11, v12, v13, .int 0, v14]))]) hP hD [0] [] rfl rfl (by decide) (by decide) hk1 hFc hP1 hD1
  have hK := (hK.sub (tys' := []) [] rfl).app hK1
  generalize H1 = H at hP hS ⊢
  have hP : va_P (dC, dI) vwCl [(h0, .inr (16, [v0, v1, v2, v3, v4, v5, v6, v7, v8, v9, v10, v11, v12, v13, .int 0, v14]))] H := hP
  have hD : va_D A [(h0, .inr (16, [v0, v1, v2, v3, v4, v5, v6, v7, v8, v9, v10, v11, v12, v13, .int 0, v14]))] := hD
  have hK : va_K (dC, dI) vwCl [] s := hK
  refine W.widen (k := 0) (n := 0) (Nat.le_of_ble_eq_true rfl) (Nat.le_of_ble_eq_true rfl) ?_
  have hP9 := hP.sub (ws' := [(h0, .inr (16, [v0, v1, v2, v3, v4, v5, v6, v7, v8, v9, v10, v11, v12, v13, .int 0, v14]))]) [0] rfl
  have hD9 := hD.sub (ws' := [(h0, .inr (16, [v0, v1, v2, v3, v4, v5, v6, v7, v8, v9, v10, v11, v12, v13, .int 0, v14]))]) [0] (by decide) rfl
  have hK9 := hK.sub (tys' := []) [] rfl
  refine W.widen (k := 0) (n := 0) (Nat.le_of_ble_eq_true rfl) (Nat.le_of_ble_eq_true rfl) ?_
  exact W.iret (v := 0) hx hb hr (fun t ht hW => ⟨⟨_, (), rfl, rfl, by rw [ht]; exact hP9, va_K.moved hW.alike hK9, hD9⟩, hS.F ht⟩) hS.2.2 dX9_house_25
set_option maxHeartbeats 4000000 in
set_option maxRecDepth 100000 in
theorem kJ5_inflateIfNeededFor_a7421 (l : Launch) (dC : Nat → ClassId) (dI : Nat → Nat → Nat) (g : Nat → Nat) (sz : Nat) (h0 : Nat) (v0 : Value) (v1 : Value) (v2 : Value) : Met l yJ5_inflateIfNeededFor_a7421 wbJ5_inflateIfNeededFor_a7421 ({ frames := 1, cells := 0, slots := 0, locals := 20 }) (va_Pc [.ref h0, .ref (g 34)] (fun U => U.heap.size = sz ∧ va_P (dC, dI) vwCl [(h0, .inr (1, [v0, .int 0, v1, v2]))] U.heap ∧ va_K (dC, dI) vwCl [] U ∧ va_D (fun _ => True) [(h0, .inr (1, [v0, .int 0, v1, v2]))] ∧ ns_F g (va_A [(h0, .inr (1, [v0, .int 0, v1, v2]))] sz) U U.heap)) (va_Qv (fun _ : Unit => True) (fun _ t => va_P (dC, dI) vwCl [(h0, .inr (1, [v0, .int 0, v1, v2]))] t.heap ∧ va_K (dC, dI) vwCl [] t ∧ va_D (va_A [(h0, .inr (1, [v0, .int 0, v1, v2]))] sz) [(h0, .inr (1, [v0, .int 0, v1, v2]))]) (va_A [(h0, .inr (1, [v0, .int 0, v1, v2]))] sz)) 0 0 (va_A [(h0, .inr (1, [v0, .int 0, v1, v2]))] sz) := by
  refine Met.ofW (cc := cJ5_inflateIfNeededFor_a7421) (maxL := 2) (ret := none) (by decide) rfl ?_
  intro p e s m args below meth c s₁ B hml hv
  obtain ⟨rfl, hsz, hP, hK, hD0, hF⟩ := hv
  have hx := B.exec
  have hb := B.bytes
  have hr := B.returns
  have hts := atoms_spec (ws := wbJ5_inflateIfNeededFor_a7421) B.pre
  have hta : ∀ w ∈ wsALL, w.before _ s = true := fun w h => hts w (List.mem_cons_of_mem _ h)
  have hown : s.vm.findClass RJ5 = some m.cls := findClass_of_methodNamed B.named
  have hlocks := B.notSynchronized
  subst hsz
  have hD := hD0.self (sz := s.heap.size)
  generalize hAe : va_A [(h0, .inr (1, [v0, .int 0, v1, v2]))] s.heap.size = A at hD hF ⊢
  have hA : ∀ q : Nat, s.heap.size ≤ q → A q := fun q h => by rw [← hAe]; exact Or.inr h
  have hS : va_S A s.heap s.heap [] := va_S.rf
  have hP : va_P (dC, dI) vwCl [(h0, .inr (1, [v0, .int 0, v1, v2]))] s.heap := hP
  have hl := lv_entry ([.ref h0, .ref (g 34)]) (n := 2) (Nat.le_of_ble_eq_true rfl)
  rw [lg_entry_eq]
  generalize (lg_sl ([.ref h0, .ref (g 34)]) ++ List.replicate (2 - (lg_sl ([.ref h0, .ref (g 34)])).length) Slot.unset).toArray = ls at hl ⊢
  have hl : lv_has ls 2 [(0, .ref h0), (1, .ref (g 34))] := hl
  refine va_gets hx hb (ns_f15 hF) hS hown (hta _ wm139) (fun _ h9 => h9) dJ5_inflateIfNeededFor_a7421_0 ?_
  refine lv_if_eq (tgt := 21) hx hb dJ5_inflateIfNeededFor_a7421_3 (by decide) (fun c1 => absurd c1 (by decide)) (fun c1 => ?_)
  refine lv_aload_n hx hb dJ5_inflateIfNeededFor_a7421_6 rfl (lv_at hl 0 rfl) ?_
  refine va_get (D := (dC, dI)) (ci := 1) (v := .int 0) (C := RJ4) (T := TJ4) (N := 4) hx hb hta naJ4 hown hK hP 0 rfl rfl 1 (by decide) (hta _ wm142) (fun _ h9 => h9) rfl dJ5_inflateIfNeededFor_a7421_7 ?_
  refine lv_aload_n hx hb dJ5_inflateIfNeededFor_a7421_10 rfl (lv_at hl 1 rfl) ?_
  have hPc := hP.sub (ws' := []) [] rfl
  have hDc := hD.sub (ws' := []) [] (by decide) rfl
  have hKc := hK.sub (tys' := []) [] rfl
  have hFc := va_free (wc := []) hD hS hA [] rfl
  refine va_calli (va_runV (As := []) (rest := [.int 0]) ⟨hx, hb, hml, hown, hts⟩ (kJ0_coder_7d493_2 l dC dI g s.heap.size  ) (cwV 0 hts (ns_gp (List.forall_mem_cons.mpr ⟨wm605, (List.forall_mem_cons.mpr ⟨wm572, (List.forall_mem_cons.mpr ⟨wm573, (List.forall_mem_cons.mpr ⟨wm316, (fun _ h9 => nomatch h9)⟩)⟩)⟩)⟩) wm570) rfl rfl rfl (by decide +kernel) ⟨Nat.le_of_ble_eq_true rfl, Nat.le_of_ble_eq_true rfl⟩) ⟨fun a U gg mk q => by obtain ⟨q0, q1, qP, qK, qD, qF⟩ := q; exact ⟨q0, q1, qP, va_K.moved (u := U) (U := U.calling gg mk a) (Vm.Alike.refl U.vm) qK, qD, ns_same qF⟩, va_Orecv (ns_f38 hF) hS, fun U hU hW => ⟨rfl, by rw [hU], by rw [hU]; exact hPc, va_K.moved hW.alike hKc, hDc.weaken (fun _ _ _ _ => trivial), ns_call hF hS hFc hU hW⟩⟩ rfl rfl hl.1 rfl (lv_room (Nat.le_of_ble_eq_true rfl)) dJ5_inflateIfNeededFor_a7421_11 ⟨Nat.le_of_ble_eq_true rfl, Nat.le_of_ble_eq_true rfl⟩) hS (fun q _ h => hFc q h) hFc (fun r9 u t H1 locs ht hvm hw hB hz1 hk1 hS => ?_)
  obtain rfl := hw.symm
  obtain ⟨hP1, hK1, hD1⟩ := hB
  rw [ht] at hP1
  have hK1 := va_K.moved hvm.symm hK1
  obtain ⟨hP, hD⟩ := va_join (wr := [(h0, .inr (1, [v0, .int 0, v1, v2]))]) (w1 := []) hP hD [] [0] rfl rfl (by decide) (by decide) hk1 hFc hP1 hD1
  have hK := (hK.sub (tys' := []) [] rfl).app hK1
  generalize H1 = H at hP hS ⊢
  have hP : va_P (dC, dI) vwCl [(h0, .inr (1, [v0, .int 0, v1, v2]))] H := hP
  have hD : va_D A [(h0, .inr (1, [v0, .int 0, v1, v2]))] := hD
  have hK : va_K (dC, dI) vwCl [] s := hK
  refine W.widen (k := 0) (n := 0) (Nat.le_of_ble_eq_true rfl) (Nat.le_of_ble_eq_true rfl) ?_
  refine lv_icmp_eq (tgt := 21) hx hb dJ5_inflateIfNeededFor_a7421_14 (by decide) (fun c2 => ?_) (fun c2 => absurd (by decide) c2)
  have hP9 := hP.sub (ws' := [(h0, .inr (1, [v0, .int 0, v1, v2]))]) [0] rfl
  have hD9 := hD.sub (ws' := [(h0, .inr (1, [v0, .int 0, v1, v2]))]) [0] (by decide) rfl
  have hK9 := hK.sub (tys' := []) [] rfl
  refine W.widen (k := 0) (n := 0) (Nat.le_of_ble_eq_true rfl) (Nat.le_of_ble_eq_true rfl) ?_
  exact W.vret hx hb hr (fun t ht hW => ⟨⟨(), rfl, trivial, by rw [ht]; exact hP9, va_K.moved hW.alike hK9, hD9⟩, hS.F ht⟩) hS.2.2 dJ5_inflateIfNeededFor_a7421_21
set_option maxHeartbeats 4000000 in
set_option maxRecDepth 100000 in
theorem kJ4_length_8abf5_9 (l : Launch) (dC : Nat → ClassId) (dI : Nat → Nat → Nat) (g : Nat → Nat) (sz : Nat) (h0 : Nat) (v0 : Value) (v1 : Value) (v2 : Value) : Met l yJ4_length_8abf5 wbJ4_length_8abf5 ({ frames := 1, cells := 0, slots := 0, locals := 20 }) (va_Pc [.ref h0] (fun U => U.heap.size = sz ∧ va_P (dC, dI) vwCl [(h0, .inr (1, [v0, v1, v2, .int 9]))] U.heap ∧ va_K (dC, dI) vwCl [] U ∧ va_D (fun _ => True) [(h0, .inr (1, [v0, v1, v2, .int 9]))] ∧ ns_F g (va_A [(h0, .inr (1, [v0, v1, v2, .int 9]))] sz) U U.heap)) (va_Qi (fun (r : Int32) (_ : Unit) => r = 9) (fun _ t => va_P (dC, dI) vwCl [(h0, .inr (1, [v0, v1, v2, .int 9]))] t.heap ∧ va_K (dC, dI) vwCl [] t ∧ va_D (va_A [(h0, .inr (1, [v0, v1, v2, .int 9]))] sz) [(h0, .inr (1, [v0, v1, v2, .int 9]))]) (va_A [(h0, .inr (1, [v0, v1, v2, .int 9]))] sz)) 0 0 (va_A [(h0, .inr (1, [v0, v1, v2, .int 9]))] sz) := by
  refine Met.ofW (cc := cJ4_length_8abf5) (maxL := 1) (ret := (some .int)) (by decide) rfl ?_
  intro p e s m args below meth c s₁ B hml hv
  obtain ⟨rfl, hsz, hP, hK, hD0, hF⟩ := hv
  have hx := B.exec
  have hb := B.bytes
  have hr := B.returns
  have hts := atoms_spec (ws := wbJ4_length_8abf5) B.pre
  have hta : ∀ w ∈ wsALL, w.before _ s = true := fun w h => hts w (List.mem_cons_of_mem _ h)
  have hown : s.vm.findClass RJ4 = some m.cls := findClass_of_methodNamed B.named
  have hlocks := B.notSynchronized
  subst hsz
  have hD := hD0.self (sz := s.heap.size)
  generalize hAe : va_A [(h0, .inr (1, [v0, v1, v2, .int 9]))] s.heap.size = A at hD hF ⊢
  have hA : ∀ q : Nat, s.heap.size ≤ q → A q := fun q h => by rw [← hAe]; exact Or.inr h
  have hS : va_S A s.heap s.heap [] := va_S.rf
  have hP : va_P (dC, dI) vwCl [(h0, .inr (1, [v0, v1, v2, .int 9]))] s.heap := hP
  have hl := lv_entry ([.ref h0]) (n := 1) (Nat.le_of_ble_eq_true rfl)
  rw [lg_entry_eq]
  generalize (lg_sl ([.ref h0]) ++ List.replicate (1 - (lg_sl ([.ref h0])).length) Slot.unset).toArray = ls at hl ⊢
  have hl : lv_has ls 1 [(0, .ref h0)] := hl
  refine lv_aload_n hx hb dJ4_length_8abf5_0 rfl (lv_at hl 0 rfl) ?_
  have hPc := hP.sub (ws' := [(h0, .inr (1, [v0, v1, v2, .int 9]))]) [0] rfl
  have hDc := hD.sub (ws' := [(h0, .inr (1, [v0, v1, v2, .int 9]))]) [0] (by decide) rfl
  have hKc := hK.sub (tys' := []) [] rfl
  have hFc := va_free (wc := [(h0, .inr (1, [v0, v1, v2, .int 9]))]) hD hS hA [0] rfl
  refine va_calli (va_runSU (hK.1 1 _ rfl).2 (As := []) (rest := []) ⟨hx, hb, hml, hown, hts⟩ (kJ5_length_8abf5_9 l dC dI g s.heap.size h0 v0 v1 v2 ) (va_cwSU 0 hts (ns_gp (List.forall_mem_cons.mpr ⟨wm320, (List.forall_mem_cons.mpr ⟨wm321, (List.forall_mem_cons.mpr ⟨wm308, (List.forall_mem_cons.mpr ⟨wm322, (List.forall_mem_cons.mpr ⟨wm144, (fun _ h9 => nomatch h9)⟩)⟩)⟩)⟩)⟩) wm319) rfl rfl rfl (by decide +kernel) ⟨Nat.le_of_ble_eq_true rfl, Nat.le_of_ble_eq_true rfl⟩) ⟨fun a U gg mk q => by obtain ⟨q0, q1, qP, qK, qD, qF⟩ := q; exact ⟨q0, q1, qP, va_K.moved (u := U) (U := U.calling gg mk a) (Vm.Alike.refl U.vm) qK, qD, ns_same qF⟩, va_recv hK hP (ci := 1) (q0 := 0) rfl rfl, fun U hU hW => ⟨rfl, by rw [hU], by rw [hU]; exact hPc, va_K.moved hW.alike hKc, hDc.weaken (fun _ _ _ _ => trivial), ns_call hF hS hFc hU hW⟩⟩ rfl rfl hl.1 rfl (lv_room (Nat.le_of_ble_eq_true rfl)) dJ4_length_8abf5_1 ⟨Nat.le_of_ble_eq_true rfl, Nat.le_of_ble_eq_true rfl⟩) hS (fun q _ h => hFc q h) hFc (fun r9 u t H1 locs ht hvm hw hB hz1 hk1 hS => ?_)
  obtain rfl := hw.symm
  obtain ⟨hP1, hK1, hD1⟩ := hB
  rw [ht] at hP1
  have hK1 := va_K.moved hvm.symm hK1
  obtain ⟨hP, hD⟩ := va_join (wr := []) (w1 := [(h0, .inr (1, [v0, v1, v2, .int 9]))]) hP hD [0] [] rfl rfl (by decide) (by decide) hk1 hFc hP1 hD1
  have hK := (hK.sub (tys' := []) [] rfl).app hK1
  generalize H1 = H at hP hS ⊢
  have hP : va_P (dC, dI) vwCl [(h0, .inr (1, [v0, v1, v2, .int 9]))] H := hP
  have hD : va_D A [(h0, .inr (1, [v0, v1, v2, .int 9]))] := hD
  have hK : va_K (dC, dI) vwCl [] s := hK
  refine W.widen (k := 0) (n := 0) (Nat.le_of_ble_eq_true rfl) (Nat.le_of_ble_eq_true rfl) ?_
  have hP9 := hP.sub (ws' := [(h0, .inr (1, [v0, v1, v2, .int 9]))]) [0] rfl
  have hD9 := hD.sub (ws' := [(h0, .inr (1, [v0, v1, v2, .int 9]))]) [0] (by decide) rfl
  have hK9 := hK.sub (tys' := []) [] rfl
  refine W.widen (k := 0) (n := 0) (Nat.le_of_ble_eq_true rfl) (Nat.le_of_ble_eq_true rfl) ?_
  exact W.iret (v := 9) hx hb hr (fun t ht hW => ⟨⟨_, (), rfl, rfl, by rw [ht]; exact hP9, va_K.moved hW.alike hK9, hD9⟩, hS.F ht⟩) hS.2.2 dJ4_length_8abf5_4
