
set_option maxHeartbeats 4000000 in
set_option maxRecDepth 100000 in
theorem kX2_init (l : Launch) (dC : Nat → ClassId) (dI : Nat → Nat → Nat) (g : Nat → Nat) (sz : Nat) (h0 : Nat) (h1 : Nat) (v0 : Value) (v1 : Value) (v2 : Value) (v3 : Value) (v4 : Value) (v5 : Value) (v6 : Value) (v7 : Value) (v8 : Value) (v9 : Value) (v10 : Value) (v11 : Value) (v12 : Value) (v13 : Value) (v14 : Value) (v15 : Value) (v16 : Value) (v17 : Value) : Met l yX2_init wbX2_init ({ frames := 3, cells := 38, slots := 32153, locals := 54 }) (va_Pc [.ref h0, .ref h1] (fun U => U.heap.size = sz ∧ va_P (dC, dI) vwCl [(h0, .inr (9, [v0, v1, v2, v3, v4, v5, v6, v7, v8, v9, v10, v11, v12, v13, v14, v15, v16, v17]))] U.heap ∧ va_K (dC, dI) vwCl [] U ∧ va_D (fun _ => True) [(h0, .inr (9, [v0, v1, v2, v3, v4, v5, v6, v7, v8, v9, v10, v11, v12, v13, v14, v15, v16, v17]))] ∧ ns_F g (va_A [(h0, .inr (9, [v0, v1, v2, v3, v4, v5, v6, v7, v8, v9, v10, v11, v12, v13, v14, v15, v16, v17]))] sz) U U.heap)) (va_Qv (fun _ : Unit => True) (fun _ t => va_P (dC, dI) vwCl [] t.heap ∧ va_K (dC, dI) vwCl [] t ∧ va_D (va_A [(h0, .inr (9, [v0, v1, v2, v3, v4, v5, v6, v7, v8, v9, v10, v11, v12, v13, v14, v15, v16, v17]))] sz) []) (va_A [(h0, .inr (9, [v0, v1, v2, v3, v4, v5, v6, v7, v8, v9, v10, v11, v12, v13, v14, v15, v16, v17]))] sz)) 38 32153 (va_A [(h0, .inr (9, [v0, v1, v2, v3, v4, v5, v6, v7, v8, v9, v10, v11, v12, v13, v14, v15, v16, v17]))] sz) := by
  refine Met.ofW (cc := cX2_init) (maxL := 2) (ret := none) (by decide) rfl ?_
  intro p e s m args below meth c s₁ B hml hv
  obtain ⟨rfl, hsz, hP, hK, hD0, hF⟩ := hv
  have hx := B.exec
  have hb := B.bytes
  have hr := B.returns
  have hts := atoms_spec (ws := wbX2_init) B.pre
  have hta : ∀ w ∈ wsALL, w.before _ s = true := fun w h => hts w (List.mem_cons_of_mem _ h)
  have hown : s.vm.findClass RX2 = some m.cls := findClass_of_methodNamed B.named
  have hlocks := B.notSynchronized
  have hin : meth.name = "<init>" := (name_of_methodNamed B.named B.method).1
  subst hsz
  have hD := hD0.self (sz := s.heap.size)
  generalize hAe : va_A [(h0, .inr (9, [v0, v1, v2, v3, v4, v5, v6, v7, v8, v9, v10, v11, v12, v13, v14, v15, v16, v17]))] s.heap.size = A at hD hF ⊢
  have hA : ∀ q : Nat, s.heap.size ≤ q → A q := fun q h => by rw [← hAe]; exact Or.inr h
  have hS : va_S A s.heap s.heap [] := va_S.rf
  have hP : va_P (dC, dI) vwCl [(h0, .inr (9, [v0, v1, v2, v3, v4, v5, v6, v7, v8, v9, v10, v11, v12, v13, v14, v15, v16, v17]))] s.heap := hP
  have hl := lv_entry ([.ref h0, .ref h1]) (n := 2) (Nat.le_of_ble_eq_true rfl)
  rw [lg_entry_eq]
  generalize (lg_sl ([.ref h0, .ref h1]) ++ List.replicate (2 - (lg_sl ([.ref h0, .ref h1])).length) Slot.unset).toArray = ls at hl ⊢
  have hl : lv_has ls 2 [(0, .ref h0), (1, .ref h1)] := hl
  refine lv_aload_n hx hb dX2_init_0 rfl (lv_at hl 0 rfl) ?_
  refine W.objInit hx hb hown (hta _ wm68) (hta _ wm4) (hta _ wm5) rfl (by rw [hml]; exact hl.1) rfl dX2_init_1 (Nat.le_of_ble_eq_true rfl) (Nat.le_of_ble_eq_true rfl) ?_
  refine W.eq (g2 := F0 m 4 ls []) rfl ?_
  refine lv_aload_n hx hb dX2_init_4 rfl (lv_at hl 0 rfl) ?_
  refine va_new (ci := 15) (fs := [.null, .null, .int 0]) (C := RX8) (T := TX8) (N := 3) hx hb hta naX8 tyX8 tyX8_ok hown (hta _ wm69) (hta _ wm70) (hta _ wm71) hK hP hD hS hA rfl (fun j hj => by rcases (show j = 0 ∨ j = 1 ∨ j = 2 by omega) with rfl | rfl | rfl <;> rfl) (Nat.le_of_ble_eq_true rfl) (Nat.le_of_ble_eq_true rfl) dX2_init_5 (fun q1 H hP hD hS => ?_)
  have hP : va_P (dC, dI) vwCl [(h0, .inr (9, [v0, v1, v2, v3, v4, v5, v6, v7, v8, v9, v10, v11, v12, v13, v14, v15, v16, v17])), (q1, .inr (15, [.null, .null, .int 0]))] H := hP
  have hD : va_D A [(h0, .inr (9, [v0, v1, v2, v3, v4, v5, v6, v7, v8, v9, v10, v11, v12, v13, v14, v15, v16, v17])), (q1, .inr (15, [.null, .null, .int 0]))] := hD
  refine W.widen (k := 1) (n := 3) (Nat.le_of_ble_eq_true rfl) (Nat.le_of_ble_eq_true rfl) ?_
  refine lv_dup hx hb dX2_init_8 rfl ?_
  have hPc := hP.sub (ws' := [(q1, .inr (15, [.null, .null, .int 0]))]) [1] rfl
  have hDc := hD.sub (ws' := [(q1, .inr (15, [.null, .null, .int 0]))]) [1] (by decide) rfl
  have hKc := hK.sub (tys' := []) [] rfl
  have hFc := va_free (wc := [(q1, .inr (15, [.null, .null, .int 0]))]) hD hS hA [1] rfl
  refine va_callv (va_runIN (As := []) (rest := [.ref q1, .ref h0]) ⟨hx, hb, hml, hown, hts⟩ (kX8_init l dC dI g H.size q1 .null .null (.int 0) ) ⟨va_cnB 0 hts (ns_g0 wm78) rfl rfl rfl (ns_f4 hF) (hta _ wm71) (by decide +kernel) ⟨Nat.le_of_ble_eq_true rfl, Nat.le_of_ble_eq_true rfl⟩, rfl, (hta _ wm115)⟩ ⟨fun a U gg mk q => by obtain ⟨q0, q1, qP, qK, qD, qF⟩ := q; exact ⟨q0, q1, qP, va_K.moved (u := U) (U := U.calling gg mk a) (Vm.Alike.refl U.vm) qK, qD, ns_same qF⟩, fun U hU hW => ⟨rfl, by rw [hU], by rw [hU]; exact hPc, va_K.moved hW.alike hKc, hDc.weaken (fun _ _ _ _ => trivial), ns_call hF hS hFc hU hW⟩⟩ rfl rfl hl.1 rfl (lv_room (Nat.le_of_ble_eq_true rfl)) dX2_init_9 ⟨Nat.le_of_ble_eq_true rfl, Nat.le_of_ble_eq_true rfl⟩) hS (fun q _ h => hFc q h) hFc (fun u t H1 locs ht hvm hw hB hz1 hk1 hS => ?_)
  obtain ⟨hP1, hK1, hD1⟩ := hB
  rw [ht] at hP1
  have hK1 := va_K.moved hvm.symm hK1
  obtain ⟨hP, hD⟩ := va_join (wr := [(h0, .inr (9, [v0, v1, v2, v3, v4, v5, v6, v7, v8, v9, v10, v11, v12, v13, v14, v15, v16, v17]))]) (w1 := []) hP hD [1] [0] rfl rfl (by decide) (by decide) hk1 hFc hP1 hD1
  have hK := (hK.sub (tys' := []) [] rfl).app hK1
  generalize H1 = H at hP hS ⊢
  have hP : va_P (dC, dI) vwCl [(h0, .inr (9, [v0, v1, v2, v3, v4, v5, v6, v7, v8, v9, v10, v11, v12, v13, v14, v15, v16, v17]))] H := hP
  have hD : va_D A [(h0, .inr (9, [v0, v1, v2, v3, v4, v5, v6, v7, v8, v9, v10, v11, v12, v13, v14, v15, v16, v17]))] := hD
  have hK : va_K (dC, dI) vwCl [] s := hK
  refine W.widen (k := 5) (n := 607) (Nat.le_of_ble_eq_true rfl) (Nat.le_of_ble_eq_true rfl) ?_
  refine va_putF (D := (dC, dI)) (ci := 9) (v := .ref q1) (ty := .object "Nestprint$Wishes") (C := RX2) (T := TX2) (N := 18) hx hb hta naX2 tyX2 tyX2_ok nmX2 hown hK hP hD hS 0 rfl rfl 1 (by decide) (hta _ wm79) (fun _ h9 => h9) rfl hin rfl (by decide +kernel) rfl rfl (Nat.le_of_ble_eq_true rfl) dX2_init_12 (fun H locs hP hD hS => ?_)
  have hP : va_P (dC, dI) vwCl [(h0, .inr (9, [v0, .ref q1, v2, v3, v4, v5, v6, v7, v8, v9, v10, v11, v12, v13, v14, v15, v16, v17]))] H := hP
  have hD : va_D A [(h0, .inr (9, [v0, .ref q1, v2, v3, v4, v5, v6, v7, v8, v9, v10, v11, v12, v13, v14, v15, v16, v17]))] := hD
  refine lv_aload_n hx hb dX2_init_15 rfl (lv_at hl 0 rfl) ?_
  refine va_new (ci := 11) (fs := [.null, .int 0]) (C := RX4) (T := TX4) (N := 2) hx hb hta naX4 tyX4 tyX4_ok hown (hta _ wm80) (hta _ wm11) (hta _ wm12) hK hP hD hS hA rfl (fun j hj => by rcases (show j = 0 ∨ j = 1 by omega) with rfl | rfl <;> rfl) (Nat.le_of_ble_eq_true rfl) (Nat.le_of_ble_eq_true rfl) dX2_init_16 (fun q2 H hP hD hS => ?_)
  have hP : va_P (dC, dI) vwCl [(h0, .inr (9, [v0, .ref q1, v2, v3, v4, v5, v6, v7, v8, v9, v10, v11, v12, v13, v14, v15, v16, v17])), (q2, .inr (11, [.null, .int 0]))] H := hP
  have hD : va_D A [(h0, .inr (9, [v0, .ref q1, v2, v3, v4, v5, v6, v7, v8, v9, v10, v11, v12, v13, v14, v15, v16, v17])), (q2, .inr (11, [.null, .int 0]))] := hD
  refine W.widen (k := 6) (n := 609) (Nat.le_of_ble_eq_true rfl) (Nat.le_of_ble_eq_true rfl) ?_
  refine lv_dup hx hb dX2_init_19 rfl ?_
  refine lv_sipush (v := 2500) hx hb dX2_init_20 (by decide) ?_
  have hPc := hP.sub (ws' := [(q2, .inr (11, [.null, .int 0]))]) [1] rfl
  have hDc := hD.sub (ws' := [(q2, .inr (11, [.null, .int 0]))]) [1] (by decide) rfl
  have hKc := hK.sub (tys' := []) [] rfl
  have hFc := va_free (wc := [(q2, .inr (11, [.null, .int 0]))]) hD hS hA [1] rfl
  refine va_callv (va_runI (As := [.int 2500]) (rest := [.ref q2, .ref h0]) ⟨hx, hb, hml, hown, hts⟩ (kX4_init_8 l dC dI g H.size q2 .null (.int 0) ) (cwI 1 hts (ns_g0 wm17) rfl rfl rfl (hta _ wm12) (hta _ wm116) (hta _ wm28) rfl (by decide +kernel) ⟨Nat.le_of_ble_eq_true rfl, Nat.le_of_ble_eq_true rfl⟩) ⟨fun a U gg mk q => by obtain ⟨q0, q1, qP, qK, qD, qF⟩ := q; exact ⟨q0, q1, qP, va_K.moved (u := U) (U := U.calling gg mk a) (Vm.Alike.refl U.vm) qK, qD, ns_same qF⟩, fun U hU hW => ⟨rfl, by rw [hU], by rw [hU]; exact hPc, va_K.moved hW.alike hKc, hDc.weaken (fun _ _ _ _ => trivial), ns_call hF hS hFc hU hW⟩⟩ rfl rfl hl.1 rfl (lv_room (Nat.le_of_ble_eq_true rfl)) dX2_init_23 ⟨Nat.le_of_ble_eq_true rfl, Nat.le_of_ble_eq_true rfl⟩) hS (fun q _ h => hFc q h) hFc (fun u t H1 locs ht hvm hw hB hz1 hk1 hS => ?_)
  obtain ⟨q3, cy4, hP1, hK1, hD1⟩ := hB
  rw [ht] at hP1
  have hK1 := va_K.moved hvm.symm hK1
  obtain ⟨hP, hD⟩ := va_join (wr := [(h0, .inr (9, [v0, .ref q1, v2, v3, v4, v5, v6, v7, v8, v9, v10, v11, v12, v13, v14, v15, v16, v17]))]) (w1 := [(q2, .inr (11, [.ref q3, .int 0])), (q3, .inl (cy4, 2500, .inl (fun _ => 0)))]) hP hD [1] [0] rfl rfl (by decide) (by decide) hk1 hFc hP1 hD1
  have hK := (hK.sub (tys' := []) [] rfl).app hK1
  generalize H1 = H at hP hS ⊢
  have hP : va_P (dC, dI) vwCl [(h0, .inr (9, [v0, .ref q1, v2, v3, v4, v5, v6, v7, v8, v9, v10, v11, v12, v13, v14, v15, v16, v17])), (q2, .inr (11, [.ref q3, .int 0])), (q3, .inl (cy4, 2500, .inl (fun _ => 0)))] H := hP
  have hD : va_D A [(h0, .inr (9, [v0, .ref q1, v2, v3, v4, v5, v6, v7, v8, v9, v10, v11, v12, v13, v14, v15, v16, v17])), (q2, .inr (11, [.ref q3, .int 0])), (q3, .inl (cy4, 2500, .inl (fun _ => 0)))] := hD
  have hK : va_K (dC, dI) vwCl [(cy4, .int)] s := hK
  refine W.widen (k := 7) (n := 3109) (Nat.le_of_ble_eq_true rfl) (Nat.le_of_ble_eq_true rfl) ?_
  refine va_putF (D := (dC, dI)) (ci := 9) (v := .ref q2) (ty := .object "Nestprint$Row") (C := RX2) (T := TX2) (N := 18) hx hb hta naX2 tyX2 tyX2_ok nmX2 hown hK hP hD hS 0 rfl rfl 2 (by decide) (hta _ wm81) (fun _ h9 => h9) rfl hin rfl (by decide +kernel) rfl rfl (Nat.le_of_ble_eq_true rfl) dX2_init_26 (fun H locs hP hD hS => ?_)
  have hP : va_P (dC, dI) vwCl [(h0, .inr (9, [v0, .ref q1, .ref q2, v3, v4, v5, v6, v7, v8, v9, v10, v11, v12, v13, v14, v15, v16, v17])), (q2, .inr (11, [.ref q3, .int 0])), (q3, .inl (cy4, 2500, .inl (fun _ => 0)))] H := hP
  have hD : va_D A [(h0, .inr (9, [v0, .ref q1, .ref q2, v3, v4, v5, v6, v7, v8, v9, v10, v11, v12, v13, v14, v15, v16, v17])), (q2, .inr (11, [.ref q3, .int 0])), (q3, .inl (cy4, 2500, .inl (fun _ => 0)))] := hD
  refine lv_aload_n hx hb dX2_init_29 rfl (lv_at hl 0 rfl) ?_
  refine va_new (ci := 11) (fs := [.null, .int 0]) (C := RX4) (T := TX4) (N := 2) hx hb hta naX4 tyX4 tyX4_ok hown (hta _ wm80) (hta _ wm11) (hta _ wm12) hK hP hD hS hA rfl (fun j hj => by rcases (show j = 0 ∨ j = 1 by omega) with rfl | rfl <;> rfl) (Nat.le_of_ble_eq_true rfl) (Nat.le_of_ble_eq_true rfl) dX2_init_30 (fun q5 H hP hD hS => ?_)
  have hP : va_P (dC, dI) vwCl [(h0, .inr (9, [v0, .ref q1, .ref q2, v3, v4, v5, v6, v7, v8, v9, v10, v11, v12, v13, v14, v15, v16, v17])), (q2, .inr (11, [.ref q3, .int 0])), (q3, .inl (cy4, 2500, .inl (fun _ => 0))), (q5, .inr (11, [.null, .int 0]))] H := hP
  have hD : va_D A [(h0, .inr (9, [v0, .ref q1, .ref q2, v3, v4, v5, v6, v7, v8, v9, v10, v11, v12, v13, v14, v15, v16, v17])), (q2, .inr (11, [.ref q3, .int 0])), (q3, .inl (cy4, 2500, .inl (fun _ => 0))), (q5, .inr (11, [.null, .int 0]))] := hD
  refine W.widen (k := 8) (n := 3111) (Nat.le_of_ble_eq_true rfl) (Nat.le_of_ble_eq_true rfl) ?_
  refine lv_dup hx hb dX2_init_33 rfl ?_
  refine lv_sipush (v := 2500) hx hb dX2_init_34 (by decide) ?_
  have hPc := hP.sub (ws' := [(q5, .inr (11, [.null, .int 0]))]) [3] rfl
  have hDc := hD.sub (ws' := [(q5, .inr (11, [.null, .int 0]))]) [3] (by decide) rfl
  have hKc := hK.sub (tys' := []) [] rfl
  have hFc := va_free (wc := [(q5, .inr (11, [.null, .int 0]))]) hD hS hA [3] rfl
  refine va_callv (va_runI (As := [.int 2500]) (rest := [.ref q5, .ref h0]) ⟨hx, hb, hml, hown, hts⟩ (kX4_init_8 l dC dI g H.size q5 .null (.int 0) ) (cwI 1 hts (ns_g0 wm17) rfl rfl rfl (hta _ wm12) (hta _ wm116) (hta _ wm28) rfl (by decide +kernel) ⟨Nat.le_of_ble_eq_true rfl, Nat.le_of_ble_eq_true rfl⟩) ⟨fun a U gg mk q => by obtain ⟨q0, q1, qP, qK, qD, qF⟩ := q; exact ⟨q0, q1, qP, va_K.moved (u := U) (U := U.calling gg mk a) (Vm.Alike.refl U.vm) qK, qD, ns_same qF⟩, fun U hU hW => ⟨rfl, by rw [hU], by rw [hU]; exact hPc, va_K.moved hW.alike hKc, hDc.weaken (fun _ _ _ _ => trivial), ns_call hF hS hFc hU hW⟩⟩ rfl rfl hl.1 rfl (lv_room (Nat.le_of_ble_eq_true rfl)) dX2_init_37 ⟨Nat.le_of_ble_eq_true rfl, Nat.le_of_ble_eq_true rfl⟩) hS (fun q _ h => hFc q h) hFc (fun u t H1 locs ht hvm hw hB hz1 hk1 hS => ?_)
  obtain ⟨q6, cy7, hP1, hK1, hD1⟩ := hB
  rw [ht] at hP1
  have hK1 := va_K.moved hvm.symm hK1
  obtain ⟨hP, hD⟩ := va_join (wr := [(h0, .inr (9, [v0, .ref q1, .ref q2, v3, v4, v5, v6, v7, v8, v9, v10, v11, v12, v13, v14, v15, v16, v17])), (q2, .inr (11, [.ref q3, .int 0])), (q3, .inl (cy4, 2500, .inl (fun _ => 0)))]) (w1 := [(q5, .inr (11, [.ref q6, .int 0])), (q6, .inl (cy7, 2500, .inl (fun _ => 0)))]) hP hD [3] [0, 1, 2] rfl rfl (by decide) (by decide) hk1 hFc hP1 hD1
  have hK := (hK.sub (tys' := [(cy4, .int)]) [0] rfl).app hK1
  generalize H1 = H at hP hS ⊢
  have hP : va_P (dC, dI) vwCl [(h0, .inr (9, [v0, .ref q1, .ref q2, v3, v4, v5, v6, v7, v8, v9, v10, v11, v12, v13, v14, v15, v16, v17])), (q2, .inr (11, [.ref q3, .int 0])), (q3, .inl (cy4, 2500, .inl (fun _ => 0))), (q5, .inr (11, [.ref q6, .int 0])), (q6, .inl (cy7, 2500, .inl (fun _ => 0)))] H := hP
  have hD : va_D A [(h0, .inr (9, [v0, .ref q1, .ref q2, v3, v4, v5, v6, v7, v8, v9, v10, v11, v12, v13, v14, v15, v16, v17])), (q2, .inr (11, [.ref q3, .int 0])), (q3, .inl (cy4, 2500, .inl (fun _ => 0))), (q5, .inr (11, [.ref q6, .int 0])), (q6, .inl (cy7, 2500, .inl (fun _ => 0)))] := hD
  have hK : va_K (dC, dI) vwCl [(cy4, .int), (cy7, .int)] s := hK
  refine W.widen (k := 9) (n := 5611) (Nat.le_of_ble_eq_true rfl) (Nat.le_of_ble_eq_true rfl) ?_
  refine va_putF (D := (dC, dI)) (ci := 9) (v := .ref q5) (ty := .object "Nestprint$Row") (C := RX2) (T := TX2) (N := 18) hx hb hta naX2 tyX2 tyX2_ok nmX2 hown hK hP hD hS 0 rfl rfl 3 (by decide) (hta _ wm82) (fun _ h9 => h9) rfl hin rfl (by decide +kernel) rfl rfl (Nat.le_of_ble_eq_true rfl) dX2_init_40 (fun H locs hP hD hS => ?_)
  have hP : va_P (dC, dI) vwCl [(h0, .inr (9, [v0, .ref q1, .ref q2, .ref q5, v4, v5, v6, v7, v8, v9, v10, v11, v12, v13, v14, v15, v16, v17])), (q2, .inr (11, [.ref q3, .int 0])), (q3, .inl (cy4, 2500, .inl (fun _ => 0))), (q5, .inr (11, [.ref q6, .int 0])), (q6, .inl (cy7, 2500, .inl (fun _ => 0)))] H := hP
  have hD : va_D A [(h0, .inr (9, [v0, .ref q1, .ref q2, .ref q5, v4, v5, v6, v7, v8, v9, v10, v11, v12, v13, v14, v15, v16, v17])), (q2, .inr (11, [.ref q3, .int 0])), (q3, .inl (cy4, 2500, .inl (fun _ => 0))), (q5, .inr (11, [.ref q6, .int 0])), (q6, .inl (cy7, 2500, .inl (fun _ => 0)))] := hD
  refine lv_aload_n hx hb dX2_init_43 rfl (lv_at hl 0 rfl) ?_
  refine va_new (ci := 11) (fs := [.null, .int 0]) (C := RX4) (T := TX4) (N := 2) hx hb hta naX4 tyX4 tyX4_ok hown (hta _ wm80) (hta _ wm11) (hta _ wm12) hK hP hD hS hA rfl (fun j hj => by rcases (show j = 0 ∨ j = 1 by omega) with rfl | rfl <;> rfl) (Nat.le_of_ble_eq_true rfl) (Nat.le_of_ble_eq_true rfl) dX2_init_44 (fun q8 H hP hD hS => ?_)
  have hP : va_P (dC, dI) vwCl [(h0, .inr (9, [v0, .ref q1, .ref q2, .ref q5, v4, v5, v6, v7, v8, v9, v10, v11, v12, v13, v14, v15, v16, v17])), (q2, .inr (11, [.ref q3, .int 0])), (q3, .inl (cy4, 2500, .inl (fun _ => 0))), (q5, .inr (11, [.ref q6, .int 0])), (q6, .inl (cy7, 2500, .inl (fun _ => 0))), (q8, .inr (11, [.null, .int 0]))] H := hP
  have hD : va_D A [(h0, .inr (9, [v0, .ref q1, .ref q2, .ref q5, v4, v5, v6, v7, v8, v9, v10, v11, v12, v13, v14, v15, v16, v17])), (q2, .inr (11, [.ref q3, .int 0])), (q3, .inl (cy4, 2500, .inl (fun _ => 0))), (q5, .inr (11, [.ref q6, .int 0])), (q6, .inl (cy7, 2500, .inl (fun _ => 0))), (q8, .inr (11, [.null, .int 0]))] := hD
  refine W.widen (k := 10) (n := 5613) (Nat.le_of_ble_eq_true rfl) (Nat.le_of_ble_eq_true rfl) ?_
  refine lv_dup hx hb dX2_init_47 rfl ?_
  refine lv_bipush (v := 100) hx hb dX2_init_48 (by decide) ?_
  have hPc := hP.sub (ws' := [(q8, .inr (11, [.null, .int 0]))]) [5] rfl
  have hDc := hD.sub (ws' := [(q8, .inr (11, [.null, .int 0]))]) [5] (by decide) rfl
  have hKc := hK.sub (tys' := []) [] rfl
  have hFc := va_free (wc := [(q8, .inr (11, [.null, .int 0]))]) hD hS hA [5] rfl
  refine va_callv (va_runI (As := [.int 100]) (rest := [.ref q8, .ref h0]) ⟨hx, hb, hml, hown, hts⟩ (kX4_init_9 l dC dI g H.size q8 .null (.int 0) ) (cwI 1 hts (ns_g0 wm17) rfl rfl rfl (hta _ wm12) (hta _ wm116) (hta _ wm28) rfl (by decide +kernel) ⟨Nat.le_of_ble_eq_true rfl, Nat.le_of_ble_eq_true rfl⟩) ⟨fun a U gg mk q => by obtain ⟨q0, q1, qP, qK, qD, qF⟩ := q; exact ⟨q0, q1, qP, va_K.moved (u := U) (U := U.calling gg mk a) (Vm.Alike.refl U.vm) qK, qD, ns_same qF⟩, fun U hU hW => ⟨rfl, by rw [hU], by rw [hU]; exact hPc, va_K.moved hW.alike hKc, hDc.weaken (fun _ _ _ _ => trivial), ns_call hF hS hFc hU hW⟩⟩ rfl rfl hl.1 rfl (lv_room (Nat.le_of_ble_eq_true rfl)) dX2_init_50 ⟨Nat.le_of_ble_eq_true rfl, Nat.le_of_ble_eq_true rfl⟩) hS (fun q _ h => hFc q h) hFc (fun u t H1 locs ht hvm hw hB hz1 hk1 hS => ?_)
  obtain ⟨q9, cy10, hP1, hK1, hD1⟩ := hB
  rw [ht] at hP1
  have hK1 := va_K.moved hvm.symm hK1
  obtain ⟨hP, hD⟩ := va_join (wr := [(h0, .inr (9, [v0, .ref q1, .ref q2, .ref q5, v4, v5, v6, v7, v8, v9, v10, v11, v12, v13, v14, v15, v16, v17])), (q2, .inr (11, [.ref q3, .int 0])), (q3, .inl (cy4, 2500, .inl (fun _ => 0))), (q5, .inr (11, [.ref q6, .int 0])), (q6, .inl (cy7, 2500, .inl (fun _ => 0)))]) (w1 := [(q8, .inr (11, [.ref q9, .int 0])), (q9, .inl (cy10, 100, .inl (fun _ => 0)))]) hP hD [5] [0, 1, 2, 3, 4] rfl rfl (by decide) (by decide) hk1 hFc hP1 hD1
  have hK := (hK.sub (tys' := [(cy4, .int), (cy7, .int)]) [0, 1] rfl).app hK1
  generalize H1 = H at hP hS ⊢
  have hP : va_P (dC, dI) vwCl [(h0, .inr (9, [v0, .ref q1, .ref q2, .ref q5, v4, v5, v6, v7, v8, v9, v10, v11, v12, v13, v14, v15, v16, v17])), (q2, .inr (11, [.ref q3, .int 0])), (q3, .inl (cy4, 2500, .inl (fun _ => 0))), (q5, .inr (11, [.ref q6, .int 0])), (q6, .inl (cy7, 2500, .inl (fun _ => 0))), (q8, .inr (11, [.ref q9, .int 0])), (q9, .inl (cy10, 100, .inl (fun _ => 0)))] H := hP
  have hD : va_D A [(h0, .inr (9, [v0, .ref q1, .ref q2, .ref q5, v4, v5, v6, v7, v8, v9, v10, v11, v12, v13, v14, v15, v16, v17])), (q2, .inr (11, [.ref q3, .int 0])), (q3, .inl (cy4, 2500, .inl (fun _ => 0))), (q5, .inr (11, [.ref q6, .int 0])), (q6, .inl (cy7, 2500, .inl (fun _ => 0))), (q8, .inr (11, [.ref q9, .int 0])), (q9, .inl (cy10, 100, .inl (fun _ => 0)))] := hD
  have hK : va_K (dC, dI) vwCl [(cy4, .int), (cy7, .int), (cy10, .int)] s := hK
  refine W.widen (k := 11) (n := 5713) (Nat.le_of_ble_eq_true rfl) (Nat.le_of_ble_eq_true rfl) ?_
  refine va_putF (D := (dC, dI)) (ci := 9) (v := .ref q8) (ty := .object "Nestprint$Row") (C := RX2) (T := TX2) (N := 18) hx hb hta naX2 tyX2 tyX2_ok nmX2 hown hK hP hD hS 0 rfl rfl 4 (by decide) (hta _ wm83) (fun _ h9 => h9) rfl hin rfl (by decide +kernel) rfl rfl (Nat.le_of_ble_eq_true rfl) dX2_init_53 (fun H locs hP hD hS => ?_)
  have hP : va_P (dC, dI) vwCl [(h0, .inr (9, [v0, .ref q1, .ref q2, .ref q5, .ref q8, v5, v6, v7, v8, v9, v10, v11, v12, v13, v14, v15, v16, v17])), (q2, .inr (11, [.ref q3, .int 0])), (q3, .inl (cy4, 2500, .inl (fun _ => 0))), (q5, .inr (11, [.ref q6, .int 0])), (q6, .inl (cy7, 2500, .inl (fun _ => 0))), (q8, .inr (11, [.ref q9, .int 0])), (q9, .inl (cy10, 100, .inl (fun _ => 0)))] H := hP
  have hD : va_D A [(h0, .inr (9, [v0, .ref q1, .ref q2, .ref q5, .ref q8, v5, v6, v7, v8, v9, v10, v11, v12, v13, v14, v15, v16, v17])), (q2, .inr (11, [.ref q3, .int 0])), (q3, .inl (cy4, 2500, .inl (fun _ => 0))), (q5, .inr (11, [.ref q6, .int 0])), (q6, .inl (cy7, 2500, .inl (fun _ => 0))), (q8, .inr (11, [.ref q9, .int 0])), (q9, .inl (cy10, 100, .inl (fun _ => 0)))] := hD
  refine lv_aload_n hx hb dX2_init_56 rfl (lv_at hl 0 rfl) ?_
  refine va_new (ci := 11) (fs := [.null, .int 0]) (C := RX4) (T := TX4) (N := 2) hx hb hta naX4 tyX4 tyX4_ok hown (hta _ wm80) (hta _ wm11) (hta _ wm12) hK hP hD hS hA rfl (fun j hj => by rcases (show j = 0 ∨ j = 1 by omega) with rfl | rfl <;> rfl) (Nat.le_of_ble_eq_true rfl) (Nat.le_of_ble_eq_true rfl) dX2_init_57 (fun q11 H hP hD hS => ?_)
  have hP : va_P (dC, dI) vwCl [(h0, .inr (9, [v0, .ref q1, .ref q2, .ref q5, .ref q8, v5, v6, v7, v8, v9, v10, v11, v12, v13, v14, v15, v16, v17])), (q2, .inr (11, [.ref q3, .int 0])), (q3, .inl (cy4, 2500, .inl (fun _ => 0))), (q5, .inr (11, [.ref q6, .int 0])), (q6, .inl (cy7, 2500, .inl (fun _ => 0))), (q8, .inr (11, [.ref q9, .int 0])), (q9, .inl (cy10, 100, .inl (fun _ => 0))), (q11, .inr (11, [.null, .int 0]))] H := hP
  have hD : va_D A [(h0, .inr (9, [v0, .ref q1, .ref q2, .ref q5, .ref q8, v5, v6, v7, v8, v9, v10, v11, v12, v13, v14, v15, v16, v17])), (q2, .inr (11, [.ref q3, .int 0])), (q3, .inl (cy4, 2500, .inl (fun _ => 0))), (q5, .inr (11, [.ref q6, .int 0])), (q6, .inl (cy7, 2500, .inl (fun _ => 0))), (q8, .inr (11, [.ref q9, .int 0])), (q9, .inl (cy10, 100, .inl (fun _ => 0))), (q11, .inr (11, [.null, .int 0]))] := hD
  refine W.widen (k := 12) (n := 5715) (Nat.le_of_ble_eq_true rfl) (Nat.le_of_ble_eq_true rfl) ?_
  refine lv_dup hx hb dX2_init_60 rfl ?_
  refine lv_bipush (v := 100) hx hb dX2_init_61 (by decide) ?_
  have hPc := hP.sub (ws' := [(q11, .inr (11, [.null, .int 0]))]) [7] rfl
  have hDc := hD.sub (ws' := [(q11, .inr (11, [.null, .int 0]))]) [7] (by decide) rfl
  have hKc := hK.sub (tys' := []) [] rfl
  have hFc := va_free (wc := [(q11, .inr (11, [.null, .int 0]))]) hD hS hA [7] rfl
  refine va_callv (va_runI (As := [.int 100]) (rest := [.ref q11, .ref h0]) ⟨hx, hb, hml, hown, hts⟩ (kX4_init_9 l dC dI g H.size q11 .null (.int 0) ) (cwI 1 hts (ns_g0 wm17) rfl rfl rfl (hta _ wm12) (hta _ wm116) (hta _ wm28) rfl (by decide +kernel) ⟨Nat.le_of_ble_eq_true rfl, Nat.le_of_ble_eq_true rfl⟩) ⟨fun a U gg mk q => by obtain ⟨q0, q1, qP, qK, qD, qF⟩ := q; exact ⟨q0, q1, qP, va_K.moved (u := U) (U := U.calling gg mk a) (Vm.Alike.refl U.vm) qK, qD, ns_same qF⟩, fun U hU hW => ⟨rfl, by rw [hU], by rw [hU]; exact hPc, va_K.moved hW.alike hKc, hDc.weaken (fun _ _ _ _ => trivial), ns_call hF hS hFc hU hW⟩⟩ rfl rfl hl.1 rfl (lv_room (Nat.le_of_ble_eq_true rfl)) dX2_init_63 ⟨Nat.le_of_ble_eq_true rfl, Nat.le_of_ble_eq_true rfl⟩) hS (fun q _ h => hFc q h) hFc (fun u t H1 locs ht hvm hw hB hz1 hk1 hS => ?_)
  obtain ⟨q12, cy13, hP1, hK1, hD1⟩ := hB
  rw [ht] at hP1
  have hK1 := va_K.moved hvm.symm hK1
  obtain ⟨hP, hD⟩ := va_join (wr := [(h0, .inr (9, [v0, .ref q1, .ref q2, .ref q5, .ref q8, v5, v6, v7, v8, v9, v10, v11, v12, v13, v14, v15, v16, v17])), (q2, .inr (11, [.ref q3, .int 0])), (q3, .inl (cy4, 2500, .inl (fun _ => 0))), (q5, .inr (11, [.ref q6, .int 0])), (q6, .inl (cy7, 2500, .inl (fun _ => 0))), (q8, .inr (11, [.ref q9, .int 0])), (q9, .inl (cy10, 100, .inl (fun _ => 0)))]) (w1 := [(q11, .inr (11, [.ref q12, .int 0])), (q12, .inl (cy13, 100, .inl (fun _ => 0)))]) hP hD [7] [0, 1, 2, 3, 4, 5, 6] rfl rfl (by decide) (by decide) hk1 hFc hP1 hD1
  have hK := (hK.sub (tys' := [(cy4, .int), (cy7, .int), (cy10, .int)]) [0, 1, 2] rfl).app hK1
  generalize H1 = H at hP hS ⊢
  have hP : va_P (dC, dI) vwCl [(h0, .inr (9, [v0, .ref q1, .ref q2, .ref q5, .ref q8, v5, v6, v7, v8, v9, v10, v11, v12, v13, v14, v15, v16, v17])), (q2, .inr (11, [.ref q3, .int 0])), (q3, .inl (cy4, 2500, .inl (fun _ => 0))), (q5, .inr (11, [.ref q6, .int 0])), (q6, .inl (cy7, 2500, .inl (fun _ => 0))), (q8, .inr (11, [.ref q9, .int 0])), (q9, .inl (cy10, 100, .inl (fun _ => 0))), (q11, .inr (11, [.ref q12, .int 0])), (q12, .inl (cy13, 100, .inl (fun _ => 0)))] H := hP
  have hD : va_D A [(h0, .inr (9, [v0, .ref q1, .ref q2, .ref q5, .ref q8, v5, v6, v7, v8, v9, v10, v11, v12, v13, v14, v15, v16, v17])), (q2, .inr (11, [.ref q3, .int 0])), (q3, .inl (cy4, 2500, .inl (fun _ => 0))), (q5, .inr (11, [.ref q6, .int 0])), (q6, .inl (cy7, 2500, .inl (fun _ => 0))), (q8, .inr (11, [.ref q9, .int 0])), (q9, .inl (cy10, 100, .inl (fun _ => 0))), (q11, .inr (11, [.ref q12, .int 0])), (q12, .inl (cy13, 100, .inl (fun _ => 0)))] := hD
  have hK : va_K (dC, dI) vwCl [(cy4, .int), (cy7, .int), (cy10, .int), (cy13, .int)] s := hK
  refine W.widen (k := 13) (n := 5815) (Nat.le_of_ble_eq_true rfl) (Nat.le_of_ble_eq_true rfl) ?_
  refine va_putF (D := (dC, dI)) (ci := 9) (v := .ref q11) (ty := .object "Nestprint$Row") (C := RX2) (T := TX2) (N := 18) hx hb hta naX2 tyX2 tyX2_ok nmX2 hown hK hP hD hS 0 rfl rfl 5 (by decide) (hta _ wm84) (fun _ h9 => h9) rfl hin rfl (by decide +kernel) rfl rfl (Nat.le_of_ble_eq_true rfl) dX2_init_66 (fun H locs hP hD hS => ?_)
  have hP : va_P (dC, dI) vwCl [(h0, .inr (9, [v0, .ref q1, .ref q2, .ref q5, .ref q8, .ref q11, v6, v7, v8, v9, v10, v11, v12, v13, v14, v15, v16, v17])), (q2, .inr (11, [.ref q3, .int 0])), (q3, .inl (cy4, 2500, .inl (fun _ => 0))), (q5, .inr (11, [.ref q6, .int 0])), (q6, .inl (cy7, 2500, .inl (fun _ => 0))), (q8, .inr (11, [.ref q9, .int 0])), (q9, .inl (cy10, 100, .inl (fun _ => 0))), (q11, .inr (11, [.ref q12, .int 0])), (q12, .inl (cy13, 100, .inl (fun _ => 0)))] H := hP
  have hD : va_D A [(h0, .inr (9, [v0, .ref q1, .ref q2, .ref q5, .ref q8, .ref q11, v6, v7, v8, v9, v10, v11, v12, v13, v14, v15, v16, v17])), (q2, .inr (11, [.ref q3, .int 0])), (q3, .inl (cy4, 2500, .inl (fun _ => 0))), (q5, .inr (11, [.ref q6, .int 0])), (q6, .inl (cy7, 2500, .inl (fun _ => 0))), (q8, .inr (11, [.ref q9, .int 0])), (q9, .inl (cy10, 100, .inl (fun _ => 0))), (q11, .inr (11, [.ref q12, .int 0])), (q12, .inl (cy13, 100, .inl (fun _ => 0)))] := hD
  refine lv_aload_n hx hb dX2_init_69 rfl (lv_at hl 0 rfl) ?_
  refine va_new (ci := 11) (fs := [.null, .int 0]) (C := RX4) (T := TX4) (N := 2) hx hb hta naX4 tyX4 tyX4_ok hown (hta _ wm80) (hta _ wm11) (hta _ wm12) hK hP hD hS hA rfl (fun j hj => by rcases (show j = 0 ∨ j = 1 by omega) with rfl | rfl <;> rfl) (Nat.le_of_ble_eq_true rfl) (Nat.le_of_ble_eq_true rfl) dX2_init_70 (fun q14 H hP hD hS => ?_)
  have hP : va_P (dC, dI) vwCl [(h0, .inr (9, [v0, .ref q1, .ref q2, .ref q5, .ref q8, .ref q11, v6, v7, v8, v9, v10, v11, v12, v13, v14, v15, v16, v17])), (q2, .inr (11, [.ref q3, .int 0])), (q3, .inl (cy4, 2500, .inl (fun _ => 0))), (q5, .inr (11, [.ref q6, .int 0])), (q6, .inl (cy7, 2500, .inl (fun _ => 0))), (q8, .inr (11, [.ref q9, .int 0])), (q9, .inl (cy10, 100, .inl (fun _ => 0))), (q11, .inr (11, [.ref q12, .int 0])), (q12, .inl (cy13, 100, .inl (fun _ => 0))), (q14, .inr (11, [.null, .int 0]))] H := hP
  have hD : va_D A [(h0, .inr (9, [v0, .ref q1, .ref q2, .ref q5, .ref q8, .ref q11, v6, v7, v8, v9, v10, v11, v12, v13, v14, v15, v16, v17])), (q2, .inr (11, [.ref q3, .int 0])), (q3, .inl (cy4, 2500, .inl (fun _ => 0))), (q5, .inr (11, [.ref q6, .int 0])), (q6, .inl (cy7, 2500, .inl (fun _ => 0))), (q8, .inr (11, [.ref q9, .int 0])), (q9, .inl (cy10, 100, .inl (fun _ => 0))), (q11, .inr (11, [.ref q12, .int 0])), (q12, .inl (cy13, 100, .inl (fun _ => 0))), (q14, .inr (11, [.null, .int 0]))] := hD
  refine W.widen (k := 14) (n := 5817) (Nat.le_of_ble_eq_true rfl) (Nat.le_of_ble_eq_true rfl) ?_
  refine lv_dup hx hb dX2_init_73 rfl ?_
  refine lv_bipush (v := 100) hx hb dX2_init_74 (by decide) ?_
  have hPc := hP.sub (ws' := [(q14, .inr (11, [.null, .int 0]))]) [9] rfl
  have hDc := hD.sub (ws' := [(q14, .inr (11, [.null, .int 0]))]) [9] (by decide) rfl
  have hKc := hK.sub (tys' := []) [] rfl
  have hFc := va_free (wc := [(q14, .inr (11, [.null, .int 0]))]) hD hS hA [9] rfl
  refine va_callv (va_runI (As := [.int 100]) (rest := [.ref q14, .ref h0]) ⟨hx, hb, hml, hown, hts⟩ (kX4_init_9 l dC dI g H.size q14 .null (.int 0) ) (cwI 1 hts (ns_g0 wm17) rfl rfl rfl (hta _ wm12) (hta _ wm116) (hta _ wm28) rfl (by decide +kernel) ⟨Nat.le_of_ble_eq_true rfl, Nat.le_of_ble_eq_true rfl⟩) ⟨fun a U gg mk q => by obtain ⟨q0, q1, qP, qK, qD, qF⟩ := q; exact ⟨q0, q1, qP, va_K.moved (u := U) (U := U.calling gg mk a) (Vm.Alike.refl U.vm) qK, qD, ns_same qF⟩, fun U hU hW => ⟨rfl, by rw [hU], by rw [hU]; exact hPc, va_K.moved hW.alike hKc, hDc.weaken (fun _ _ _ _ => trivial), ns_call hF hS hFc hU hW⟩⟩ rfl rfl hl.1 rfl (lv_room (Nat.le_of_ble_eq_true rfl)) dX2_init_76 ⟨Nat.le_of_ble_eq_true rfl, Nat.le_of_ble_eq_true rfl⟩) hS (fun q _ h => hFc q h) hFc (fun u t H1 locs ht hvm hw hB hz1 hk1 hS => ?_)
  obtain ⟨q15, cy16, hP1, hK1, hD1⟩ := hB
  rw [ht] at hP1
  have hK1 := va_K.moved hvm.symm hK1
  obtain ⟨hP, hD⟩ := va_join (wr := [(h0, .inr (9, [v0, .ref q1, .ref q2, .ref q5, .ref q8, .ref q11, v6, v7, v8, v9, v10, v11, v12, v13, v14, v15, v16, v17])), (q2, .inr (11, [.ref q3, .int 0])), (q3, .inl (cy4, 2500, .inl (fun _ => 0))), (q5, .inr (11, [.ref q6, .int 0])), (q6, .inl (cy7, 2500, .inl (fun _ => 0))), (q8, .inr (11, [.ref q9, .int 0])), (q9, .inl (cy10, 100, .inl (fun _ => 0))), (q11, .inr (11, [.ref q12, .int 0])), (q12, .inl (cy13, 100, .inl (fun _ => 0)))]) (w1 := [(q14, .inr (11, [.ref q15, .int 0])), (q15, .inl (cy16, 100, .inl (fun _ => 0)))]) hP hD [9] [0, 1, 2, 3, 4, 5, 6, 7, 8] rfl rfl (by decide) (by decide) hk1 hFc hP1 hD1
  have hK := (hK.sub (tys' := [(cy4, .int), (cy7, .int), (cy10, .int), (cy13, .int)]) [0, 1, 2, 3] rfl).app hK1
  generalize H1 = H at hP hS ⊢
  have hP : va_P (dC, dI) vwCl [(h0, .inr (9, [v0, .ref q1, .ref q2, .ref q5, .ref q8, .ref q11, v6, v7, v8, v9, v10, v11, v12, v13, v14, v15, v16, v17])), (q2, .inr (11, [.ref q3, .int 0])), (q3, .inl (cy4, 2500, .inl (fun _ => 0))), (q5, .inr (11, [.ref q6, .int 0])), (q6, .inl (cy7, 2500, .inl (fun _ => 0))), (q8, .inr (11, [.ref q9, .int 0])), (q9, .inl (cy10, 100, .inl (fun _ => 0))), (q11, .inr (11, [.ref q12, .int 0])), (q12, .inl (cy13, 100, .inl (fun _ => 0))), (q14, .inr (11, [.ref q15, .int 0])), (q15, .inl (cy16, 100, .inl (fun _ => 0)))] H := hP
  have hD : va_D A [(h0, .inr (9, [v0, .ref q1, .ref q2, .ref q5, .ref q8, .ref q11, v6, v7, v8, v9, v10, v11, v12, v13, v14, v15, v16, v17])), (q2, .inr (11, [.ref q3, .int 0])), (q3, .inl (cy4, 2500, .inl (fun _ => 0))), (q5, .inr (11, [.ref q6, .int 0])), (q6, .inl (cy7, 2500, .inl (fun _ => 0))), (q8, .inr (11, [.ref q9, .int 0])), (q9, .inl (cy10, 100, .inl (fun _ => 0))), (q11, .inr (11, [.ref q12, .int 0])), (q12, .inl (cy13, 100, .inl (fun _ => 0))), (q14, .inr (11, [.ref q15, .int 0])), (q15, .inl (cy16, 100, .inl (fun _ => 0)))] := hD
  have hK : va_K (dC, dI) vwCl [(cy4, .int), (cy7, .int), (cy10, .int), (cy13, .int), (cy16, .int)] s := hK
  refine W.widen (k := 15) (n := 5917) (Nat.le_of_ble_eq_true rfl) (Nat.le_of_ble_eq_true rfl) ?_
  refine va_putF (D := (dC, dI)) (ci := 9) (v := .ref q14) (ty := .object "Nestprint$Row") (C := RX2) (T := TX2) (N := 18) hx hb hta naX2 tyX2 tyX2_ok nmX2 hown hK hP hD hS 0 rfl rfl 6 (by decide) (hta _ wm85) (fun _ h9 => h9) rfl hin rfl (by decide +kernel) rfl rfl (Nat.le_of_ble_eq_true rfl) dX2_init_79 (fun H locs hP hD hS => ?_)
  have hP : va_P (dC, dI) vwCl [(h0, .inr (9, [v0, .ref q1, .ref q2, .ref q5, .ref q8, .ref q11, .ref q14, v7, v8, v9, v10, v11, v12, v13, v14, v15, v16, v17])), (q2, .inr (11, [.ref q3, .int 0])), (q3, .inl (cy4, 2500, .inl (fun _ => 0))), (q5, .inr (11, [.ref q6, .int 0])), (q6, .inl (cy7, 2500, .inl (fun _ => 0))), (q8, .inr (11, [.ref q9, .int 0])), (q9, .inl (cy10, 100, .inl (fun _ => 0))), (q11, .inr (11, [.ref q12, .int 0])), (q12, .inl (cy13, 100, .inl (fun _ => 0))), (q14, .inr (11, [.ref q15, .int 0])), (q15, .inl (cy16, 100, .inl (fun _ => 0)))] H := hP
  have hD : va_D A [(h0, .inr (9, [v0, .ref q1, .ref q2, .ref q5, .ref q8, .ref q11, .ref q14, v7, v8, v9, v10, v11, v12, v13, v14, v15, v16, v17])), (q2, .inr (11, [.ref q3, .int 0])), (q3, .inl (cy4, 2500, .inl (fun _ => 0))), (q5, .inr (11, [.ref q6, .int 0])), (q6, .inl (cy7, 2500, .inl (fun _ => 0))), (q8, .inr (11, [.ref q9, .int 0])), (q9, .inl (cy10, 100, .inl (fun _ => 0))), (q11, .inr (11, [.ref q12, .int 0])), (q12, .inl (cy13, 100, .inl (fun _ => 0))), (q14, .inr (11, [.ref q15, .int 0])), (q15, .inl (cy16, 100, .inl (fun _ => 0)))] := hD
  refine lv_aload_n hx hb dX2_init_82 rfl (lv_at hl 0 rfl) ?_
  refine va_new (ci := 11) (fs := [.null, .int 0]) (C := RX4) (T := TX4) (N := 2) hx hb hta naX4 tyX4 tyX4_ok hown (hta _ wm80) (hta _ wm11) (hta _ wm12) hK hP hD hS hA rfl (fun j hj => by rcases (show j = 0 ∨ j = 1 by omega) with rfl | rfl <;> rfl) (Nat.le_of_ble_eq_true rfl) (Nat.le_of_ble_eq_true rfl) dX2_init_83 (fun q17 H hP hD hS => ?_)
  have hP : va_P (dC, dI) vwCl [(h0, .inr (9, [v0, .ref q1, .ref q2, .ref q5, .ref q8, .ref q11, .ref q14, v7, v8, v9, v10, v11, v12, v13, v14, v15, v16, v17])), (q2, .inr (11, [.ref q3, .int 0])), (q3, .inl (cy4, 2500, .inl (fun _ => 0))), (q5, .inr (11, [.ref q6, .int 0])), (q6, .inl (cy7, 2500, .inl (fun _ => 0))), (q8, .inr (11, [.ref q9, .int 0])), (q9, .inl (cy10, 100, .inl (fun _ => 0))), (q11, .inr (11, [.ref q12, .int 0])), (q12, .inl (cy13, 100, .inl (fun _ => 0))), (q14, .inr (11, [.ref q15, .int 0])), (q15, .inl (cy16, 100, .inl (fun _ => 0))), (q17, .inr (11, [.null, .int 0]))] H := hP
  have hD : va_D A [(h0, .inr (9, [v0, .ref q1, .ref q2, .ref q5, .ref q8, .ref q11, .ref q14, v7, v8, v9, v10, v11, v12, v13, v14, v15, v16, v17])), (q2, .inr (11, [.ref q3, .int 0])), (q3, .inl (cy4, 2500, .inl (fun _ => 0))), (q5, .inr (11, [.ref q6, .int 0])), (q6, .inl (cy7, 2500, .inl (fun _ => 0))), (q8, .inr (11, [.ref q9, .int 0])), (q9, .inl (cy10, 100, .inl (fun _ => 0))), (q11, .inr (11, [.ref q12, .int 0])), (q12, .inl (cy13, 100, .inl (fun _ => 0))), (q14, .inr (11, [.ref q15, .int 0])), (q15, .inl (cy16, 100, .inl (fun _ => 0))), (q17, .inr (11, [.null, .int 0]))] := hD
  refine W.widen (k := 16) (n := 5919) (Nat.le_of_ble_eq_true rfl) (Nat.le_of_ble_eq_true rfl) ?_
  refine lv_dup hx hb dX2_init_86 rfl ?_
  refine lv_bipush (v := 100) hx hb dX2_init_87 (by decide) ?_
  have hPc := hP.sub (ws' := [(q17, .inr (11, [.null, .int 0]))]) [11] rfl
  have hDc := hD.sub (ws' := [(q17, .inr (11, [.null, .int 0]))]) [11] (by decide) rfl
  have hKc := hK.sub (tys' := []) [] rfl
  have hFc := va_free (wc := [(q17, .inr (11, [.null, .int 0]))]) hD hS hA [11] rfl
  refine va_callv (va_runI (As := [.int 100]) (rest := [.ref q17, .ref h0]) ⟨hx, hb, hml, hown, hts⟩ (kX4_init_9 l dC dI g H.size q17 .null (.int 0) ) (cwI 1 hts (ns_g0 wm17) rfl rfl rfl (hta _ wm12) (hta _ wm116) (hta _ wm28) rfl (by decide +kernel) ⟨Nat.le_of_ble_eq_true rfl, Nat.le_of_ble_eq_true rfl⟩) ⟨fun a U gg mk q => by obtain ⟨q0, q1, qP, qK, qD, qF⟩ := q; exact ⟨q0, q1, qP, va_K.moved (u := U) (U := U.calling gg mk a) (Vm.Alike.refl U.vm) qK, qD, ns_same qF⟩, fun U hU hW => ⟨rfl, by rw [hU], by rw [hU]; exact hPc, va_K.moved hW.alike hKc, hDc.weaken (fun _ _ _ _ => trivial), ns_call hF hS hFc hU hW⟩⟩ rfl rfl hl.1 rfl (lv_room (Nat.le_of_ble_eq_true rfl)) dX2_init_89 ⟨Nat.le_of_ble_eq_true rfl, Nat.le_of_ble_eq_true rfl⟩) hS (fun q _ h => hFc q h) hFc (fun u t H1 locs ht hvm hw hB hz1 hk1 hS => ?_)
  obtain ⟨q18, cy19, hP1, hK1, hD1⟩ := hB
  rw [ht] at hP1
  have hK1 := va_K.moved hvm.symm hK1
  obtain ⟨hP, hD⟩ := va_join (wr := [(h0, .inr (9, [v0, .ref q1, .ref q2, .ref q5, .ref q8, .ref q11, .ref q14, v7, v8, v9, v10, v11, v12, v13, v14, v15, v16, v17])), (q2, .inr (11, [.ref q3, .int 0])), (q3, .inl (cy4, 2500, .inl (fun _ => 0))), (q5, .inr (11, [.ref q6, .int 0])), (q6, .inl (cy7, 2500, .inl (fun _ => 0))), (q8, .inr (11, [.ref q9, .int 0])), (q9, .inl (cy10, 100, .inl (fun _ => 0))), (q11, .inr (11, [.ref q12, .int 0])), (q12, .inl (cy13, 100, .inl (fun _ => 0))), (q14, .inr (11, [.ref q15, .int 0])), (q15, .inl (cy16, 100, .inl (fun _ => 0)))]) (w1 := [(q17, .inr (11, [.ref q18, .int 0])), (q18, .inl (cy19, 100, .inl (fun _ => 0)))]) hP hD [11] [0, 1, 2, 3, 4, 5, 6, 7, 8, 9, 10] rfl rfl (by decide) (by decide) hk1 hFc hP1 hD1
  have hK := (hK.sub (tys' := [(cy4, .int), (cy7, .int), (cy10, .int), (cy13, .int), (cy16, .int)]) [0, 1, 2, 3, 4] rfl).app hK1
  generalize H1 = H at hP hS ⊢
  have hP : va_P (dC, dI) vwCl [(h0, .inr (9, [v0, .ref q1, .ref q2, .ref q5, .ref q8, .ref q11, .ref q14, v7, v8, v9, v10, v11, v12, v13, v14, v15, v16, v17])), (q2, .inr (11, [.ref q3, .int 0])), (q3, .inl (cy4, 2500, .inl (fun _ => 0))), (q5, .inr (11, [.ref q6, .int 0])), (q6, .inl (cy7, 2500, .inl (fun _ => 0))), (q8, .inr (11, [.ref q9, .int 0])), (q9, .inl (cy10, 100, .inl (fun _ => 0))), (q11, .inr (11, [.ref q12, .int 0])), (q12, .inl (cy13, 100, .inl (fun _ => 0))), (q14, .inr (11, [.ref q15, .int 0])), (q15, .inl (cy16, 100, .inl (fun _ => 0))), (q17, .inr (11, [.ref q18, .int 0])), (q18, .inl (cy19, 100, .inl (fun _ => 0)))] H := hP
  have hD : va_D A [(h0, .inr (9, [v0, .ref q1, .ref q2, .ref q5, .ref q8, .ref q11, .ref q14, v7, v8, v9, v10, v11, v12, v13, v14, v15, v16, v17])), (q2, .inr (11, [.ref q3, .int 0])), (q3, .inl (cy4, 2500, .inl (fun _ => 0))), (q5, .inr (11, [.ref q6, .int 0])), (q6, .inl (cy7, 2500, .inl (fun _ => 0))), (q8, .inr (11, [.ref q9, .int 0])), (q9, .inl (cy10, 100, .inl (fun _ => 0))), (q11, .inr (11, [.ref q12, .int 0])), (q12, .inl (cy13, 100, .inl (fun _ => 0))), (q14, .inr (11, [.ref q15, .int 0])), (q15, .inl (cy16, 100, .inl (fun _ => 0))), (q17, .inr (11, [.ref q18, .int 0])), (q18, .inl (cy19, 100, .inl (fun _ => 0)))] := hD
  have hK : va_K (dC, dI) vwCl [(cy4, .int), (cy7, .int), (cy10, .int), (cy13, .int), (cy16, .int), (cy19, .int)] s := hK
  refine W.widen (k := 17) (n := 6019) (Nat.le_of_ble_eq_true rfl) (Nat.le_of_ble_eq_true rfl) ?_
  refine va_putF (D := (dC, dI)) (ci := 9) (v := .ref q17) (ty := .object "Nestprint$Row") (C := RX2) (T := TX2) (N := 18) hx hb hta naX2 tyX2 tyX2_ok nmX2 hown hK hP hD hS 0 rfl rfl 7 (by decide) (hta _ wm86) (fun _ h9 => h9) rfl hin rfl (by decide +kernel) rfl rfl (Nat.le_of_ble_eq_true rfl) dX2_init_92 (fun H locs hP hD hS => ?_)
  have hP : va_P (dC, dI) vwCl [(h0, .inr (9, [v0, .ref q1, .ref q2, .ref q5, .ref q8, .ref q11, .ref q14, .ref q17, v8, v9, v10, v11, v12, v13, v14, v15, v16, v17])), (q2, .inr (11, [.ref q3, .int 0])), (q3, .inl (cy4, 2500, .inl (fun _ => 0))), (q5, .inr (11, [.ref q6, .int 0])), (q6, .inl (cy7, 2500, .inl (fun _ => 0))), (q8, .inr (11, [.ref q9, .int 0])), (q9, .inl (cy10, 100, .inl (fun _ => 0))), (q11, .inr (11, [.ref q12, .int 0])), (q12, .inl (cy13, 100, .inl (fun _ => 0))), (q14, .inr (11, [.ref q15, .int 0])), (q15, .inl (cy16, 100, .inl (fun _ => 0))), (q17, .inr (11, [.ref q18, .int 0])), (q18, .inl (cy19, 100, .inl (fun _ => 0)))] H := hP
  have hD : va_D A [(h0, .inr (9, [v0, .ref q1, .ref q2, .ref q5, .ref q8, .ref q11, .ref q14, .ref q17, v8, v9, v10, v11, v12, v13, v14, v15, v16, v17])), (q2, .inr (11, [.ref q3, .int 0])), (q3, .inl (cy4, 2500, .inl (fun _ => 0))), (q5, .inr (11, [.ref q6, .int 0])), (q6, .inl (cy7, 2500, .inl (fun _ => 0))), (q8, .inr (11, [.ref q9, .int 0])), (q9, .inl (cy10, 100, .inl (fun _ => 0))), (q11, .inr (11, [.ref q12, .int 0])), (q12, .inl (cy13, 100, .inl (fun _ => 0))), (q14, .inr (11, [.ref q15, .int 0])), (q15, .inl (cy16, 100, .inl (fun _ => 0))), (q17, .inr (11, [.ref q18, .int 0])), (q18, .inl (cy19, 100, .inl (fun _ => 0)))] := hD
  refine lv_aload_n hx hb dX2_init_95 rfl (lv_at hl 0 rfl) ?_
  refine va_new (ci := 11) (fs := [.null, .int 0]) (C := RX4) (T := TX4) (N := 2) hx hb hta naX4 tyX4 tyX4_ok hown (hta _ wm80) (hta _ wm11) (hta _ wm12) hK hP hD hS hA rfl (fun j hj => by rcases (show j = 0 ∨ j = 1 by omega) with rfl | rfl <;> rfl) (Nat.le_of_ble_eq_true rfl) (Nat.le_of_ble_eq_true rfl) dX2_init_96 (fun q20 H hP hD hS => ?_)
  have hP : va_P (dC, dI) vwCl [(h0, .inr (9, [v0, .ref q1, .ref q2, .ref q5, .ref q8, .ref q11, .ref q14, .ref q17, v8, v9, v10, v11, v12, v13, v14, v15, v16, v17])), (q2, .inr (11, [.ref q3, .int 0])), (q3, .inl (cy4, 2500, .inl (fun _ => 0))), (q5, .inr (11, [.ref q6, .int 0])), (q6, .inl (cy7, 2500, .inl (fun _ => 0))), (q8, .inr (11, [.ref q9, .int 0])), (q9, .inl (cy10, 100, .inl (fun _ => 0))), (q11, .inr (11, [.ref q12, .int 0])), (q12, .inl (cy13, 100, .inl (fun _ => 0))), (q14, .inr (11, [.ref q15, .int 0])), (q15, .inl (cy16, 100, .inl (fun _ => 0))), (q17, .inr (11, [.ref q18, .int 0])), (q18, .inl (cy19, 100, .inl (fun _ => 0))), (q20, .inr (11, [.null, .int 0]))] H := hP
  have hD : va_D A [(h0, .inr (9, [v0, .ref q1, .ref q2, .ref q5, .ref q8, .ref q11, .ref q14, .ref q17, v8, v9, v10, v11, v12, v13, v14, v15, v16, v17])), (q2, .inr (11, [.ref q3, .int 0])), (q3, .inl (cy4, 2500, .inl (fun _ => 0))), (q5, .inr (11, [.ref q6, .int 0])), (q6, .inl (cy7, 2500, .inl (fun _ => 0))), (q8, .inr (11, [.ref q9, .int 0])), (q9, .inl (cy10, 100, .inl (fun _ => 0))), (q11, .inr (11, [.ref q12, .int 0])), (q12, .inl (cy13, 100, .inl (fun _ => 0))), (q14, .inr (11, [.ref q15, .int 0])), (q15, .inl (cy16, 100, .inl (fun _ => 0))), (q17, .inr (11, [.ref q18, .int 0])), (q18, .inl (cy19, 100, .inl (fun _ => 0))), (q20, .inr (11, [.null, .int 0]))] := hD
  refine W.widen (k := 18) (n := 6021) (Nat.le_of_ble_eq_true rfl) (Nat.le_of_ble_eq_true rfl) ?_
  refine lv_dup hx hb dX2_init_99 rfl ?_
  refine lv_sipush (v := 6000) hx hb dX2_init_100 (by decide) ?_
  have hPc := hP.sub (ws' := [(q20, .inr (11, [.null, .int 0]))]) [13] rfl
  have hDc := hD.sub (ws' := [(q20, .inr (11, [.null, .int 0]))]) [13] (by decide) rfl
  have hKc := hK.sub (tys' := []) [] rfl
  have hFc := va_free (wc := [(q20, .inr (11, [.null, .int 0]))]) hD hS hA [13] rfl
  refine va_callv (va_runI (As := [.int 6000]) (rest := [.ref q20, .ref h0]) ⟨hx, hb, hml, hown, hts⟩ (kX4_init_10 l dC dI g H.size q20 .null (.int 0) ) (cwI 1 hts (ns_g0 wm17) rfl rfl rfl (hta _ wm12) (hta _ wm116) (hta _ wm28) rfl (by decide +kernel) ⟨Nat.le_of_ble_eq_true rfl, Nat.le_of_ble_eq_true rfl⟩) ⟨fun a U gg mk q => by obtain ⟨q0, q1, qP, qK, qD, qF⟩ := q; exact ⟨q0, q1, qP, va_K.moved (u := U) (U := U.calling gg mk a) (Vm.Alike.refl U.vm) qK, qD, ns_same qF⟩, fun U hU hW => ⟨rfl, by rw [hU], by rw [hU]; exact hPc, va_K.moved hW.alike hKc, hDc.weaken (fun _ _ _ _ => trivial), ns_call hF hS hFc hU hW⟩⟩ rfl rfl hl.1 rfl (lv_room (Nat.le_of_ble_eq_true rfl)) dX2_init_103 ⟨Nat.le_of_ble_eq_true rfl, Nat.le_of_ble_eq_true rfl⟩) hS (fun q _ h => hFc q h) hFc (fun u t H1 locs ht hvm hw hB hz1 hk1 hS => ?_)
  obtain ⟨q21, cy22, hP1, hK1, hD1⟩ := hB
  rw [ht] at hP1
  have hK1 := va_K.moved hvm.symm hK1
  obtain ⟨hP, hD⟩ := va_join (wr := [(h0, .inr (9, [v0, .ref q1, .ref q2, .ref q5, .ref q8, .ref q11, .ref q14, .ref q17, v8, v9, v10, v11, v12, v13, v14, v15, v16, v17])), (q2, .inr (11, [.ref q3, .int 0])), (q3, .inl (cy4, 2500, .inl (fun _ => 0))), (q5, .inr (11, [.ref q6, .int 0])), (q6, .inl (cy7, 2500, .inl (fun _ => 0))), (q8, .inr (11, [.ref q9, .int 0])), (q9, .inl (cy10, 100, .inl (fun _ => 0))), (q11, .inr (11, [.ref q12, .int 0])), (q12, .inl (cy13, 100, .inl (fun _ => 0))), (q14, .inr (11, [.ref q15, .int 0])), (q15, .inl (cy16, 100, .inl (fun _ => 0))), (q17, .inr (11, [.ref q18, .int 0])), (q18, .inl (cy19, 100, .inl (fun _ => 0)))]) (w1 := [(q20, .inr (11, [.ref q21, .int 0])), (q21, .inl (cy22, 6000, .inl (fun _ => 0)))]) hP hD [13] [0, 1, 2, 3, 4, 5, 6, 7, 8, 9, 10, 11, 12] rfl rfl (by decide) (by decide) hk1 hFc hP1 hD1
  have hK := (hK.sub (tys' := [(cy4, .int), (cy7, .int), (cy10, .int), (cy13, .int), (cy16, .int), (cy19, .int)]) [0, 1, 2, 3, 4, 5] rfl).app hK1
  generalize H1 = H at hP hS ⊢
  have hP : va_P (dC, dI) vwCl [(h0, .inr (9, [v0, .ref q1, .ref q2, .ref q5, .ref q8, .ref q11, .ref q14, .ref q17, v8, v9, v10, v11, v12, v13, v14, v15, v16, v17])), (q2, .inr (11, [.ref q3, .int 0])), (q3, .inl (cy4, 2500, .inl (fun _ => 0))), (q5, .inr (11, [.ref q6, .int 0])), (q6, .inl (cy7, 2500, .inl (fun _ => 0))), (q8, .inr (11, [.ref q9, .int 0])), (q9, .inl (cy10, 100, .inl (fun _ => 0))), (q11, .inr (11, [.ref q12, .int 0])), (q12, .inl (cy13, 100, .inl (fun _ => 0))), (q14, .inr (11, [.ref q15, .int 0])), (q15, .inl (cy16, 100, .inl (fun _ => 0))), (q17, .inr (11, [.ref q18, .int 0])), (q18, .inl (cy19, 100, .inl (fun _ => 0))), (q20, .inr (11, [.ref q21, .int 0])), (q21, .inl (cy22, 6000, .inl (fun _ => 0)))] H := hP
  have hD : va_D A [(h0, .inr (9, [v0, .ref q1, .ref q2, .ref q5, .ref q8, .ref q11, .ref q14, .ref q17, v8, v9, v10, v11, v12, v13, v14, v15, v16, v17])), (q2, .inr (11, [.ref q3, .int 0])), (q3, .inl (cy4, 2500, .inl (fun _ => 0))), (q5, .inr (11, [.ref q6, .int 0])), (q6, .inl (cy7, 2500, .inl (fun _ => 0))), (q8, .inr (11, [.ref q9, .int 0])), (q9, .inl (cy10, 100, .inl (fun _ => 0))), (q11, .inr (11, [.ref q12, .int 0])), (q12, .inl (cy13, 100, .inl (fun _ => 0))), (q14, .inr (11, [.ref q15, .int 0])), (q15, .inl (cy16, 100, .inl (fun _ => 0))), (q17, .inr (11, [.ref q18, .int 0])), (q18, .inl (cy19, 100, .inl (fun _ => 0))), (q20, .inr (11, [.ref q21, .int 0])), (q21, .inl (cy22, 6000, .inl (fun _ => 0)))] := hD
  have hK : va_K (dC, dI) vwCl [(cy4, .int), (cy7, .int), (cy10, .int), (cy13, .int), (cy16, .int), (cy19, .int), (cy22, .int)] s := hK
  refine W.widen (k := 19) (n := 12021) (Nat.le_of_ble_eq_true rfl) (Nat.le_of_ble_eq_true rfl) ?_
  refine va_putF (D := (dC, dI)) (ci := 9) (v := .ref q20) (ty := .object "Nestprint$Row") (C := RX2) (T := TX2) (N := 18) hx hb hta naX2 tyX2 tyX2_ok nmX2 hown hK hP hD hS 0 rfl rfl 8 (by decide) (hta _ wm87) (fun _ h9 => h9) rfl hin rfl (by decide +kernel) rfl rfl (Nat.le_of_ble_eq_true rfl) dX2_init_106 (fun H locs hP hD hS => ?_)
  have hP : va_P (dC, dI) vwCl [(h0, .inr (9, [v0, .ref q1, .ref q2, .ref q5, .ref q8, .ref q11, .ref q14, .ref q17, .ref q20, v9, v10, v11, v12, v13, v14, v15, v16, v17])), (q2, .inr (11, [.ref q3, .int 0])), (q3, .inl (cy4, 2500, .inl (fun _ => 0))), (q5, .inr (11, [.ref q6, .int 0])), (q6, .inl (cy7, 2500, .inl (fun _ => 0))), (q8, .inr (11, [.ref q9, .int 0])), (q9, .inl (cy10, 100, .inl (fun _ => 0))), (q11, .inr (11, [.ref q12, .int 0])), (q12, .inl (cy13, 100, .inl (fun _ => 0))), (q14, .inr (11, [.ref q15, .int 0])), (q15, .inl (cy16, 100, .inl (fun _ => 0))), (q17, .inr (11, [.ref q18, .int 0])), (q18, .inl (cy19, 100, .inl (fun _ => 0))), (q20, .inr (11, [.ref q21, .int 0])), (q21, .inl (cy22, 6000, .inl (fun _ => 0)))] H := hP
  have hD : va_D A [(h0, .inr (9, [v0, .ref q1, .ref q2, .ref q5, .ref q8, .ref q11, .ref q14, .ref q17, .ref q20, v9, v10, v11, v12, v13, v14, v15, v16, v17])), (q2, .inr (11, [.ref q3, .int 0])), (q3, .inl (cy4, 2500, .inl (fun _ => 0))), (q5, .inr (11, [.ref q6, .int 0])), (q6, .inl (cy7, 2500, .inl (fun _ => 0))), (q8, .inr (11, [.ref q9, .int 0])), (q9, .inl (cy10, 100, .inl (fun _ => 0))), (q11, .inr (11, [.ref q12, .int 0])), (q12, .inl (cy13, 100, .inl (fun _ => 0))), (q14, .inr (11, [.ref q15, .int 0])), (q15, .inl (cy16, 100, .inl (fun _ => 0))), (q17, .inr (11, [.ref q18, .int 0])), (q18, .inl (cy19, 100, .inl (fun _ => 0))), (q20, .inr (11, [.ref q21, .int 0])), (q21, .inl (cy22, 6000, .inl (fun _ => 0)))] := hD
  refine lv_aload_n hx hb dX2_init_109 rfl (lv_at hl 0 rfl) ?_
  refine lv_iconst (v := 1) hx hb dX2_init_110 (by decide) ?_
  refine va_put (D := (dC, dI)) (ci := 9) (v := .int 1) (ty := .int) (C := RX2) (T := TX2) (N := 18) hx hb hta naX2 tyX2 tyX2_ok nmX2 hown hK hP hD hS 0 rfl rfl 9 (by decide) (hta _ wm88) (fun _ h9 => h9) rfl (by decide +kernel) rfl rfl (Nat.le_of_ble_eq_true rfl) dX2_init_111 (fun H locs hP hD hS => ?_)
  have hP : va_P (dC, dI) vwCl [(h0, .inr (9, [v0, .ref q1, .ref q2, .ref q5, .ref q8, .ref q11, .ref q14, .ref q17, .ref q20, .int 1, v10, v11, v12, v13, v14, v15, v16, v17])), (q2, .inr (11, [.ref q3, .int 0])), (q3, .inl (cy4, 2500, .inl (fun _ => 0))), (q5, .inr (11, [.ref q6, .int 0])), (q6, .inl (cy7, 2500, .inl (fun _ => 0))), (q8, .inr (11, [.ref q9, .int 0])), (q9, .inl (cy10, 100, .inl (fun _ => 0))), (q11, .inr (11, [.ref q12, .int 0])), (q12, .inl (cy13, 100, .inl (fun _ => 0))), (q14, .inr (11, [.ref q15, .int 0])), (q15, .inl (cy16, 100, .inl (fun _ => 0))), (q17, .inr (11, [.ref q18, .int 0])), (q18, .inl (cy19, 100, .inl (fun _ => 0))), (q20, .inr (11, [.ref q21, .int 0])), (q21, .inl (cy22, 6000, .inl (fun _ => 0)))] H := hP
  have hD : va_D A [(h0, .inr (9, [v0, .ref q1, .ref q2, .ref q5, .ref q8, .ref q11, .ref q14, .ref q17, .ref q20, .int 1, v10, v11, v12, v13, v14, v15, v16, v17])), (q2, .inr (11, [.ref q3, .int 0])), (q3, .inl (cy4, 2500, .inl (fun _ => 0))), (q5, .inr (11, [.ref q6, .int 0])), (q6, .inl (cy7, 2500, .inl (fun _ => 0))), (q8, .inr (11, [.ref q9, .int 0])), (q9, .inl (cy10, 100, .inl (fun _ => 0))), (q11, .inr (11, [.ref q12, .int 0])), (q12, .inl (cy13, 100, .inl (fun _ => 0))), (q14, .inr (11, [.ref q15, .int 0])), (q15, .inl (cy16, 100, .inl (fun _ => 0))), (q17, .inr (11, [.ref q18, .int 0])), (q18, .inl (cy19, 100, .inl (fun _ => 0))), (q20, .inr (11, [.ref q21, .int 0])), (q21, .inl (cy22, 6000, .inl (fun _ => 0)))] := hD
  refine lv_aload_n hx hb dX2_init_114 rfl (lv_at hl 0 rfl) ?_
  refine lv_iconst (v := 1) hx hb dX2_init_115 (by decide) ?_
  refine va_put (D := (dC, dI)) (ci := 9) (v := .int 1) (ty := .int) (C := RX2) (T := TX2) (N := 18) hx hb hta naX2 tyX2 tyX2_ok nmX2 hown hK hP hD hS 0 rfl rfl 10 (by decide) (hta _ wm89) (fun _ h9 => h9) rfl (by decide +kernel) rfl rfl (Nat.le_of_ble_eq_true rfl) dX2_init_116 (fun H locs hP hD hS => ?_)
  have hP : va_P (dC, dI) vwCl [(h0, .inr (9, [v0, .ref q1, .ref q2, .ref q5, .ref q8, .ref q11, .ref q14, .ref q17, .ref q20, .int 1, .int 1, v11, v12, v13, v14, v15, v16, v17])), (q2, .inr (11, [.ref q3, .int 0])), (q3, .inl (cy4, 2500, .inl (fun _ => 0))), (q5, .inr (11, [.ref q6, .int 0])), (q6, .inl (cy7, 2500, .inl (fun _ => 0))), (q8, .inr (11, [.ref q9, .int 0])), (q9, .inl (cy10, 100, .inl (fun _ => 0))), (q11, .inr (11, [.ref q12, .int 0])), (q12, .inl (cy13, 100, .inl (fun _ => 0))), (q14, .inr (11, [.ref q15, .int 0])), (q15, .inl (cy16, 100, .inl (fun _ => 0))), (q17, .inr (11, [.ref q18, .int 0])), (q18, .inl (cy19, 100, .inl (fun _ => 0))), (q20, .inr (11, [.ref q21, .int 0])), (q21, .inl (cy22, 6000, .inl (fun _ => 0)))] H := hP
  have hD : va_D A [(h0, .inr (9, [v0, .ref q1, .ref q2, .ref q5, .ref q8, .ref q11, .ref q14, .ref q17, .ref q20, .int 1, .int 1, v11, v12, v13, v14, v15, v16, v17])), (q2, .inr (11, [.ref q3, .int 0])), (q3, .inl (cy4, 2500, .inl (fun _ => 0))), (q5, .inr (11, [.ref q6, .int 0])), (q6, .inl (cy7, 2500, .inl (fun _ => 0))), (q8, .inr (11, [.ref q9, .int 0])), (q9, .inl (cy10, 100, .inl (fun _ => 0))), (q11, .inr (11, [.ref q12, .int 0])), (q12, .inl (cy13, 100, .inl (fun _ => 0))), (q14, .inr (11, [.ref q15, .int 0])), (q15, .inl (cy16, 100, .inl (fun _ => 0))), (q17, .inr (11, [.ref q18, .int 0])), (q18, .inl (cy19, 100, .inl (fun _ => 0))), (q20, .inr (11, [.ref q21, .int 0])), (q21, .inl (cy22, 6000, .inl (fun _ => 0)))] := hD
  refine lv_aload_n hx hb dX2_init_119 rfl (lv_at hl 0 rfl) ?_
  refine lv_iconst (v := 0) hx hb dX2_init_120 (by decide) ?_
  refine va_put (D := (dC, dI)) (ci := 9) (v := .int 0) (ty := .int) (C := RX2) (T := TX2) (N := 18) hx hb hta naX2 tyX2 tyX2_ok nmX2 hown hK hP hD hS 0 rfl rfl 11 (by decide) (hta _ wm90) (fun _ h9 => h9) rfl (by decide +kernel) rfl rfl (Nat.le_of_ble_eq_true rfl) dX2_init_121 (fun H locs hP hD hS => ?_)
  have hP : va_P (dC, dI) vwCl [(h0, .inr (9, [v0, .ref q1, .ref q2, .ref q5, .ref q8, .ref q11, .ref q14, .ref q17, .ref q20, .int 1, .int 1, .int 0, v12, v13, v14, v15, v16, v17])), (q2, .inr (11, [.ref q3, .int 0])), (q3, .inl (cy4, 2500, .inl (fun _ => 0))), (q5, .inr (11, [.ref q6, .int 0])), (q6, .inl (cy7, 2500, .inl (fun _ => 0))), (q8, .inr (11, [.ref q9, .int 0])), (q9, .inl (cy10, 100, .inl (fun _ => 0))), (q11, .inr (11, [.ref q12, .int 0])), (q12, .inl (cy13, 100, .inl (fun _ => 0))), (q14, .inr (11, [.ref q15, .int 0])), (q15, .inl (cy16, 100, .inl (fun _ => 0))), (q17, .inr (11, [.ref q18, .int 0])), (q18, .inl (cy19, 100, .inl (fun _ => 0))), (q20, .inr (11, [.ref q21, .int 0])), (q21, .inl (cy22, 6000, .inl (fun _ => 0)))] H := hP
  have hD : va_D A [(h0, .inr (9, [v0, .ref q1, .ref q2, .ref q5, .ref q8, .ref q11, .ref q14, .ref q17, .ref q20, .int 1, .int 1, .int 0, v12, v13, v14, v15, v16, v17])), (q2, .inr (11, [.ref q3, .int 0])), (q3, .inl (cy4, 2500, .inl (fun _ => 0))), (q5, .inr (11, [.ref q6, .int 0])), (q6, .inl (cy7, 2500, .inl (fun _ => 0))), (q8, .inr (11, [.ref q9, .int 0])), (q9, .inl (cy10, 100, .inl (fun _ => 0))), (q11, .inr (11, [.ref q12, .int 0])), (q12, .inl (cy13, 100, .inl (fun _ => 0))), (q14, .inr (11, [.ref q15, .int 0])), (q15, .inl (cy16, 100, .inl (fun _ => 0))), (q17, .inr (11, [.ref q18, .int 0])), (q18, .inl (cy19, 100, .inl (fun _ => 0))), (q20, .inr (11, [.ref q21, .int 0])), (q21, .inl (cy22, 6000, .inl (fun _ => 0)))] := hD
  refine lv_aload_n hx hb dX2_init_124 rfl (lv_at hl 0 rfl) ?_
  refine lv_iconst (v := 1) hx hb dX2_init_125 (by decide) ?_
  refine va_put (D := (dC, dI)) (ci := 9) (v := .int 1) (ty := .int) (C := RX2) (T := TX2) (N := 18) hx hb hta naX2 tyX2 tyX2_ok nmX2 hown hK hP hD hS 0 rfl rfl 12 (by decide) (hta _ wm91) (fun _ h9 => h9) rfl (by decide +kernel) rfl rfl (Nat.le_of_ble_eq_true rfl) dX2_init_126 (fun H locs hP hD hS => ?_)
  have hP : va_P (dC, dI) vwCl [(h0, .inr (9, [v0, .ref q1, .ref q2, .ref q5, .ref q8, .ref q11, .ref q14, .ref q17, .ref q20, .int 1, .int 1, .int 0, .int 1, v13, v14, v15, v16, v17])), (q2, .inr (11, [.ref q3, .int 0])), (q3, .inl (cy4, 2500, .inl (fun _ => 0))), (q5, .inr (11, [.ref q6, .int 0])), (q6, .inl (cy7, 2500, .inl (fun _ => 0))), (q8, .inr (11, [.ref q9, .int 0])), (q9, .inl (cy10, 100, .inl (fun _ => 0))), (q11, .inr (11, [.ref q12, .int 0])), (q12, .inl (cy13, 100, .inl (fun _ => 0))), (q14, .inr (11, [.ref q15, .int 0])), (q15, .inl (cy16, 100, .inl (fun _ => 0))), (q17, .inr (11, [.ref q18, .int 0])), (q18, .inl (cy19, 100, .inl (fun _ => 0))), (q20, .inr (11, [.ref q21, .int 0])), (q21, .inl (cy22, 6000, .inl (fun _ => 0)))] H := hP
  have hD : va_D A [(h0, .inr (9, [v0, .ref q1, .ref q2, .ref q5, .ref q8, .ref q11, .ref q14, .ref q17, .ref q20, .int 1, .int 1, .int 0, .int 1, v13, v14, v15, v16, v17])), (q2, .inr (11, [.ref q3, .int 0])), (q3, .inl (cy4, 2500, .inl (fun _ => 0))), (q5, .inr (11, [.ref q6, .int 0])), (q6, .inl (cy7, 2500, .inl (fun _ => 0))), (q8, .inr (11, [.ref q9, .int 0])), (q9, .inl (cy10, 100, .inl (fun _ => 0))), (q11, .inr (11, [.ref q12, .int 0])), (q12, .inl (cy13, 100, .inl (fun _ => 0))), (q14, .inr (11, [.ref q15, .int 0])), (q15, .inl (cy16, 100, .inl (fun _ => 0))), (q17, .inr (11, [.ref q18, .int 0])), (q18, .inl (cy19, 100, .inl (fun _ => 0))), (q20, .inr (11, [.ref q21, .int 0])), (q21, .inl (cy22, 6000, .inl (fun _ => 0)))] := hD
  refine lv_aload_n hx hb dX2_init_129 rfl (lv_at hl 0 rfl) ?_
  refine lv_iconst (v := 0) hx hb dX2_init_130 (by decide) ?_
  refine va_put (D := (dC, dI)) (ci := 9) (v := .int 0) (ty := .int) (C := RX2) (T := TX2) (N := 18) hx hb hta naX2 tyX2 tyX2_ok nmX2 hown hK hP hD hS 0 rfl rfl 13 (by decide) (hta _ wm92) (fun _ h9 => h9) rfl (by decide +kernel) rfl rfl (Nat.le_of_ble_eq_true rfl) dX2_init_131 (fun H locs hP hD hS => ?_)
  have hP : va_P (dC, dI) vwCl [(h0, .inr (9, [v0, .ref q1, .ref q2, .ref q5, .ref q8, .ref q11, .ref q14, .ref q17, .ref q20, .int 1, .int 1, .int 0, .int 1, .int 0, v14, v15, v16, v17])), (q2, .inr (11, [.ref q3, .int 0])), (q3, .inl (cy4, 2500, .inl (fun _ => 0))), (q5, .inr (11, [.ref q6, .int 0])), (q6, .inl (cy7, 2500, .inl (fun _ => 0))), (q8, .inr (11, [.ref q9, .int 0])), (q9, .inl (cy10, 100, .inl (fun _ => 0))), (q11, .inr (11, [.ref q12, .int 0])), (q12, .inl (cy13, 100, .inl (fun _ => 0))), (q14, .inr (11, [.ref q15, .int 0])), (q15, .inl (cy16, 100, .inl (fun _ => 0))), (q17, .inr (11, [.ref q18, .int 0])), (q18, .inl (cy19, 100, .inl (fun _ => 0))), (q20, .inr (11, [.ref q21, .int 0])), (q21, .inl (cy22, 6000, .inl (fun _ => 0)))] H := hP
  have hD : va_D A [(h0, .inr (9, [v0, .ref q1, .ref q2, .ref q5, .ref q8, .ref q11, .ref q14, .ref q17, .ref q20, .int 1, .int 1, .int 0, .int 1, .int 0, v14, v15, v16, v17])), (q2, .inr (11, [.ref q3, .int 0])), (q3, .inl (cy4, 2500, .inl (fun _ => 0))), (q5, .inr (11, [.ref q6, .int 0])), (q6, .inl (cy7, 2500, .inl (fun _ => 0))), (q8, .inr (11, [.ref q9, .int 0])), (q9, .inl (cy10, 100, .inl (fun _ => 0))), (q11, .inr (11, [.ref q12, .int 0])), (q12, .inl (cy13, 100, .inl (fun _ => 0))), (q14, .inr (11, [.ref q15, .int 0])), (q15, .inl (cy16, 100, .inl (fun _ => 0))), (q17, .inr (11, [.ref q18, .int 0])), (q18, .inl (cy19, 100, .inl (fun _ => 0))), (q20, .inr (11, [.ref q21, .int 0])), (q21, .inl (cy22, 6000, .inl (fun _ => 0)))] := hD
  refine lv_aload_n hx hb dX2_init_134 rfl (lv_at hl 0 rfl) ?_
  refine lv_iconst (v := 0) hx hb dX2_init_135 (by decide) ?_
  refine va_put (D := (dC, dI)) (ci := 9) (v := .int 0) (ty := .int) (C := RX2) (T := TX2) (N := 18) hx hb hta naX2 tyX2 tyX2_ok nmX2 hown hK hP hD hS 0 rfl rfl 14 (by decide) (hta _ wm93) (fun _ h9 => h9) rfl (by decide +kernel) rfl rfl (Nat.le_of_ble_eq_true rfl) dX2_init_136 (fun H locs hP hD hS => ?_)
  have hP : va_P (dC, dI) vwCl [(h0, .inr (9, [v0, .ref q1, .ref q2, .ref q5, .ref q8, .ref q11, .ref q14, .ref q17, .ref q20, .int 1, .int 1, .int 0, .int 1, .int 0, .int 0, v15, v16, v17])), (q2, .inr (11, [.ref q3, .int 0])), (q3, .inl (cy4, 2500, .inl (fun _ => 0))), (q5, .inr (11, [.ref q6, .int 0])), (q6, .inl (cy7, 2500, .inl (fun _ => 0))), (q8, .inr (11, [.ref q9, .int 0])), (q9, .inl (cy10, 100, .inl (fun _ => 0))), (q11, .inr (11, [.ref q12, .int 0])), (q12, .inl (cy13, 100, .inl (fun _ => 0))), (q14, .inr (11, [.ref q15, .int 0])), (q15, .inl (cy16, 100, .inl (fun _ => 0))), (q17, .inr (11, [.ref q18, .int 0])), (q18, .inl (cy19, 100, .inl (fun _ => 0))), (q20, .inr (11, [.ref q21, .int 0])), (q21, .inl (cy22, 6000, .inl (fun _ => 0)))] H := hP
  have hD : va_D A [(h0, .inr (9, [v0, .ref q1, .ref q2, .ref q5, .ref q8, .ref q11, .ref q14, .ref q17, .ref q20, .int 1, .int 1, .int 0, .int 1, .int 0, .int 0, v15, v16, v17])), (q2, .inr (11, [.ref q3, .int 0])), (q3, .inl (cy4, 2500, .inl (fun _ => 0))), (q5, .inr (11, [.ref q6, .int 0])), (q6, .inl (cy7, 2500, .inl (fun _ => 0))), (q8, .inr (11, [.ref q9, .int 0])), (q9, .inl (cy10, 100, .inl (fun _ => 0))), (q11, .inr (11, [.ref q12, .int 0])), (q12, .inl (cy13, 100, .inl (fun _ => 0))), (q14, .inr (11, [.ref q15, .int 0])), (q15, .inl (cy16, 100, .inl (fun _ => 0))), (q17, .inr (11, [.ref q18, .int 0])), (q18, .inl (cy19, 100, .inl (fun _ => 0))), (q20, .inr (11, [.ref q21, .int 0])), (q21, .inl (cy22, 6000, .inl (fun _ => 0)))] := hD
  refine lv_aload_n hx hb dX2_init_139 rfl (lv_at hl 0 rfl) ?_
  refine lv_iconst (v := 0) hx hb dX2_init_140 (by decide) ?_
  refine va_put (D := (dC, dI)) (ci := 9) (v := .int 0) (ty := .int) (C := RX2) (T := TX2) (N := 18) hx hb hta naX2 tyX2 tyX2_ok nmX2 hown hK hP hD hS 0 rfl rfl 15 (by decide) (hta _ wm94) (fun _ h9 => h9) rfl (by decide +kernel) rfl rfl (Nat.le_of_ble_eq_true rfl) dX2_init_141 (fun H locs hP hD hS => ?_)
  have hP : va_P (dC, dI) vwCl [(h0, .inr (9, [v0, .ref q1, .ref q2, .ref q5, .ref q8, .ref q11, .ref q14, .ref q17, .ref q20, .int 1, .int 1, .int 0, .int 1, .int 0, .int 0, .int 0, v16, v17])), (q2, .inr (11, [.ref q3, .int 0])), (q3, .inl (cy4, 2500, .inl (fun _ => 0))), (q5, .inr (11, [.ref q6, .int 0])), (q6, .inl (cy7, 2500, .inl (fun _ => 0))), (q8, .inr (11, [.ref q9, .int 0])), (q9, .inl (cy10, 100, .inl (fun _ => 0))), (q11, .inr (11, [.ref q12, .int 0])), (q12, .inl (cy13, 100, .inl (fun _ => 0))), (q14, .inr (11, [.ref q15, .int 0])), (q15, .inl (cy16, 100, .inl (fun _ => 0))), (q17, .inr (11, [.ref q18, .int 0])), (q18, .inl (cy19, 100, .inl (fun _ => 0))), (q20, .inr (11, [.ref q21, .int 0])), (q21, .inl (cy22, 6000, .inl (fun _ => 0)))] H := hP
  have hD : va_D A [(h0, .inr (9, [v0, .ref q1, .ref q2, .ref q5, .ref q8, .ref q11, .ref q14, .ref q17, .ref q20, .int 1, .int 1, .int 0, .int 1, .int 0, .int 0, .int 0, v16, v17])), (q2, .inr (11, [.ref q3, .int 0])), (q3, .inl (cy4, 2500, .inl (fun _ => 0))), (q5, .inr (11, [.ref q6, .int 0])), (q6, .inl (cy7, 2500, .inl (fun _ => 0))), (q8, .inr (11, [.ref q9, .int 0])), (q9, .inl (cy10, 100, .inl (fun _ => 0))), (q11, .inr (11, [.ref q12, .int 0])), (q12, .inl (cy13, 100, .inl (fun _ => 0))), (q14, .inr (11, [.ref q15, .int 0])), (q15, .inl (cy16, 100, .inl (fun _ => 0))), (q17, .inr (11, [.ref q18, .int 0])), (q18, .inl (cy19, 100, .inl (fun _ => 0))), (q20, .inr (11, [.ref q21, .int 0])), (q21, .inl (cy22, 6000, .inl (fun _ => 0)))] := hD
  refine lv_aload_n hx hb dX2_init_144 rfl (lv_at hl 0 rfl) ?_
  refine lv_iconst (v := 0) hx hb dX2_init_145 (by decide) ?_
  refine va_put (D := (dC, dI)) (ci := 9) (v := .int 0) (ty := .int) (C := RX2) (T := TX2) (N := 18) hx hb hta naX2 tyX2 tyX2_ok nmX2 hown hK hP hD hS 0 rfl rfl 16 (by decide) (hta _ wm95) (fun _ h9 => h9) rfl (by decide +kernel) rfl rfl (Nat.le_of_ble_eq_true rfl) dX2_init_146 (fun H locs hP hD hS => ?_)
  have hP : va_P (dC, dI) vwCl [(h0, .inr (9, [v0, .ref q1, .ref q2, .ref q5, .ref q8, .ref q11, .ref q14, .ref q17, .ref q20, .int 1, .int 1, .int 0, .int 1, .int 0, .int 0, .int 0, .int 0, v17])), (q2, .inr (11, [.ref q3, .int 0])), (q3, .inl (cy4, 2500, .inl (fun _ => 0))), (q5, .inr (11, [.ref q6, .int 0])), (q6, .inl (cy7, 2500, .inl (fun _ => 0))), (q8, .inr (11, [.ref q9, .int 0])), (q9, .inl (cy10, 100, .inl (fun _ => 0))), (q11, .inr (11, [.ref q12, .int 0])), (q12, .inl (cy13, 100, .inl (fun _ => 0))), (q14, .inr (11, [.ref q15, .int 0])), (q15, .inl (cy16, 100, .inl (fun _ => 0))), (q17, .inr (11, [.ref q18, .int 0])), (q18, .inl (cy19, 100, .inl (fun _ => 0))), (q20, .inr (11, [.ref q21, .int 0])), (q21, .inl (cy22, 6000, .inl (fun _ => 0)))] H := hP
  have hD : va_D A [(h0, .inr (9, [v0, .ref q1, .ref q2, .ref q5, .ref q8, .ref q11, .ref q14, .ref q17, .ref q20, .int 1, .int 1, .int 0, .int 1, .int 0, .int 0, .int 0, .int 0, v17])), (q2, .inr (11, [.ref q3, .int 0])), (q3, .inl (cy4, 2500, .inl (fun _ => 0))), (q5, .inr (11, [.ref q6, .int 0])), (q6, .inl (cy7, 2500, .inl (fun _ => 0))), (q8, .inr (11, [.ref q9, .int 0])), (q9, .inl (cy10, 100, .inl (fun _ => 0))), (q11, .inr (11, [.ref q12, .int 0])), (q12, .inl (cy13, 100, .inl (fun _ => 0))), (q14, .inr (11, [.ref q15, .int 0])), (q15, .inl (cy16, 100, .inl (fun _ => 0))), (q17, .inr (11, [.ref q18, .int 0])), (q18, .inl (cy19, 100, .inl (fun _ => 0))), (q20, .inr (11, [.ref q21, .int 0])), (q21, .inl (cy22, 6000, .inl (fun _ => 0)))] := hD
  refine lv_aload_n hx hb dX2_init_149 rfl (lv_at hl 0 rfl) ?_
  refine lv_iconst (v := (-1)) hx hb dX2_init_150 (by decide) ?_
  refine va_put (D := (dC, dI)) (ci := 9) (v := .int (-1)) (ty := .int) (C := RX2) (T := TX2) (N := 18) hx hb hta naX2 tyX2 tyX2_ok nmX2 hown hK hP hD hS 0 rfl rfl 17 (by decide) (hta _ wm96) (fun _ h9 => h9) rfl (by decide +kernel) rfl rfl (Nat.le_of_ble_eq_true rfl) dX2_init_151 (fun H locs hP hD hS => ?_)
  have hP : va_P (dC, dI) vwCl [(h0, .inr (9, [v0, .ref q1, .ref q2, .ref q5, .ref q8, .ref q11, .ref q14, .ref q17, .ref q20, .int 1, .int 1, .int 0, .int 1, .int 0, .int 0, .int 0, .int 0, .int (-1)])), (q2, .inr (11, [.ref q3, .int 0])), (q3, .inl (cy4, 2500, .inl (fun _ => 0))), (q5, .inr (11, [.ref q6, .int 0])), (q6, .inl (cy7, 2500, .inl (fun _ => 0))), (q8, .inr (11, [.ref q9, .int 0])), (q9, .inl (cy10, 100, .inl (fun _ => 0))), (q11, .inr (11, [.ref q12, .int 0])), (q12, .inl (cy13, 100, .inl (fun _ => 0))), (q14, .inr (11, [.ref q15, .int 0])), (q15, .inl (cy16, 100, .inl (fun _ => 0))), (q17, .inr (11, [.ref q18, .int 0])), (q18, .inl (cy19, 100, .inl (fun _ => 0))), (q20, .inr (11, [.ref q21, .int 0])), (q21, .inl (cy22, 6000, .inl (fun _ => 0)))] H := hP
  have hD : va_D A [(h0, .inr (9, [v0, .ref q1, .ref q2, .ref q5, .ref q8, .ref q11, .ref q14, .ref q17, .ref q20, .int 1, .int 1, .int 0, .int 1, .int 0, .int 0, .int 0, .int 0, .int (-1)])), (q2, .inr (11, [.ref q3, .int 0])), (q3, .inl (cy4, 2500, .inl (fun _ => 0))), (q5, .inr (11, [.ref q6, .int 0])), (q6, .inl (cy7, 2500, .inl (fun _ => 0))), (q8, .inr (11, [.ref q9, .int 0])), (q9, .inl (cy10, 100, .inl (fun _ => 0))), (q11, .inr (11, [.ref q12, .int 0])), (q12, .inl (cy13, 100, .inl (fun _ => 0))), (q14, .inr (11, [.ref q15, .int 0])), (q15, .inl (cy16, 100, .inl (fun _ => 0))), (q17, .inr (11, [.ref q18, .int 0])), (q18, .inl (cy19, 100, .inl (fun _ => 0))), (q20, .inr (11, [.ref q21, .int 0])), (q21, .inl (cy22, 6000, .inl (fun _ => 0)))] := hD
  refine lv_aload_n hx hb dX2_init_154 rfl (lv_at hl 0 rfl) ?_
  refine va_new (ci := 12) (fs := [.null, .null, .null, .null, .null, .null, .null, .null, .null, .null]) (C := RX5) (T := TX5) (N := 10) hx hb hta naX5 tyX5 tyX5_ok hown (hta _ wm97) (hta _ wm98) (hta _ wm99) hK hP hD hS hA rfl (fun j hj => by rcases (show j = 0 ∨ j = 1 ∨ j = 2 ∨ j = 3 ∨ j = 4 ∨ j = 5 ∨ j = 6 ∨ j = 7 ∨ j = 8 ∨ j = 9 by omega) with rfl | rfl | rfl | rfl | rfl | rfl | rfl | rfl | rfl | rfl <;> rfl) (Nat.le_of_ble_eq_true rfl) (Nat.le_of_ble_eq_true rfl) dX2_init_155 (fun q23 H hP hD hS => ?_)
  have hP : va_P (dC, dI) vwCl [(h0, .inr (9, [v0, .ref q1, .ref q2, .ref q5, .ref q8, .ref q11, .ref q14, .ref q17, .ref q20, .int 1, .int 1, .int 0, .int 1, .int 0, .int 0, .int 0, .int 0, .int (-1)])), (q2, .inr (11, [.ref q3, .int 0])), (q3, .inl (cy4, 2500, .inl (fun _ => 0))), (q5, .inr (11, [.ref q6, .int 0])), (q6, .inl (cy7, 2500, .inl (fun _ => 0))), (q8, .inr (11, [.ref q9, .int 0])), (q9, .inl (cy10, 100, .inl (fun _ => 0))), (q11, .inr (11, [.ref q12, .int 0])), (q12, .inl (cy13, 100, .inl (fun _ => 0))), (q14, .inr (11, [.ref q15, .int 0])), (q15, .inl (cy16, 100, .inl (fun _ => 0))), (q17, .inr (11, [.ref q18, .int 0])), (q18, .inl (cy19, 100, .inl (fun _ => 0))), (q20, .inr (11, [.ref q21, .int 0])), (q21, .inl (cy22, 6000, .inl (fun _ => 0))), (q23, .inr (12, [.null, .null, .null, .null, .null, .null, .null, .null, .null, .null]))] H := hP
  have hD : va_D A [(h0, .inr (9, [v0, .ref q1, .ref q2, .ref q5, .ref q8, .ref q11, .ref q14, .ref q17, .ref q20, .int 1, .int 1, .int 0, .int 1, .int 0, .int 0, .int 0, .int 0, .int (-1)])), (q2, .inr (11, [.ref q3, .int 0])), (q3, .inl (cy4, 2500, .inl (fun _ => 0))), (q5, .inr (11, [.ref q6, .int 0])), (q6, .inl (cy7, 2500, .inl (fun _ => 0))), (q8, .inr (11, [.ref q9, .int 0])), (q9, .inl (cy10, 100, .inl (fun _ => 0))), (q11, .inr (11, [.ref q12, .int 0])), (q12, .inl (cy13, 100, .inl (fun _ => 0))), (q14, .inr (11, [.ref q15, .int 0])), (q15, .inl (cy16, 100, .inl (fun _ => 0))), (q17, .inr (11, [.ref q18, .int 0])), (q18, .inl (cy19, 100, .inl (fun _ => 0))), (q20, .inr (11, [.ref q21, .int 0])), (q21, .inl (cy22, 6000, .inl (fun _ => 0))), (q23, .inr (12, [.null, .null, .null, .null, .null, .null, .null, .null, .null, .null]))] := hD
  refine W.widen (k := 20) (n := 12031) (Nat.le_of_ble_eq_true rfl) (Nat.le_of_ble_eq_true rfl) ?_
  refine lv_dup hx hb dX2_init_158 rfl ?_
  refine lv_aload_n hx hb dX2_init_159 rfl (lv_at hl 1 rfl) ?_
  have hPc := hP.sub (ws' := [(q23, .inr (12, [.null, .null, .null, .null, .null, .null, .null, .null, .null, .null]))]) [15] rfl
  have hDc := hD.sub (ws' := [(q23, .inr (12, [.null, .null, .null, .null, .null, .null, .null, .null, .null, .null]))]) [15] (by decide) rfl
  have hKc := hK.sub (tys' := []) [] rfl
  have hFc := va_free (wc := [(q23, .inr (12, [.null, .null, .null, .null, .null, .null, .null, .null, .null, .null]))]) hD hS hA [15] rfl
  refine va_callv (va_runI (As := [.ref h1]) (rest := [.ref q23, .ref h0]) ⟨hx, hb, hml, hown, hts⟩ (kX5_init l dC dI g H.size q23 h1 .null .null .null .null .null .null .null .null .null .null ) (cwI 1 hts (ns_g0 wm113) rfl rfl rfl (hta _ wm99) (hta _ wm117) (hta _ wm118) rfl (by decide +kernel) ⟨Nat.le_of_ble_eq_true rfl, Nat.le_of_ble_eq_true rfl⟩) ⟨fun a U gg mk q => by obtain ⟨q0, q1, qP, qK, qD, qF⟩ := q; exact ⟨q0, q1, qP, va_K.moved (u := U) (U := U.calling gg mk a) (Vm.Alike.refl U.vm) qK, qD, ns_same qF⟩, fun U hU hW => ⟨rfl, by rw [hU], by rw [hU]; exact hPc, va_K.moved hW.alike hKc, hDc.weaken (fun _ _ _ _ => trivial), ns_call hF hS hFc hU hW⟩⟩ rfl rfl hl.1 rfl (lv_room (Nat.le_of_ble_eq_true rfl)) dX2_init_160 ⟨Nat.le_of_ble_eq_true rfl, Nat.le_of_ble_eq_true rfl⟩) hS (fun q _ h => hFc q h) hFc (fun u t H1 locs ht hvm hw hB hz1 hk1 hS => ?_)
  obtain ⟨hP1, hK1, hD1⟩ := hB
  rw [ht] at hP1
  have hK1 := va_K.moved hvm.symm hK1
  obtain ⟨hP, hD⟩ := va_join (wr := [(h0, .inr (9, [v0, .ref q1, .ref q2, .ref q5, .ref q8, .ref q11, .ref q14, .ref q17, .ref q20, .int 1, .int 1, .int 0, .int 1, .int 0, .int 0, .int 0, .int 0, .int (-1)])), (q2, .inr (11, [.ref q3, .int 0])), (q3, .inl (cy4, 2500, .inl (fun _ => 0))), (q5, .inr (11, [.ref q6, .int 0])), (q6, .inl (cy7, 2500, .inl (fun _ => 0))), (q8, .inr (11, [.ref q9, .int 0])), (q9, .inl (cy10, 100, .inl (fun _ => 0))), (q11, .inr (11, [.ref q12, .int 0])), (q12, .inl (cy13, 100, .inl (fun _ => 0))), (q14, .inr (11, [.ref q15, .int 0])), (q15, .inl (cy16, 100, .inl (fun _ => 0))), (q17, .inr (11, [.ref q18, .int 0])), (q18, .inl (cy19, 100, .inl (fun _ => 0))), (q20, .inr (11, [.ref q21, .int 0])), (q21, .inl (cy22, 6000, .inl (fun _ => 0)))]) (w1 := []) hP hD [15] [0, 1, 2, 3, 4, 5, 6, 7, 8, 9, 10, 11, 12, 13, 14] rfl rfl (by decide) (by decide) hk1 hFc hP1 hD1
  have hK := (hK.sub (tys' := [(cy4, .int), (cy7, .int), (cy10, .int), (cy13, .int), (cy16, .int), (cy19, .int), (cy22, .int)]) [0, 1, 2, 3, 4, 5, 6] rfl).app hK1
  generalize H1 = H at hP hS ⊢
  have hP : va_P (dC, dI) vwCl [(h0, .inr (9, [v0, .ref q1, .ref q2, .ref q5, .ref q8, .ref q11, .ref q14, .ref q17, .ref q20, .int 1, .int 1, .int 0, .int 1, .int 0, .int 0, .int 0, .int 0, .int (-1)])), (q2, .inr (11, [.ref q3, .int 0])), (q3, .inl (cy4, 2500, .inl (fun _ => 0))), (q5, .inr (11, [.ref q6, .int 0])), (q6, .inl (cy7, 2500, .inl (fun _ => 0))), (q8, .inr (11, [.ref q9, .int 0])), (q9, .inl (cy10, 100, .inl (fun _ => 0))), (q11, .inr (11, [.ref q12, .int 0])), (q12, .inl (cy13, 100, .inl (fun _ => 0))), (q14, .inr (11, [.ref q15, .int 0])), (q15, .inl (cy16, 100, .inl (fun _ => 0))), (q17, .inr (11, [.ref q18, .int 0])), (q18, .inl (cy19, 100, .inl (fun _ => 0))), (q20, .inr (11, [.ref q21, .int 0])), (q21, .inl (cy22, 6000, .inl (fun _ => 0)))] H := hP
  have hD : va_D A [(h0, .inr (9, [v0, .ref q1, .ref q2, .ref q5, .ref q8, .ref q11, .ref q14, .ref q17, .ref q20, .int 1, .int 1, .int 0, .int 1, .int 0, .int 0, .int 0, .int 0, .int (-1)])), (q2, .inr (11, [.ref q3, .int 0])), (q3, .inl (cy4, 2500, .inl (fun _ => 0))), (q5, .inr (11, [.ref q6, .int 0])), (q6, .inl (cy7, 2500, .inl (fun _ => 0))), (q8, .inr (11, [.ref q9, .int 0])), (q9, .inl (cy10, 100, .inl (fun _ => 0))), (q11, .inr (11, [.ref q12, .int 0])), (q12, .inl (cy13, 100, .inl (fun _ => 0))), (q14, .inr (11, [.ref q15, .int 0])), (q15, .inl (cy16, 100, .inl (fun _ => 0))), (q17, .inr (11, [.ref q18, .int 0])), (q18, .inl (cy19, 100, .inl (fun _ => 0))), (q20, .inr (11, [.ref q21, .int 0])), (q21, .inl (cy22, 6000, .inl (fun _ => 0)))] := hD
  have hK : va_K (dC, dI) vwCl [(cy4, .int), (cy7, .int), (cy10, .int), (cy13, .int), (cy16, .int), (cy19, .int), (cy22, .int)] s := hK
  refine W.widen (k := 38) (n := 32153) (Nat.le_of_ble_eq_true rfl) (Nat.le_of_ble_eq_true rfl) ?_
  refine va_putF (D := (dC, dI)) (ci := 9) (v := .ref q23) (ty := .object "Nestprint$Script") (C := RX2) (T := TX2) (N := 18) hx hb hta naX2 tyX2 tyX2_ok nmX2 hown hK hP hD hS 0 rfl rfl 0 (by decide) (hta _ wm114) (fun _ h9 => h9) rfl hin rfl (by decide +kernel) rfl rfl (Nat.le_of_ble_eq_true rfl) dX2_init_163 (fun H locs hP hD hS => ?_)
  have hP : va_P (dC, dI) vwCl [(h0, .inr (9, [.ref q23, .ref q1, .ref q2, .ref q5, .ref q8, .ref q11, .ref q14, .ref q17, .ref q20, .int 1, .int 1, .int 0, .int 1, .int 0, .int 0, .int 0, .int 0, .int (-1)])), (q2, .inr (11, [.ref q3, .int 0])), (q3, .inl (cy4, 2500, .inl (fun _ => 0))), (q5, .inr (11, [.ref q6, .int 0])), (q6, .inl (cy7, 2500, .inl (fun _ => 0))), (q8, .inr (11, [.ref q9, .int 0])), (q9, .inl (cy10, 100, .inl (fun _ => 0))), (q11, .inr (11, [.ref q12, .int 0])), (q12, .inl (cy13, 100, .inl (fun _ => 0))), (q14, .inr (11, [.ref q15, .int 0])), (q15, .inl (cy16, 100, .inl (fun _ => 0))), (q17, .inr (11, [.ref q18, .int 0])), (q18, .inl (cy19, 100, .inl (fun _ => 0))), (q20, .inr (11, [.ref q21, .int 0])), (q21, .inl (cy22, 6000, .inl (fun _ => 0)))] H := hP
  have hD : va_D A [(h0, .inr (9, [.ref q23, .ref q1, .ref q2, .ref q5, .ref q8, .ref q11, .ref q14, .ref q17, .ref q20, .int 1, .int 1, .int 0, .int 1, .int 0, .int 0, .int 0, .int 0, .int (-1)])), (q2, .inr (11, [.ref q3, .int 0])), (q3, .inl (cy4, 2500, .inl (fun _ => 0))), (q5, .inr (11, [.ref q6, .int 0])), (q6, .inl (cy7, 2500, .inl (fun _ => 0))), (q8, .inr (11, [.ref q9, .int 0])), (q9, .inl (cy10, 100, .inl (fun _ => 0))), (q11, .inr (11, [.ref q12, .int 0])), (q12, .inl (cy13, 100, .inl (fun _ => 0))), (q14, .inr (11, [.ref q15, .int 0])), (q15, .inl (cy16, 100, .inl (fun _ => 0))), (q17, .inr (11, [.ref q18, .int 0])), (q18, .inl (cy19, 100, .inl (fun _ => 0))), (q20, .inr (11, [.ref q21, .int 0])), (q21, .inl (cy22, 6000, .inl (fun _ => 0)))] := hD
  have hP9 := hP.sub (ws' := []) [] rfl
  have hD9 := hD.sub (ws' := []) [] (by decide) rfl
  have hK9 := hK.sub (tys' := []) [] rfl
  refine W.widen (k := 38) (n := 32153) (Nat.le_of_ble_eq_true rfl) (Nat.le_of_ble_eq_true rfl) ?_
  exact W.vret hx hb hr (fun t ht hW => ⟨⟨(), rfl, trivial, by rw [ht]; exact hP9, va_K.moved hW.alike hK9, hD9⟩, hS.F ht⟩) hS.2.2 dX2_init_166
set_option maxHeartbeats 4000000 in
set_option maxRecDepth 100000 in
theorem kX3_addText_7 (l : Launch) (dC : Nat → ClassId) (dI : Nat → Nat → Nat) (g : Nat → Nat) (sz : Nat) (h0 : Nat) (h1 : Nat) (h2 : Nat) (h3 : Nat) (h4 : Nat) (h5 : Nat) (h6 : Nat) (h7 : Nat) (h8 : Nat) (h9 : Nat) (h10 : Nat) (h11 : Nat) (h12 : Nat) (h13 : Nat) (v0 : Value) (v1 : Value) (v2 : Value) (cc0 : ClassId) (f0 : Nat → Int32) (cc1 : ClassId) (f1 : Nat → Int32) (cc2 : ClassId) (f2 : Nat → Int32) (cc3 : ClassId) (f3 : Nat → Int32) (cc4 : ClassId) (f4 : Nat → Int32) (cc5 : ClassId) (f5 : Nat → Int32) : Met l yX3_addText wbX3_addText ({ frames := 2, cells := 0, slots := 0, locals := 47 }) (va_Pc [.ref h0, .int 7] (fun U => U.heap.size = sz ∧ va_P (dC, dI) vwCl [(h0, .inr (10, [v0, .ref h2, .ref h4, .ref h6, .ref h8, .ref h10, .ref h12, v1, .ref h1])), (h1, .inr (11, [v2, .int 7])), (h2, .inr (11, [.ref h3, .int 0])), (h3, .inl (cc0, 4960, .inl f0)), (h4, .inr (11, [.ref h5, .int 0])), (h5, .inl (cc1, 4960, .inl f1)), (h6, .inr (11, [.ref h7, .int 0])), (h7, .inl (cc2, 4960, .inl f2)), (h8, .inr (11, [.ref h9, .int 0])), (h9, .inl (cc3, 4960, .inl f3)), (h10, .inr (11, [.ref h11, .int 0])), (h11, .inl (cc4, 4960, .inl f4)), (h12, .inr (11, [.ref h13, .int 0])), (h13, .inl (cc5, 4960, .inl f5))] U.heap ∧ va_K (dC, dI) vwCl [(cc0, .int), (cc1, .int), (cc2, .int), (cc3, .int), (cc4, .int), (cc5, .int)] U ∧ va_D (fun _ => True) [(h0, .inr (10, [v0, .ref h2, .ref h4, .ref h6, .ref h8, .ref h10, .ref h12, v1, .ref h1])), (h1, .inr (11, [v2, .int 7])), (h2, .inr (11, [.ref h3, .int 0])), (h3, .inl (cc0, 4960, .inl f0)), (h4, .inr (11, [.ref h5, .int 0])), (h5, .inl (cc1, 4960, .inl f1)), (h6, .inr (11, [.ref h7, .int 0])), (h7, .inl (cc2, 4960, .inl f2)), (h8, .inr (11, [.ref h9, .int 0])), (h9, .inl (cc3, 4960, .inl f3)), (h10, .inr (11, [.ref h11, .int 0])), (h11, .inl (cc4, 4960, .inl f4)), (h12, .inr (11, [.ref h13, .int 0])), (h13, .inl (cc5, 4960, .inl f5))] ∧ ns_F g (va_A [(h0, .inr (10, [v0, .ref h2, .ref h4, .ref h6, .ref h8, .ref h10, .ref h12, v1, .ref h1])), (h1, .inr (11, [v2, .int 7])), (h2, .inr (11, [.ref h3, .int 0])), (h3, .inl (cc0, 4960, .inl f0)), (h4, .inr (11, [.ref h5, .int 0])), (h5, .inl (cc1, 4960, .inl f1)), (h6, .inr (11, [.ref h7, .int 0])), (h7, .inl (cc2, 4960, .inl f2)), (h8, .inr (11, [.ref h9, .int 0])), (h9, .inl (cc3, 4960, .inl f3)), (h10, .inr (11, [.ref h11, .int 0])), (h11, .inl (cc4, 4960, .inl f4)), (h12, .inr (11, [.ref h13, .int 0])), (h13, .inl (cc5, 4960, .inl f5))] sz) U U.heap)) (va_Qi (fun (r : Int32) (_ : Unit) => r = 0) (fun _ t => va_P (dC, dI) vwCl [(h1, .inr (11, [v2, .int 7])), (h0, .inr (10, [v0, .ref h2, .ref h4, .ref h6, .ref h8, .ref h10, .ref h12, v1, .ref h1])), (h3, .inl (cc0, 4960, .inl (upd (f0) 0 0))), (h4, .inr (11, [.ref h5, .int 1])), (h5, .inl (cc1, 4960, .inl (upd (f1) 0 0))), (h6, .inr (11, [.ref h7, .int 1])), (h7, .inl (cc2, 4960, .inl (upd (f2) 0 7))), (h8, .inr (11, [.ref h9, .int 1])), (h9, .inl (cc3, 4960, .inl (upd (f3) 0 0))), (h10, .inr (11, [.ref h11, .int 1])), (h11, .inl (cc4, 4960, .inl (upd (f4) 0 1))), (h12, .inr (11, [.ref h13, .int 1])), (h13, .inl (cc5, 4960, .inl (upd (f5) 0 1))), (h2, .inr (11, [.ref h3, .int 1]))] t.heap ∧ va_K (dC, dI) vwCl [(cc0, .int), (cc1, .int), (cc2, .int), (cc3, .int), (cc4, .int), (cc5, .int)] t ∧ va_D (va_A [(h0, .inr (10, [v0, .ref h2, .ref h4, .ref h6, .ref h8, .ref h10, .ref h12, v1, .ref h1])), (h1, .inr (11, [v2, .int 7])), (h2, .inr (11, [.ref h3, .int 0])), (h3, .inl (cc0, 4960, .inl f0)), (h4, .inr (11, [.ref h5, .int 0])), (h5, .inl (cc1, 4960, .inl f1)), (h6, .inr (11, [.ref h7, .int 0])), (h7, .inl (cc2, 4960, .inl f2)), (h8, .inr (11, [.ref h9, .int 0])), (h9, .inl (cc3, 4960, .inl f3)), (h10, .inr (11, [.ref h11, .int 0])), (h11, .inl (cc4, 4960, .inl f4)), (h12, .inr (11, [.ref h13, .int 0])), (h13, .inl (cc5, 4960, .inl f5))] sz) [(h1, .inr (11, [v2, .int 7])), (h0, .inr (10, [v0, .ref h2, .ref h4, .ref h6, .ref h8, .ref h10, .ref h12, v1, .ref h1])), (h3, .inl (cc0, 4960, .inl (upd (f0) 0 0))), (h4, .inr (11, [.ref h5, .int 1])), (h5, .inl (cc1, 4960, .inl (upd (f1) 0 0))), (h6, .inr (11, [.ref h7, .int 1])), (h7, .inl (cc2, 4960, .inl (upd (f2) 0 7))), (h8, .inr (11, [.ref h9, .int 1])), (h9, .inl (cc3, 4960, .inl (upd (f3) 0 0))), (h10, .inr (11, [.ref h11, .int 1])), (h11, .inl (cc4, 4960, .inl (upd (f4) 0 1))), (h12, .inr (11, [.ref h13, .int 1])), (h13, .inl (cc5, 4960, .inl (upd (f5) 0 1))), (h2, .inr (11, [.ref h3, .int 1]))]) (va_A [(h0, .inr (10, [v0, .ref h2, .ref h4, .ref h6, .ref h8, .ref h10, .ref h12, v1, .ref h1])), (h1, .inr (11, [v2, .int 7])), (h2, .inr (11, [.ref h3, .int 0])), (h3, .inl (cc0, 4960, .inl f0)), (h4, .inr (11, [.ref h5, .int 0])), (h5, .inl (cc1, 4960, .inl f1)), (h6, .inr (11, [.ref h7, .int 0])), (h7, .inl (cc2, 4960, .inl f2)), (h8, .inr (11, [.ref h9, .int 0])), (h9, .inl (cc3, 4960, .inl f3)), (h10, .inr (11, [.ref h11, .int 0])), (h11, .inl (cc4, 4960, .inl f4)), (h12, .inr (11, [.ref h13, .int 0])), (h13, .inl (cc5, 4960, .inl f5))] sz)) 0 0 (va_A [(h0, .inr (10, [v0, .ref h2, .ref h4, .ref h6, .ref h8, .ref h10, .ref h12, v1, .ref h1])), (h1, .inr (11, [v2, .int 7])), (h2, .inr (11, [.ref h3, .int 0])), (h3, .inl (cc0, 4960, .inl f0)), (h4, .inr (11, [.ref h5, .int 0])), (h5, .inl (cc1, 4960, .inl f1)), (h6, .inr (11, [.ref h7, .int 0])), (h7, .inl (cc2, 4960, .inl f2)), (h8, .inr (11, [.ref h9, .int 0])), (h9, .inl (cc3, 4960, .inl f3)), (h10, .inr (11, [.ref h11, .int 0])), (h11, .inl (cc4, 4960, .inl f4)), (h12, .inr (11, [.ref h13, .int 0])), (h13, .inl (cc5, 4960, .inl f5))] sz) := by
  refine Met.ofW (cc := cX3_addText) (maxL := 2) (ret := (some .int)) (by decide) rfl ?_
  intro p e s m args below meth c s₁ B hml hv
  obtain ⟨rfl, hsz, hP, hK, hD0, hF⟩ := hv
  have hx := B.exec
  have hb := B.bytes
  have hr := B.returns
  have hts := atoms_spec (ws := wbX3_addText) B.pre
  have hta : ∀ w ∈ wsALL, w.before _ s = true := fun w h => hts w (List.mem_cons_of_mem _ h)
  have hown : s.vm.findClass RX3 = some m.cls := findClass_of_methodNamed B.named
  have hlocks := B.notSynchronized
  subst hsz
  have hD := hD0.self (sz := s.heap.size)
  generalize hAe : va_A [(h0, .inr (10, [v0, .ref h2, .ref h4, .ref h6, .ref h8, .ref h10, .ref h12, v1, .ref h1])), (h1, .inr (11, [v2, .int 7])), (h2, .inr (11, [.ref h3, .int 0])), (h3, .inl (cc0, 4960, .inl f0)), (h4, .inr (11, [.ref h5, .int 0])), (h5, .inl (cc1, 4960, .inl f1)), (h6, .inr (11, [.ref h7, .int 0])), (h7, .inl (cc2, 4960, .inl f2)), (h8, .inr (11, [.ref h9, .int 0])), (h9, .inl (cc3, 4960, .inl f3)), (h10, .inr (11, [.ref h11, .int 0])), (h11, .inl (cc4, 4960, .inl f4)), (h12, .inr (11, [.ref h13, .int 0])), (h13, .inl (cc5, 4960, .inl f5))] s.heap.size = A at hD hF ⊢
  have hA : ∀ q : Nat, s.heap.size ≤ q → A q := fun q h => by rw [← hAe]; exact Or.inr h
  have hS : va_S A s.heap s.heap [] := va_S.rf
  have hP : va_P (dC, dI) vwCl [(h0, .inr (10, [v0, .ref h2, .ref h4, .ref h6, .ref h8, .ref h10, .ref h12, v1, .ref h1])), (h1, .inr (11, [v2, .int 7])), (h2, .inr (11, [.ref h3, .int 0])), (h3, .inl (cc0, 4960, .inl f0)), (h4, .inr (11, [.ref h5, .int 0])), (h5, .inl (cc1, 4960, .inl f1)), (h6, .inr (11, [.ref h7, .int 0])), (h7, .inl (cc2, 4960, .inl f2)), (h8, .inr (11, [.ref h9, .int 0])), (h9, .inl (cc3, 4960, .inl f3)), (h10, .inr (11, [.ref h11, .int 0])), (h11, .inl (cc4, 4960, .inl f4)), (h12, .inr (11, [.ref h13, .int 0])), (h13, .inl (cc5, 4960, .inl f5))] s.heap := hP
  have hl := lv_entry ([.ref h0, .int 7]) (n := 2) (Nat.le_of_ble_eq_true rfl)
  rw [lg_entry_eq]
  generalize (lg_sl ([.ref h0, .int 7]) ++ List.replicate (2 - (lg_sl ([.ref h0, .int 7])).length) Slot.unset).toArray = ls at hl ⊢
  have hl : lv_has ls 2 [(0, .ref h0), (1, .int 7)] := hl
  refine lv_aload_n hx hb dX3_addText_0 rfl (lv_at hl 0 rfl) ?_
  refine lv_iconst (v := 0) hx hb dX3_addText_1 (by decide) ?_
  refine lv_aload_n hx hb dX3_addText_2 rfl (lv_at hl 0 rfl) ?_
  refine va_get (D := (dC, dI)) (ci := 10) (v := .ref h1) (C := RX3) (T := TX3) (N := 9) hx hb hta naX3 hown hK hP 0 rfl rfl 8 (by decide) (hta _ wm26) (fun _ h9 => h9) rfl dX3_addText_3 ?_
  have hPc := hP.sub (ws' := [(h1, .inr (11, [v2, .int 7]))]) [1] rfl
  have hDc := hD.sub (ws' := [(h1, .inr (11, [v2, .int 7]))]) [1] (by decide) rfl
  have hKc := hK.sub (tys' := []) [] rfl
  have hFc := va_free (wc := [(h1, .inr (11, [v2, .int 7]))]) hD hS hA [1] rfl
  refine va_calli (va_runV (As := []) (rest := [.int 0, .ref h0]) ⟨hx, hb, hml, hown, hts⟩ (kX4_size_8 l dC dI g s.heap.size h1 v2 ) (cwV 0 hts (ns_gp (List.forall_mem_cons.mpr ⟨wm248, (List.forall_mem_cons.mpr ⟨wm249, (List.forall_mem_cons.mpr ⟨wm250, (List.forall_mem_cons.mpr ⟨wm12, (fun _ h9 => nomatch h9)⟩)⟩)⟩)⟩) wm247) rfl rfl rfl (by decide +kernel) ⟨Nat.le_of_ble_eq_true rfl, Nat.le_of_ble_eq_true rfl⟩) ⟨fun a U gg mk q => by obtain ⟨q0, q1, qP, qK, qD, qF⟩ := q; exact ⟨q0, q1, qP, va_K.moved (u := U) (U := U.calling gg mk a) (Vm.Alike.refl U.vm) qK, qD, ns_same qF⟩, va_recv hK hP (ci := 11) (q0 := 1) rfl rfl, fun U hU hW => ⟨rfl, by rw [hU], by rw [hU]; exact hPc, va_K.moved hW.alike hKc, hDc.weaken (fun _ _ _ _ => trivial), ns_call hF hS hFc hU hW⟩⟩ rfl rfl hl.1 rfl (lv_room (Nat.le_of_ble_eq_true rfl)) dX3_addText_6 ⟨Nat.le_of_ble_eq_true rfl, Nat.le_of_ble_eq_true rfl⟩) hS (fun q _ h => hFc q h) hFc (fun r9 u t H1 locs ht hvm hw hB hz1 hk1 hS => ?_)
  obtain rfl := hw.symm
  obtain ⟨hP1, hK1, hD1⟩ := hB
  rw [ht] at hP1
  have hK1 := va_K.moved hvm.symm hK1
  obtain ⟨hP, hD⟩ := va_join (wr := [(h0, .inr (10, [v0, .ref h2, .ref h4, .ref h6, .ref h8, .ref h10, .ref h12, v1, .ref h1])), (h2, .inr (11, [.ref h3, .int 0])), (h3, .inl (cc0, 4960, .inl f0)), (h4, .inr (11, [.ref h5, .int 0])), (h5, .inl (cc1, 4960, .inl f1)), (h6, .inr (11, [.ref h7, .int 0])), (h7, .inl (cc2, 4960, .inl f2)), (h8, .inr (11, [.ref h9, .int 0])), (h9, .inl (cc3, 4960, .inl f3)), (h10, .inr (11, [.ref h11, .int 0])), (h11, .inl (cc4, 4960, .inl f4)), (h12, .inr (11, [.ref h13, .int 0])), (h13, .inl (cc5, 4960, .inl f5))]) (w1 := [(h1, .inr (11, [v2, .int 7]))]) hP hD [1] [0, 2, 3, 4, 5, 6, 7, 8, 9, 10, 11, 12, 13] rfl rfl (by decide) (by decide) hk1 hFc hP1 hD1
  have hK := (hK.sub (tys' := [(cc0, .int), (cc1, .int), (cc2, .int), (cc3, .int), (cc4, .int), (cc5, .int)]) [0, 1, 2, 3, 4, 5] rfl).app hK1
  generalize H1 = H at hP hS ⊢
  have hP : va_P (dC, dI) vwCl [(h0, .inr (10, [v0, .ref h2, .ref h4, .ref h6, .ref h8, .ref h10, .ref h12, v1, .ref h1])), (h2, .inr (11, [.ref h3, .int 0])), (h3, .inl (cc0, 4960, .inl f0)), (h4, .inr (11, [.ref h5, .int 0])), (h5, .inl (cc1, 4960, .inl f1)), (h6, .inr (11, [.ref h7, .int 0])), (h7, .inl (cc2, 4960, .inl f2)), (h8, .inr (11, [.ref h9, .int 0])), (h9, .inl (cc3, 4960, .inl f3)), (h10, .inr (11, [.ref h11, .int 0])), (h11, .inl (cc4, 4960, .inl f4)), (h12, .inr (11, [.ref h13, .int 0])), (h13, .inl (cc5, 4960, .inl f5)), (h1, .inr (11, [v2, .int 7]))] H := hP
  have hD : va_D A [(h0, .inr (10, [v0, .ref h2, .ref h4, .ref h6, .ref h8, .ref h10, .ref h12, v1, .ref h1])), (h2, .inr (11, [.ref h3, .int 0])), (h3, .inl (cc0, 4960, .inl f0)), (h4, .inr (11, [.ref h5, .int 0])), (h5, .inl (cc1, 4960, .inl f1)), (h6, .inr (11, [.ref h7, .int 0])), (h7, .inl (cc2, 4960, .inl f2)), (h8, .inr (11, [.ref h9, .int 0])), (h9, .inl (cc3, 4960, .inl f3)), (h10, .inr (11, [.ref h11, .int 0])), (h11, .inl (cc4, 4960, .inl f4)), (h12, .inr (11, [.ref h13, .int 0])), (h13, .inl (cc5, 4960, .inl f5)), (h1, .inr (11, [v2, .int 7]))] := hD
  have hK : va_K (dC, dI) vwCl [(cc0, .int), (cc1, .int), (cc2, .int), (cc3, .int), (cc4, .int), (cc5, .int)] s := hK
  refine W.widen (k := 0) (n := 0) (Nat.le_of_ble_eq_true rfl) (Nat.le_of_ble_eq_true rfl) ?_
  refine lv_iload_n hx hb dX3_addText_9 rfl (lv_at hl 1 rfl) ?_
  refine lv_isub hx hb dX3_addText_10 ?_
  refine lv_topi (fun y1 ey1 => ?_)
  obtain rfl : y1 = 0 := ey1.trans (by decide)
  refine lv_iload_n hx hb dX3_addText_11 rfl (lv_at hl 1 rfl) ?_
  refine lv_iconst (v := 0) hx hb dX3_addText_12 (by decide) ?_
  refine lv_iconst (v := 1) hx hb dX3_addText_13 (by decide) ?_
  refine lv_iconst (v := 1) hx hb dX3_addText_14 (by decide) ?_
  have hPc := hP.sub (ws' := [(h0, .inr (10, [v0, .ref h2, .ref h4, .ref h6, .ref h8, .ref h10, .ref h12, v1, .ref h1])), (h2, .inr (11, [.ref h3, .int 0])), (h3, .inl (cc0, 4960, .inl f0)), (h4, .inr (11, [.ref h5, .int 0])), (h5, .inl (cc1, 4960, .inl f1)), (h6, .inr (11, [.ref h7, .int 0])), (h7, .inl (cc2, 4960, .inl f2)), (h8, .inr (11, [.ref h9, .int 0])), (h9, .inl (cc3, 4960, .inl f3)), (h10, .inr (11, [.ref h11, .int 0])), (h11, .inl (cc4, 4960, .inl f4)), (h12, .inr (11, [.ref h13, .int 0])), (h13, .inl (cc5, 4960, .inl f5))]) [0, 1, 2, 3, 4, 5, 6, 7, 8, 9, 10, 11, 12] rfl
  have hDc := hD.sub (ws' := [(h0, .inr (10, [v0, .ref h2, .ref h4, .ref h6, .ref h8, .ref h10, .ref h12, v1, .ref h1])), (h2, .inr (11, [.ref h3, .int 0])), (h3, .inl (cc0, 4960, .inl f0)), (h4, .inr (11, [.ref h5, .int 0])), (h5, .inl (cc1, 4960, .inl f1)), (h6, .inr (11, [.ref h7, .int 0])), (h7, .inl (cc2, 4960, .inl f2)), (h8, .inr (11, [.ref h9, .int 0])), (h9, .inl (cc3, 4960, .inl f3)), (h10, .inr (11, [.ref h11, .int 0])), (h11, .inl (cc4, 4960, .inl f4)), (h12, .inr (11, [.ref h13, .int 0])), (h13, .inl (cc5, 4960, .inl f5))]) [0, 1, 2, 3, 4, 5, 6, 7, 8, 9, 10, 11, 12] (by decide) rfl
  have hKc := hK.sub (tys' := [(cc0, .int), (cc1, .int), (cc2, .int), (cc3, .int), (cc4, .int), (cc5, .int)]) [0, 1, 2, 3, 4, 5] rfl
  have hFc := va_free (wc := [(h0, .inr (10, [v0, .ref h2, .ref h4, .ref h6, .ref h8, .ref h10, .ref h12, v1, .ref h1])), (h2, .inr (11, [.ref h3, .int 0])), (h3, .inl (cc0, 4960, .inl f0)), (h4, .inr (11, [.ref h5, .int 0])), (h5, .inl (cc1, 4960, .inl f1)), (h6, .inr (11, [.ref h7, .int 0])), (h7, .inl (cc2, 4960, .inl f2)), (h8, .inr (11, [.ref h9, .int 0])), (h9, .inl (cc3, 4960, .inl f3)), (h10, .inr (11, [.ref h11, .int 0])), (h11, .inl (cc4, 4960, .inl f4)), (h12, .inr (11, [.ref h13, .int 0])), (h13, .inl (cc5, 4960, .inl f5))]) hD hS hA [0, 1, 2, 3, 4, 5, 6, 7, 8, 9, 10, 11, 12] rfl
  refine va_calli (va_runV (As := [.int 0, .int 0, .int 7, .int 0, .int 1, .int 1]) (rest := []) ⟨hx, hb, hml, hown, hts⟩ (kX3_addPlace_7 l dC dI g H.size h0 h2 h3 h4 h5 h6 h7 h8 h9 h10 h11 h12 h13 v0 v1 (.ref h1) cc0 f0 cc1 f1 cc2 f2 cc3 f3 cc4 f4 cc5 f5 ) (cwV 6 hts (ns_gp (List.forall_mem_cons.mpr ⟨wm262, (List.forall_mem_cons.mpr ⟨wm263, (List.forall_mem_cons.mpr ⟨wm264, (List.forall_mem_cons.mpr ⟨wm8, (fun _ h9 => nomatch h9)⟩)⟩)⟩)⟩) wm261) rfl rfl rfl (by decide +kernel) ⟨Nat.le_of_ble_eq_true rfl, Nat.le_of_ble_eq_true rfl⟩) ⟨fun a U gg mk q => by obtain ⟨q0, q1, qP, qK, qD, qF⟩ := q; exact ⟨q0, q1, qP, va_K.moved (u := U) (U := U.calling gg mk a) (Vm.Alike.refl U.vm) qK, qD, ns_same qF⟩, va_recv hK hP (ci := 10) (q0 := 0) rfl rfl, fun U hU hW => ⟨rfl, by rw [hU], by rw [hU]; exact hPc, va_K.moved hW.alike hKc, hDc.weaken (fun _ _ _ _ => trivial), ns_call hF hS hFc hU hW⟩⟩ rfl rfl hl.1 rfl (lv_room (Nat.le_of_ble_eq_true rfl)) dX3_addText_15 ⟨Nat.le_of_ble_eq_true rfl, Nat.le_of_ble_eq_true rfl⟩) hS (fun q _ h => hFc q h) hFc (fun r9 u t H1 locs ht hvm hw hB hz1 hk1 hS => ?_)
  obtain rfl := hw.symm
  obtain ⟨hP1, hK1, hD1⟩ := hB
  rw [ht] at hP1
  have hK1 := va_K.moved hvm.symm hK1
  obtain ⟨hP, hD⟩ := va_join (wr := [(h1, .inr (11, [v2, .int 7]))]) (w1 := [(h0, .inr (10, [v0, .ref h2, .ref h4, .ref h6, .ref h8, .ref h10, .ref h12, v1, .ref h1])), (h3, .inl (cc0, 4960, .inl (upd (f0) 0 0))), (h4, .inr (11, [.ref h5, .int 1])), (h5, .inl (cc1, 4960, .inl (upd (f1) 0 0))), (h6, .inr (11, [.ref h7, .int 1])), (h7, .inl (cc2, 4960, .inl (upd (f2) 0 7))), (h8, .inr (11, [.ref h9, .int 1])), (h9, .inl (cc3, 4960, .inl (upd (f3) 0 0))), (h10, .inr (11, [.ref h11, .int 1])), (h11, .inl (cc4, 4960, .inl (upd (f4) 0 1))), (h12, .inr (11, [.ref h13, .int 1])), (h13, .inl (cc5, 4960, .inl (upd (f5) 0 1))), (h2, .inr (11, [.ref h3, .int 1]))]) hP hD [0, 1, 2, 3, 4, 5, 6, 7, 8, 9, 10, 11, 12] [13] rfl rfl (by decide) (by decide) hk1 hFc hP1 hD1
  have hK := (hK.sub (tys' := []) [] rfl).app hK1
  generalize H1 = H at hP hS ⊢
  have hP : va_P (dC, dI) vwCl [(h1, .inr (11, [v2, .int 7])), (h0, .inr (10, [v0, .ref h2, .ref h4, .ref h6, .ref h8, .ref h10, .ref h12, v1, .ref h1])), (h3, .inl (cc0, 4960, .inl (upd (f0) 0 0))), (h4, .inr (11, [.ref h5, .int 1])), (h5, .inl (cc1, 4960, .inl (upd (f1) 0 0))), (h6, .inr (11, [.ref h7, .int 1])), (h7, .inl (cc2, 4960, .inl (upd (f2) 0 7))), (h8, .inr (11, [.ref h9, .int 1])), (h9, .inl (cc3, 4960, .inl (upd (f3) 0 0))), (h10, .inr (11, [.ref h11, .int 1])), (h11, .inl (cc4, 4960, .inl (upd (f4) 0 1))), (h12, .inr (11, [.ref h13, .int 1])), (h13, .inl (cc5, 4960, .inl (upd (f5) 0 1))), (h2, .inr (11, [.ref h3, .int 1]))] H := hP
  have hD : va_D A [(h1, .inr (11, [v2, .int 7])), (h0, .inr (10, [v0, .ref h2, .ref h4, .ref h6, .ref h8, .ref h10, .ref h12, v1, .ref h1])), (h3, .inl (cc0, 4960, .inl (upd (f0) 0 0))), (h4, .inr (11, [.ref h5, .int 1])), (h5, .inl (cc1, 4960, .inl (upd (f1) 0 0))), (h6, .inr (11, [.ref h7, .int 1])), (h7, .inl (cc2, 4960, .inl (upd (f2) 0 7))), (h8, .inr (11, [.ref h9, .int 1])), (h9, .inl (cc3, 4960, .inl (upd (f3) 0 0))), (h10, .inr (11, [.ref h11, .int 1])), (h11, .inl (cc4, 4960, .inl (upd (f4) 0 1))), (h12, .inr (11, [.ref h13, .int 1])), (h13, .inl (cc5, 4960, .inl (upd (f5) 0 1))), (h2, .inr (11, [.ref h3, .int 1]))] := hD
  have hK : va_K (dC, dI) vwCl [(cc0, .int), (cc1, .int), (cc2, .int), (cc3, .int), (cc4, .int), (cc5, .int)] s := hK
  refine W.widen (k := 0) (n := 0) (Nat.le_of_ble_eq_true rfl) (Nat.le_of_ble_eq_true rfl) ?_
  have hP9 := hP.sub (ws' := [(h1, .inr (11, [v2, .int 7])), (h0, .inr (10, [v0, .ref h2, .ref h4, .ref h6, .ref h8, .ref h10, .ref h12, v1, .ref h1])), (h3, .inl (cc0, 4960, .inl (upd (f0) 0 0))), (h4, .inr (11, [.ref h5, .int 1])), (h5, .inl (cc1, 4960, .inl (upd (f1) 0 0))), (h6, .inr (11, [.ref h7, .int 1])), (h7, .inl (cc2, 4960, .inl (upd (f2) 0 7))), (h8, .inr (11, [.ref h9, .int 1])), (h9, .inl (cc3, 4960, .inl (upd (f3) 0 0))), (h10, .inr (11, [.ref h11, .int 1])), (h11, .inl (cc4, 4960, .inl (upd (f4) 0 1))), (h12, .inr (11, [.ref h13, .int 1])), (h13, .inl (cc5, 4960, .inl (upd (f5) 0 1))), (h2, .inr (11, [.ref h3, .int 1]))]) [0, 1, 2, 3, 4, 5, 6, 7, 8, 9, 10, 11, 12, 13] rfl
  have hD9 := hD.sub (ws' := [(h1, .inr (11, [v2, .int 7])), (h0, .inr (10, [v0, .ref h2, .ref h4, .ref h6, .ref h8, .ref h10, .ref h12, v1, .ref h1])), (h3, .inl (cc0, 4960, .inl (upd (f0) 0 0))), (h4, .inr (11, [.ref h5, .int 1])), (h5, .inl (cc1, 4960, .inl (upd (f1) 0 0))), (h6, .inr (11, [.ref h7, .int 1])), (h7, .inl (cc2, 4960, .inl (upd (f2) 0 7))), (h8, .inr (11, [.ref h9, .int 1])), (h9, .inl (cc3, 4960, .inl (upd (f3) 0 0))), (h10, .inr (11, [.ref h11, .int 1])), (h11, .inl (cc4, 4960, .inl (upd (f4) 0 1))), (h12, .inr (11, [.ref h13, .int 1])), (h13, .inl (cc5, 4960, .inl (upd (f5) 0 1))), (h2, .inr (11, [.ref h3, .int 1]))]) [0, 1, 2, 3, 4, 5, 6, 7, 8, 9, 10, 11, 12, 13] (by decide) rfl
  have hK9 := hK.sub (tys' := [(cc0, .int), (cc1, .int), (cc2, .int), (cc3, .int), (cc4, .int), (cc5, .int)]) [0, 1, 2, 3, 4, 5] rfl
  refine W.widen (k := 0) (n := 0) (Nat.le_of_ble_eq_true rfl) (Nat.le_of_ble_eq_true rfl) ?_
  exact W.iret (v := 0) hx hb hr (fun t ht hW => ⟨⟨_, (), rfl, rfl, by rw [ht]; exact hP9, va_K.moved hW.alike hK9, hD9⟩, hS.F ht⟩) hS.2.2 dX3_addText_18
set_option maxHeartbeats 4000000 in
set_option maxRecDepth 100000 in
theorem kX16_coded (l : Launch) (dC : Nat → ClassId) (dI : Nat → Nat → Nat) (g : Nat → Nat) (sz : Nat)  : Met l yX16_coded wbX16_coded ({ frames := 2, cells := 0, slots := 0, locals := 40 }) (va_Pc [.ref (g 34)] (fun U => U.heap.size = sz ∧ va_P (dC, dI) vwCl [] U.heap ∧ va_K (dC, dI) vwCl [] U ∧ va_D (fun _ => True) [] ∧ ns_F g (va_A [] sz) U U.heap)) (va_Qi (fun (r : Int32) (_ : Unit) => r = 0) (fun _ t => va_P (dC, dI) vwCl [] t.heap ∧ va_K (dC, dI) vwCl [] t ∧ va_D (va_A [] sz) []) (va_A [] sz)) 0 0 (va_A [] sz) := by
  refine Met.ofW (cc := cX16_coded) (maxL := 8) (ret := (some .int)) (by decide) rfl ?_
  intro p e s m args below meth c s₁ B hml hv
  obtain ⟨rfl, hsz, hP, hK, hD0, hF⟩ := hv
  have hx := B.exec
  have hb := B.bytes
  have hr := B.returns
  have hts := atoms_spec (ws := wbX16_coded) B.pre
  have hta : ∀ w ∈ wsALL, w.before _ s = true := fun w h => hts w (List.mem_cons_of_mem _ h)
  have hown : s.vm.findClass RX16 = some m.cls := findClass_of_methodNamed B.named
  have hlocks := B.notSynchronized
  subst hsz
  have hD := hD0.self (sz := s.heap.size)
  generalize hAe : va_A [] s.heap.size = A at hD hF ⊢
  have hA : ∀ q : Nat, s.heap.size ≤ q → A q := fun q h => by rw [← hAe]; exact Or.inr h
  have hS : va_S A s.heap s.heap [] := va_S.rf
  have hP : va_P (dC, dI) vwCl [] s.heap := hP
  have hl := lv_entry ([.ref (g 34)]) (n := 8) (Nat.le_of_ble_eq_true rfl)
  rw [lg_entry_eq]
  generalize (lg_sl ([.ref (g 34)]) ++ List.replicate (8 - (lg_sl ([.ref (g 34)])).length) Slot.unset).toArray = ls at hl ⊢
  have hl : lv_has ls 8 [(0, .ref (g 34))] := hl
  refine va_ldcS hx hb hown (ns_f33 hF) dX16_coded_0 ?_
  refine lv_astore_n (lv' := [(1, .ref (g 34)), (0, .ref (g 34))]) hx hb dX16_coded_2 rfl hl (by decide) rfl (fun ls hl => ?_)
  refine lv_iconst (v := 0) hx hb dX16_coded_3 (by decide) ?_
  refine lv_istore_n (lv' := [(2, .int 0), (1, .ref (g 34)), (0, .ref (g 34))]) hx hb dX16_coded_4 rfl hl (by decide) rfl (fun ls hl => ?_)
  refine lv_iconst (v := 0) hx hb dX16_coded_5 (by decide) ?_
  refine lv_istore_n (lv' := [(3, .int 0), (2, .int 0), (1, .ref (g 34)), (0, .ref (g 34))]) hx hb dX16_coded_6 rfl hl (by decide) rfl (fun ls hl => ?_)
  refine lv_iload_n hx hb dX16_coded_7 rfl (lv_at hl 0 rfl) ?_
  refine lv_aload_n hx hb dX16_coded_8 rfl (lv_at hl 3 rfl) ?_
  have hPc := hP.sub (ws' := []) [] rfl
  have hDc := hD.sub (ws' := []) [] (by decide) rfl
  have hKc := hK.sub (tys' := []) [] rfl
  have hFc := va_free (wc := []) hD hS hA [] rfl
  refine va_calli (va_runV (As := []) (rest := [.int 0]) ⟨hx, hb, hml, hown, hts⟩ (kJ0_length_8abf5_2 l dC dI g s.heap.size  ) (cwV 0 hts (ns_gp (List.forall_mem_cons.mpr ⟨wm646, (List.forall_mem_cons.mpr ⟨wm595, (List.forall_mem_cons.mpr ⟨wm596, (List.forall_mem_cons.mpr ⟨wm316, (fun _ h9 => nomatch h9)⟩)⟩)⟩)⟩) wm574) rfl rfl rfl (by decide +kernel) ⟨Nat.le_of_ble_eq_true rfl, Nat.le_of_ble_eq_true rfl⟩) ⟨fun a U gg mk q => by obtain ⟨q0, q1, qP, qK, qD, qF⟩ := q; exact ⟨q0, q1, qP, va_K.moved (u := U) (U := U.calling gg mk a) (Vm.Alike.refl U.vm) qK, qD, ns_same qF⟩, va_Orecv (ns_f38 hF) hS, fun U hU hW => ⟨rfl, by rw [hU], by rw [hU]; exact hPc, va_K.moved hW.alike hKc, hDc.weaken (fun _ _ _ _ => trivial), ns_call hF hS hFc hU hW⟩⟩ rfl rfl hl.1 rfl (lv_room (Nat.le_of_ble_eq_true rfl)) dX16_coded_9 ⟨Nat.le_of_ble_eq_true rfl, Nat.le_of_ble_eq_true rfl⟩) hS (fun q _ h => hFc q h) hFc (fun r9 u t H1 locs ht hvm hw hB hz1 hk1 hS => ?_)
  obtain rfl := hw.symm
  obtain ⟨hP1, hK1, hD1⟩ := hB
  rw [ht] at hP1
  have hK1 := va_K.moved hvm.symm hK1
  obtain ⟨hP, hD⟩ := va_join (wr := []) (w1 := []) hP hD [] [] rfl rfl (by decide) (by decide) hk1 hFc hP1 hD1
  have hK := (hK.sub (tys' := []) [] rfl).app hK1
  generalize H1 = H at hP hS ⊢
  have hP : va_P (dC, dI) vwCl [] H := hP
  have hD : va_D A [] := hD
  have hK : va_K (dC, dI) vwCl [] s := hK
  refine W.widen (k := 0) (n := 0) (Nat.le_of_ble_eq_true rfl) (Nat.le_of_ble_eq_true rfl) ?_
  refine lv_icmp_ge (tgt := 316) hx hb dX16_coded_12 (by decide) (fun c1 => ?_) (fun c1 => absurd (by decide) c1)
  refine lv_aload_n hx hb dX16_coded_316 rfl (lv_at hl 3 rfl) ?_
  have hPc := hP.sub (ws' := []) [] rfl
  have hDc := hD.sub (ws' := []) [] (by decide) rfl
  have hKc := hK.sub (tys' := []) [] rfl
  have hFc := va_free (wc := []) hD hS hA [] rfl
  refine va_calli (va_runV (As := []) (rest := []) ⟨hx, hb, hml, hown, hts⟩ (kJ0_length_8abf5_2 l dC dI g H.size  ) (cwV 0 hts (ns_gp (List.forall_mem_cons.mpr ⟨wm646, (List.forall_mem_cons.mpr ⟨wm595, (List.forall_mem_cons.mpr ⟨wm596, (List.forall_mem_cons.mpr ⟨wm316, (fun _ h9 => nomatch h9)⟩)⟩)⟩)⟩) wm574) rfl rfl rfl (by decide +kernel) ⟨Nat.le_of_ble_eq_true rfl, Nat.le_of_ble_eq_true rfl⟩) ⟨fun a U gg mk q => by obtain ⟨q0, q1, qP, qK, qD, qF⟩ := q; exact ⟨q0, q1, qP, va_K.moved (u := U) (U := U.calling gg mk a) (Vm.Alike.refl U.vm) qK, qD, ns_same qF⟩, va_Orecv (ns_f38 hF) hS, fun U hU hW => ⟨rfl, by rw [hU], by rw [hU]; exact hPc, va_K.moved hW.alike hKc, hDc.weaken (fun _ _ _ _ => trivial), ns_call hF hS hFc hU hW⟩⟩ rfl rfl hl.1 rfl (lv_room (Nat.le_of_ble_eq_true rfl)) dX16_coded_317 ⟨Nat.le_of_ble_eq_true rfl, Nat.le_of_ble_eq_true rfl⟩) hS (fun q _ h => hFc q h) hFc (fun r9 u t H1 locs ht hvm hw hB hz1 hk1 hS => ?_)
  obtain rfl := hw.symm
  obtain ⟨hP1, hK1, hD1⟩ := hB
  rw [ht] at hP1
  have hK1 := va_K.moved hvm.symm hK1
  obtain ⟨hP, hD⟩ := va_join (wr := []) (w1 := []) hP hD [] [] rfl rfl (by decide) (by decide) hk1 hFc hP1 hD1
  have hK := (hK.sub (tys' := []) [] rfl).app hK1
  generalize H1 = H at hP hS ⊢
  have hP : va_P (dC, dI) vwCl [] H := hP
  have hD : va_D A [] := hD
  have hK : va_K (dC, dI) vwCl [] s := hK
  refine W.widen (k := 0) (n := 0) (Nat.le_of_ble_eq_true rfl) (Nat.le_of_ble_eq_true rfl) ?_
  refine lv_aload_n hx hb dX16_coded_320 rfl (lv_at hl 2 rfl) ?_
  have hPc := hP.sub (ws' := []) [] rfl
  have hDc := hD.sub (ws' := []) [] (by decide) rfl
  have hKc := hK.sub (tys' := []) [] rfl
  have hFc := va_free (wc := []) hD hS hA [] rfl
  refine va_calli (va_runV (As := []) (rest := [.int 0]) ⟨hx, hb, hml, hown, hts⟩ (kJ0_isEmpty_aae02 l dC dI g H.size  ) (cwV 0 hts (ns_gp (List.forall_mem_cons.mpr ⟨wm632, (List.forall_mem_cons.mpr ⟨wm633, (List.forall_mem_cons.mpr ⟨wm634, (List.forall_mem_cons.mpr ⟨wm316, (fun _ h9 => nomatch h9)⟩)⟩)⟩)⟩) wm631) rfl rfl rfl (by decide +kernel) ⟨Nat.le_of_ble_eq_true rfl, Nat.le_of_ble_eq_true rfl⟩) ⟨fun a U gg mk q => by obtain ⟨q0, q1, qP, qK, qD, qF⟩ := q; exact ⟨q0, q1, qP, va_K.moved (u := U) (U := U.calling gg mk a) (Vm.Alike.refl U.vm) qK, qD, ns_same qF⟩, va_Orecv (ns_f38 hF) hS, fun U hU hW => ⟨rfl, by rw [hU], by rw [hU]; exact hPc, va_K.moved hW.alike hKc, hDc.weaken (fun _ _ _ _ => trivial), ns_call hF hS hFc hU hW⟩⟩ rfl rfl hl.1 rfl (lv_room (Nat.le_of_ble_eq_true rfl)) dX16_coded_321 ⟨Nat.le_of_ble_eq_true rfl, Nat.le_of_ble_eq_true rfl⟩) hS (fun q _ h => hFc q h) hFc (fun r9 u t H1 locs ht hvm hw hB hz1 hk1 hS => ?_)
  obtain rfl := hw.symm
  obtain ⟨hP1, hK1, hD1⟩ := hB
  rw [ht] at hP1
  have hK1 := va_K.moved hvm.symm hK1
  obtain ⟨hP, hD⟩ := va_join (wr := []) (w1 := []) hP hD [] [] rfl rfl (by decide) (by decide) hk1 hFc hP1 hD1
  have hK := (hK.sub (tys' := []) [] rfl).app hK1
  generalize H1 = H at hP hS ⊢
  have hP : va_P (dC, dI) vwCl [] H := hP
  have hD : va_D A [] := hD
  have hK : va_K (dC, dI) vwCl [] s := hK
  refine W.widen (k := 0) (n := 0) (Nat.le_of_ble_eq_true rfl) (Nat.le_of_ble_eq_true rfl) ?_
  refine lv_if_eq (tgt := 336) hx hb dX16_coded_324 (by decide) (fun c2 => absurd c2 (by decide)) (fun c2 => ?_)
  refine lv_iload_n hx hb dX16_coded_327 rfl (lv_at hl 1 rfl) ?_
  refine lv_iconst (v := 1) hx hb dX16_coded_328 (by decide) ?_
  refine lv_icmp_le (tgt := 336) hx hb dX16_coded_329 (by decide) (fun c3 => ?_) (fun c3 => absurd (by decide) c3)
  refine lv_iconst (v := 0) hx hb dX16_coded_336 (by decide) ?_
  have hPc := hP.sub (ws' := []) [] rfl
  have hDc := hD.sub (ws' := []) [] (by decide) rfl
  have hKc := hK.sub (tys' := []) [] rfl
  have hFc := va_free (wc := []) hD hS hA [] rfl
  refine va_calli (va_runS (As := [.int 0]) (rest := [.int 0]) ⟨hx, hb, hml, hown, hts⟩ (kX16_one_2 l dC dI g H.size  ) (va_cwS 1 hts (ns_gp (List.forall_mem_cons.mpr ⟨wm683, (List.forall_mem_cons.mpr ⟨wm684, (List.forall_mem_cons.mpr ⟨wm192, (fun _ h9 => nomatch h9)⟩)⟩)⟩) wm682) rfl rfl rfl (by decide +kernel) ⟨Nat.le_of_ble_eq_true rfl, Nat.le_of_ble_eq_true rfl⟩) ⟨fun a U gg mk q => by obtain ⟨q0, q1, qP, qK, qD, qF⟩ := q; exact ⟨q0, q1, qP, va_K.moved (u := U) (U := U.calling gg mk a) (Vm.Alike.refl U.vm) qK, qD, ns_same qF⟩, fun U hU hW => ⟨rfl, by rw [hU], by rw [hU]; exact hPc, va_K.moved hW.alike hKc, hDc.weaken (fun _ _ _ _ => trivial), ns_call hF hS hFc hU hW⟩⟩ rfl rfl hl.1 rfl (lv_room (Nat.le_of_ble_eq_true rfl)) dX16_coded_337 ⟨Nat.le_of_ble_eq_true rfl, Nat.le_of_ble_eq_true rfl⟩) hS (fun q _ h => hFc q h) hFc (fun r9 u t H1 locs ht hvm hw hB hz1 hk1 hS => ?_)
  obtain rfl := hw.symm
  obtain ⟨hP1, hK1, hD1⟩ := hB
  rw [ht] at hP1
  have hK1 := va_K.moved hvm.symm hK1
  obtain ⟨hP, hD⟩ := va_join (wr := []) (w1 := []) hP hD [] [] rfl rfl (by decide) (by decide) hk1 hFc hP1 hD1
  have hK := (hK.sub (tys' := []) [] rfl).app hK1
  generalize H1 = H at hP hS ⊢
  have hP : va_P (dC, dI) vwCl [] H := hP
  have hD : va_D A [] := hD
  have hK : va_K (dC, dI) vwCl [] s := hK
  refine W.widen (k := 0) (n := 0) (Nat.le_of_ble_eq_true rfl) (Nat.le_of_ble_eq_true rfl) ?_
  refine lv_iadd hx hb dX16_coded_340 ?_
  refine lv_topi (fun y4 ey4 => ?_)
  obtain rfl : y4 = 0 := ey4.trans (by decide)
  have hP9 := hP.sub (ws' := []) [] rfl
  have hD9 := hD.sub (ws' := []) [] (by decide) rfl
  have hK9 := hK.sub (tys' := []) [] rfl
  refine W.widen (k := 0) (n := 0) (Nat.le_of_ble_eq_true rfl) (Nat.le_of_ble_eq_true rfl) ?_
  exact W.iret (v := 0) hx hb hr (fun t ht hW => ⟨⟨_, (), rfl, rfl, by rw [ht]; exact hP9, va_K.moved hW.alike hK9, hD9⟩, hS.F ht⟩) hS.2.2 dX16_coded_341
set_option maxHeartbeats 4000000 in
set_option maxRecDepth 100000 in
theorem kX16_leastLine (l : Launch) (dC : Nat → ClassId) (dI : Nat → Nat → Nat) (g : Nat → Nat) (sz : Nat) (h0 : Nat) (x0 : Int32) (x1 : Int32) (h1 : Nat) (v0 : Value) (v1 : Value) (v2 : Value) (v3 : Value) (v4 : Value) (v5 : Value) (v6 : Value) (v7 : Value) (v8 : Value) (v9 : Value) : Met l yX16_leastLine wbX16_leastLine ({ frames := 2, cells := 0, slots := 0, locals := 44 }) (va_Pc [.ref h0, .int x0, .int x1] (fun U => U.heap.size = sz ∧ va_P (dC, dI) vwCl [(h0, .inr (23, [v0, .ref h1, v1, v2, v3, v4, v5, v6, v7])), (h1, .inr (6, [v8, v9, .int 0]))] U.heap ∧ va_K (dC, dI) vwCl [] U ∧ va_D (fun _ => True) [(h0, .inr (23, [v0, .ref h1, v1, v2, v3, v4, v5, v6, v7])), (h1, .inr (6, [v8, v9, .int 0]))] ∧ ns_F g (va_A [(h0, .inr (23, [v0, .ref h1, v1, v2, v3, v4, v5, v6, v7])), (h1, .inr (6, [v8, v9, .int 0]))] sz) U U.heap)) (va_Qr (fun _ : Unit => True) (fun _ r t => r = (g 34) ∧ va_P (dC, dI) vwCl [(h1, .inr (6, [v8, v9, .int 0])), (h0, .inr (23, [.int 1, .ref h1, v1, v2, v3, v4, v5, v6, v7]))] t.heap ∧ va_K (dC, dI) vwCl [] t ∧ va_D (va_A [(h0, .inr (23, [v0, .ref h1, v1, v2, v3, v4, v5, v6, v7])), (h1, .inr (6, [v8, v9, .int 0]))] sz) [(h1, .inr (6, [v8, v9, .int 0])), (h0, .inr (23, [.int 1, .ref h1, v1, v2, v3, v4, v5, v6, v7]))]) (va_A [(h0, .inr (23, [v0, .ref h1, v1, v2, v3, v4, v5, v6, v7])), (h1, .inr (6, [v8, v9, .int 0]))] sz)) 0 0 (va_A [(h0, .inr (23, [v0, .ref h1, v1, v2, v3, v4, v5, v6, v7])), (h1, .inr (6, [v8, v9, .int 0]))] sz) := by
  refine Met.ofW (cc := cX16_leastLine) (maxL := 3) (ret := (some (.object "java/lang/String"))) (by decide) rfl ?_
  intro p e s m args below meth c s₁ B hml hv
  obtain ⟨rfl, hsz, hP, hK, hD0, hF⟩ := hv
  have hx := B.exec
  have hb := B.bytes
  have hr := B.returns
  have hts := atoms_spec (ws := wbX16_leastLine) B.pre
  have hta : ∀ w ∈ wsALL, w.before _ s = true := fun w h => hts w (List.mem_cons_of_mem _ h)
  have hown : s.vm.findClass RX16 = some m.cls := findClass_of_methodNamed B.named
  have hlocks := B.notSynchronized
  subst hsz
  have hD := hD0.self (sz := s.heap.size)
  generalize hAe : va_A [(h0, .inr (23, [v0, .ref h1, v1, v2, v3, v4, v5, v6, v7])), (h1, .inr (6, [v8, v9, .int 0]))] s.heap.size = A at hD hF ⊢
  have hA : ∀ q : Nat, s.heap.size ≤ q → A q := fun q h => by rw [← hAe]; exact Or.inr h
  have hS : va_S A s.heap s.heap [] := va_S.rf
  have hP : va_P (dC, dI) vwCl [(h0, .inr (23, [v0, .ref h1, v1, v2, v3, v4, v5, v6, v7])), (h1, .inr (6, [v8, v9, .int 0]))] s.heap := hP
  have hl := lv_entry ([.ref h0, .int x0, .int x1]) (n := 3) (Nat.le_of_ble_eq_true rfl)
  rw [lg_entry_eq]
  generalize (lg_sl ([.ref h0, .int x0, .int x1]) ++ List.replicate (3 - (lg_sl ([.ref h0, .int x0, .int x1])).length) Slot.unset).toArray = ls at hl ⊢
  have hl : lv_has ls 3 [(0, .ref h0), (1, .int x0), (2, .int x1)] := hl
  refine lv_aload_n hx hb dX16_leastLine_0 rfl (lv_at hl 0 rfl) ?_
  refine lv_aload_n hx hb dX16_leastLine_1 rfl (lv_at hl 0 rfl) ?_
  refine lv_iload_n hx hb dX16_leastLine_2 rfl (lv_at hl 1 rfl) ?_
  have hPc := hP.sub (ws' := [(h0, .inr (23, [v0, .ref h1, v1, v2, v3, v4, v5, v6, v7])), (h1, .inr (6, [v8, v9, .int 0]))]) [0, 1] rfl
  have hDc := hD.sub (ws' := [(h0, .inr (23, [v0, .ref h1, v1, v2, v3, v4, v5, v6, v7])), (h1, .inr (6, [v8, v9, .int 0]))]) [0, 1] (by decide) rfl
  have hKc := hK.sub (tys' := []) [] rfl
  have hFc := va_free (wc := [(h0, .inr (23, [v0, .ref h1, v1, v2, v3, v4, v5, v6, v7])), (h1, .inr (6, [v8, v9, .int 0]))]) hD hS hA [0, 1] rfl
  refine va_calli (va_runV (As := [.int x0]) (rest := [.ref h0]) ⟨hx, hb, hml, hown, hts⟩ (kX16_isNoNode l dC dI g s.heap.size h0 x0 h1 v0 v1 v2 v3 v4 v5 v6 v7 v8 v9 ) (cwV 1 hts (ns_gp (List.forall_mem_cons.mpr ⟨wm449, (List.forall_mem_cons.mpr ⟨wm450, (List.forall_mem_cons.mpr ⟨wm451, (List.forall_mem_cons.mpr ⟨wm192, (fun _ h9 => nomatch h9)⟩)⟩)⟩)⟩) wm448) rfl rfl rfl (by decide +kernel) ⟨Nat.le_of_ble_eq_true rfl, Nat.le_of_ble_eq_true rfl⟩) ⟨fun a U gg mk q => by obtain ⟨q0, q1, qP, qK, qD, qF⟩ := q; exact ⟨q0, q1, qP, va_K.moved (u := U) (U := U.calling gg mk a) (Vm.Alike.refl U.vm) qK, qD, ns_same qF⟩, va_recv hK hP (ci := 23) (q0 := 0) rfl rfl, fun U hU hW => ⟨rfl, by rw [hU], by rw [hU]; exact hPc, va_K.moved hW.alike hKc, hDc.weaken (fun _ _ _ _ => trivial), ns_call hF hS hFc hU hW⟩⟩ rfl rfl hl.1 rfl (lv_room (Nat.le_of_ble_eq_true rfl)) dX16_leastLine_3 ⟨Nat.le_of_ble_eq_true rfl, Nat.le_of_ble_eq_true rfl⟩) hS (fun q _ h => hFc q h) hFc (fun r9 u t H1 locs ht hvm hw hB hz1 hk1 hS => ?_)
  obtain rfl := hw.symm
  obtain ⟨hP1, hK1, hD1⟩ := hB
  rw [ht] at hP1
  have hK1 := va_K.moved hvm.symm hK1
  obtain ⟨hP, hD⟩ := va_join (wr := []) (w1 := [(h0, .inr (23, [v0, .ref h1, v1, v2, v3, v4, v5, v6, v7])), (h1, .inr (6, [v8, v9, .int 0]))]) hP hD [0, 1] [] rfl rfl (by decide) (by decide) hk1 hFc hP1 hD1
  have hK := (hK.sub (tys' := []) [] rfl).app hK1
  generalize H1 = H at hP hS ⊢
  have hP : va_P (dC, dI) vwCl [(h0, .inr (23, [v0, .ref h1, v1, v2, v3, v4, v5, v6, v7])), (h1, .inr (6, [v8, v9, .int 0]))] H := hP
  have hD : va_D A [(h0, .inr (23, [v0, .ref h1, v1, v2, v3, v4, v5, v6, v7])), (h1, .inr (6, [v8, v9, .int 0]))] := hD
  have hK : va_K (dC, dI) vwCl [] s := hK
  refine W.widen (k := 0) (n := 0) (Nat.le_of_ble_eq_true rfl) (Nat.le_of_ble_eq_true rfl) ?_
  refine lv_iconst (v := 1) hx hb dX16_leastLine_6 (by decide) ?_
  have hPc := hP.sub (ws' := [(h0, .inr (23, [v0, .ref h1, v1, v2, v3, v4, v5, v6, v7]))]) [0] rfl
  have hDc := hD.sub (ws' := [(h0, .inr (23, [v0, .ref h1, v1, v2, v3, v4, v5, v6, v7]))]) [0] (by decide) rfl
  have hKc := hK.sub (tys' := []) [] rfl
  have hFc := va_free (wc := [(h0, .inr (23, [v0, .ref h1, v1, v2, v3, v4, v5, v6, v7]))]) hD hS hA [0] rfl
  refine va_calli (va_runV (As := [.int 1, .int 1]) (rest := []) ⟨hx, hb, hml, hown, hts⟩ (kX16_start l dC dI g H.size h0 v0 (.ref h1) v1 v2 v3 v4 v5 v6 v7 ) (cwV 2 hts (ns_gp (List.forall_mem_cons.mpr ⟨wm242, (List.forall_mem_cons.mpr ⟨wm243, (List.forall_mem_cons.mpr ⟨wm244, (List.forall_mem_cons.mpr ⟨wm192, (fun _ h9 => nomatch h9)⟩)⟩)⟩)⟩) wm239) rfl rfl rfl (by decide +kernel) ⟨Nat.le_of_ble_eq_true rfl, Nat.le_of_ble_eq_true rfl⟩) ⟨fun a U gg mk q => by obtain ⟨q0, q1, qP, qK, qD, qF⟩ := q; exact ⟨q0, q1, qP, va_K.moved (u := U) (U := U.calling gg mk a) (Vm.Alike.refl U.vm) qK, qD, ns_same qF⟩, va_recv hK hP (ci := 23) (q0 := 0) rfl rfl, fun U hU hW => ⟨rfl, by rw [hU], by rw [hU]; exact hPc, va_K.moved hW.alike hKc, hDc.weaken (fun _ _ _ _ => trivial), ns_call hF hS hFc hU hW⟩⟩ rfl rfl hl.1 rfl (lv_room (Nat.le_of_ble_eq_true rfl)) dX16_leastLine_7 ⟨Nat.le_of_ble_eq_true rfl, Nat.le_of_ble_eq_true rfl⟩) hS (fun q _ h => hFc q h) hFc (fun r9 u t H1 locs ht hvm hw hB hz1 hk1 hS => ?_)
  obtain rfl := hw.symm
  obtain ⟨hP1, hK1, hD1⟩ := hB
  rw [ht] at hP1
  have hK1 := va_K.moved hvm.symm hK1
  obtain ⟨hP, hD⟩ := va_join (wr := [(h1, .inr (6, [v8, v9, .int 0]))]) (w1 := [(h0, .inr (23, [.int 1, .ref h1, v1, v2, v3, v4, v5, v6, v7]))]) hP hD [0] [1] rfl rfl (by decide) (by decide) hk1 hFc hP1 hD1
  have hK := (hK.sub (tys' := []) [] rfl).app hK1
  generalize H1 = H at hP hS ⊢
  have hP : va_P (dC, dI) vwCl [(h1, .inr (6, [v8, v9, .int 0])), (h0, .inr (23, [.int 1, .ref h1, v1, v2, v3, v4, v5, v6, v7]))] H := hP
  have hD : va_D A [(h1, .inr (6, [v8, v9, .int 0])), (h0, .inr (23, [.int 1, .ref h1, v1, v2, v3, v4, v5, v6, v7]))] := hD
  have hK : va_K (dC, dI) vwCl [] s := hK
  refine W.widen (k := 0) (n := 0) (Nat.le_of_ble_eq_true rfl) (Nat.le_of_ble_eq_true rfl) ?_
  refine lv_if_ne (tgt := 52) hx hb dX16_leastLine_10 (by decide) (fun c1 => ?_) (fun c1 => absurd c1 (by decide))
  refine va_ldcS hx hb hown (ns_f33 hF) dX16_leastLine_52 ?_
  refine lv_goto (tgt := 76) hx hb dX16_leastLine_54 (by decide) ?_
  have hP9 := hP.sub (ws' := [(h1, .inr (6, [v8, v9, .int 0])), (h0, .inr (23, [.int 1, .ref h1, v1, v2, v3, v4, v5, v6, v7]))]) [0, 1] rfl
  have hD9 := hD.sub (ws' := [(h1, .inr (6, [v8, v9, .int 0])), (h0, .inr (23, [.int 1, .ref h1, v1, v2, v3, v4, v5, v6, v7]))]) [0, 1] (by decide) rfl
  have hK9 := hK.sub (tys' := []) [] rfl
  refine W.widen (k := 0) (n := 0) (Nat.le_of_ble_eq_true rfl) (Nat.le_of_ble_eq_true rfl) ?_
  exact W.aret (v := .ref (g 34)) hx hb hr (by first | exact Or.inl ⟨_, rfl⟩ | exact Or.inr ⟨_, rfl⟩) (Or.inr ⟨_, rfl⟩) (fun t ht hW => ⟨⟨(), _, rfl, trivial, rfl, by rw [ht]; exact hP9, va_K.moved hW.alike hK9, hD9⟩, hS.F ht⟩) hS.2.2 dX16_leastLine_76
set_option maxHeartbeats 4000000 in
set_option maxRecDepth 100000 in
theorem kX16_align (l : Launch) (dC : Nat → ClassId) (dI : Nat → Nat → Nat) (g : Nat → Nat) (sz : Nat) (h0 : Nat) (x0 : Int32) (h1 : Nat) (v0 : Value) (v1 : Value) (v2 : Value) (v3 : Value) (v4 : Value) (v5 : Value) (v6 : Value) (v7 : Value) (v8 : Value) (v9 : Value) : Met l yX16_align wbX16_align ({ frames := 2, cells := 0, slots := 0, locals := 44 }) (va_Pc [.ref h0, .int x0] (fun U => U.heap.size = sz ∧ va_P (dC, dI) vwCl [(h0, .inr (23, [v0, .ref h1, v1, v2, v3, v4, v5, v6, v7])), (h1, .inr (6, [v8, v9, .int 0]))] U.heap ∧ va_K (dC, dI) vwCl [] U ∧ va_D (fun _ => True) [(h0, .inr (23, [v0, .ref h1, v1, v2, v3, v4, v5, v6, v7])), (h1, .inr (6, [v8, v9, .int 0]))] ∧ ns_F g (va_A [(h0, .inr (23, [v0, .ref h1, v1, v2, v3, v4, v5, v6, v7])), (h1, .inr (6, [v8, v9, .int 0]))] sz) U U.heap)) (va_Qi (fun (r : Int32) (_ : Unit) => r = 0) (fun _ t => va_P (dC, dI) vwCl [(h1, .inr (6, [v8, v9, .int 0])), (h0, .inr (23, [.int 1, .ref h1, v1, v2, v3, v4, v5, v6, v7]))] t.heap ∧ va_K (dC, dI) vwCl [] t ∧ va_D (va_A [(h0, .inr (23, [v0, .ref h1, v1, v2, v3, v4, v5, v6, v7])), (h1, .inr (6, [v8, v9, .int 0]))] sz) [(h1, .inr (6, [v8, v9, .int 0])), (h0, .inr (23, [.int 1, .ref h1, v1, v2, v3, v4, v5, v6, v7]))]) (va_A [(h0, .inr (23, [v0, .ref h1, v1, v2, v3, v4, v5, v6, v7])), (h1, .inr (6, [v8, v9, .int 0]))] sz)) 0 0 (va_A [(h0, .inr (23, [v0, .ref h1, v1, v2, v3, v4, v5, v6, v7])), (h1, .inr (6, [v8, v9, .int 0]))] sz) := by
  refine Met.ofW (cc := cX16_align) (maxL := 2) (ret := (some .int)) (by decide) rfl ?_
  intro p e s m args below meth c s₁ B hml hv
  obtain ⟨rfl, hsz, hP, hK, hD0, hF⟩ := hv
  have hx := B.exec
  have hb := B.bytes
  have hr := B.returns
  have hts := atoms_spec (ws := wbX16_align) B.pre
  have hta : ∀ w ∈ wsALL, w.before _ s = true := fun w h => hts w (List.mem_cons_of_mem _ h)
  have hown : s.vm.findClass RX16 = some m.cls := findClass_of_methodNamed B.named
  have hlocks := B.notSynchronized
  subst hsz
  have hD := hD0.self (sz := s.heap.size)
  generalize hAe : va_A [(h0, .inr (23, [v0, .ref h1, v1, v2, v3, v4, v5, v6, v7])), (h1, .inr (6, [v8, v9, .int 0]))] s.heap.size = A at hD hF ⊢
  have hA : ∀ q : Nat, s.heap.size ≤ q → A q := fun q h => by rw [← hAe]; exact Or.inr h
  have hS : va_S A s.heap s.heap [] := va_S.rf
  have hP : va_P (dC, dI) vwCl [(h0, .inr (23, [v0, .ref h1, v1, v2, v3, v4, v5, v6, v7])), (h1, .inr (6, [v8, v9, .int 0]))] s.heap := hP
  have hl := lv_entry ([.ref h0, .int x0]) (n := 2) (Nat.le_of_ble_eq_true rfl)
  rw [lg_entry_eq]
  generalize (lg_sl ([.ref h0, .int x0]) ++ List.replicate (2 - (lg_sl ([.ref h0, .int x0])).length) Slot.unset).toArray = ls at hl ⊢
  have hl : lv_has ls 2 [(0, .ref h0), (1, .int x0)] := hl
  refine lv_aload_n hx hb dX16_align_0 rfl (lv_at hl 0 rfl) ?_
  refine lv_aload_n hx hb dX16_align_1 rfl (lv_at hl 0 rfl) ?_
  refine lv_iload_n hx hb dX16_align_2 rfl (lv_at hl 1 rfl) ?_
  have hPc := hP.sub (ws' := [(h0, .inr (23, [v0, .ref h1, v1, v2, v3, v4, v5, v6, v7])), (h1, .inr (6, [v8, v9, .int 0]))]) [0, 1] rfl
  have hDc := hD.sub (ws' := [(h0, .inr (23, [v0, .ref h1, v1, v2, v3, v4, v5, v6, v7])), (h1, .inr (6, [v8, v9, .int 0]))]) [0, 1] (by decide) rfl
  have hKc := hK.sub (tys' := []) [] rfl
  have hFc := va_free (wc := [(h0, .inr (23, [v0, .ref h1, v1, v2, v3, v4, v5, v6, v7])), (h1, .inr (6, [v8, v9, .int 0]))]) hD hS hA [0, 1] rfl
  refine va_calli (va_runV (As := [.int x0]) (rest := [.ref h0]) ⟨hx, hb, hml, hown, hts⟩ (kX16_isNoNode l dC dI g s.heap.size h0 x0 h1 v0 v1 v2 v3 v4 v5 v6 v7 v8 v9 ) (cwV 1 hts (ns_gp (List.forall_mem_cons.mpr ⟨wm449, (List.forall_mem_cons.mpr ⟨wm450, (List.forall_mem_cons.mpr ⟨wm451, (List.forall_mem_cons.mpr ⟨wm192, (fun _ h9 => nomatch h9)⟩)⟩)⟩)⟩) wm448) rfl rfl rfl (by decide +kernel) ⟨Nat.le_of_ble_eq_true rfl, Nat.le_of_ble_eq_true rfl⟩) ⟨fun a U gg mk q => by obtain ⟨q0, q1, qP, qK, qD, qF⟩ := q; exact ⟨q0, q1, qP, va_K.moved (u := U) (U := U.calling gg mk a) (Vm.Alike.refl U.vm) qK, qD, ns_same qF⟩, va_recv hK hP (ci := 23) (q0 := 0) rfl rfl, fun U hU hW => ⟨rfl, by rw [hU], by rw [hU]; exact hPc, va_K.moved hW.alike hKc, hDc.weaken (fun _ _ _ _ => trivial), ns_call hF hS hFc hU hW⟩⟩ rfl rfl hl.1 rfl (lv_room (Nat.le_of_ble_eq_true rfl)) dX16_align_3 ⟨Nat.le_of_ble_eq_true rfl, Nat.le_of_ble_eq_true rfl⟩) hS (fun q _ h => hFc q h) hFc (fun r9 u t H1 locs ht hvm hw hB hz1 hk1 hS => ?_)
  obtain rfl := hw.symm
  obtain ⟨hP1, hK1, hD1⟩ := hB
  rw [ht] at hP1
  have hK1 := va_K.moved hvm.symm hK1
  obtain ⟨hP, hD⟩ := va_join (wr := []) (w1 := [(h0, .inr (23, [v0, .ref h1, v1, v2, v3, v4, v5, v6, v7])), (h1, .inr (6, [v8, v9, .int 0]))]) hP hD [0, 1] [] rfl rfl (by decide) (by decide) hk1 hFc hP1 hD1
  have hK := (hK.sub (tys' := []) [] rfl).app hK1
  generalize H1 = H at hP hS ⊢
  have hP : va_P (dC, dI) vwCl [(h0, .inr (23, [v0, .ref h1, v1, v2, v3, v4, v5, v6, v7])), (h1, .inr (6, [v8, v9, .int 0]))] H := hP
  have hD : va_D A [(h0, .inr (23, [v0, .ref h1, v1, v2, v3, v4, v5, v6, v7])), (h1, .inr (6, [v8, v9, .int 0]))] := hD
  have hK : va_K (dC, dI) vwCl [] s := hK
  refine W.widen (k := 0) (n := 0) (Nat.le_of_ble_eq_true rfl) (Nat.le_of_ble_eq_true rfl) ?_
  refine lv_iconst (v := 1) hx hb dX16_align_6 (by decide) ?_
  have hPc := hP.sub (ws' := [(h0, .inr (23, [v0, .ref h1, v1, v2, v3, v4, v5, v6, v7]))]) [0] rfl
  have hDc := hD.sub (ws' := [(h0, .inr (23, [v0, .ref h1, v1, v2, v3, v4, v5, v6, v7]))]) [0] (by decide) rfl
  have hKc := hK.sub (tys' := []) [] rfl
  have hFc := va_free (wc := [(h0, .inr (23, [v0, .ref h1, v1, v2, v3, v4, v5, v6, v7]))]) hD hS hA [0] rfl
  refine va_calli (va_runV (As := [.int 1, .int 1]) (rest := []) ⟨hx, hb, hml, hown, hts⟩ (kX16_start l dC dI g H.size h0 v0 (.ref h1) v1 v2 v3 v4 v5 v6 v7 ) (cwV 2 hts (ns_gp (List.forall_mem_cons.mpr ⟨wm242, (List.forall_mem_cons.mpr ⟨wm243, (List.forall_mem_cons.mpr ⟨wm244, (List.forall_mem_cons.mpr ⟨wm192, (fun _ h9 => nomatch h9)⟩)⟩)⟩)⟩) wm239) rfl rfl rfl (by decide +kernel) ⟨Nat.le_of_ble_eq_true rfl, Nat.le_of_ble_eq_true rfl⟩) ⟨fun a U gg mk q => by obtain ⟨q0, q1, qP, qK, qD, qF⟩ := q; exact ⟨q0, q1, qP, va_K.moved (u := U) (U := U.calling gg mk a) (Vm.Alike.refl U.vm) qK, qD, ns_same qF⟩, va_recv hK hP (ci := 23) (q0 := 0) rfl rfl, fun U hU hW => ⟨rfl, by rw [hU], by rw [hU]; exact hPc, va_K.moved hW.alike hKc, hDc.weaken (fun _ _ _ _ => trivial), ns_call hF hS hFc hU hW⟩⟩ rfl rfl hl.1 rfl (lv_room (Nat.le_of_ble_eq_true rfl)) dX16_align_7 ⟨Nat.le_of_ble_eq_true rfl, Nat.le_of_ble_eq_true rfl⟩) hS (fun q _ h => hFc q h) hFc (fun r9 u t H1 locs ht hvm hw hB hz1 hk1 hS => ?_)
  obtain rfl := hw.symm
  obtain ⟨hP1, hK1, hD1⟩ := hB
  rw [ht] at hP1
  have hK1 := va_K.moved hvm.symm hK1
  obtain ⟨hP, hD⟩ := va_join (wr := [(h1, .inr (6, [v8, v9, .int 0]))]) (w1 := [(h0, .inr (23, [.int 1, .ref h1, v1, v2, v3, v4, v5, v6, v7]))]) hP hD [0] [1] rfl rfl (by decide) (by decide) hk1 hFc hP1 hD1
  have hK := (hK.sub (tys' := []) [] rfl).app hK1
  generalize H1 = H at hP hS ⊢
  have hP : va_P (dC, dI) vwCl [(h1, .inr (6, [v8, v9, .int 0])), (h0, .inr (23, [.int 1, .ref h1, v1, v2, v3, v4, v5, v6, v7]))] H := hP
  have hD : va_D A [(h1, .inr (6, [v8, v9, .int 0])), (h0, .inr (23, [.int 1, .ref h1, v1, v2, v3, v4, v5, v6, v7]))] := hD
  have hK : va_K (dC, dI) vwCl [] s := hK
  refine W.widen (k := 0) (n := 0) (Nat.le_of_ble_eq_true rfl) (Nat.le_of_ble_eq_true rfl) ?_
  refine lv_if_eq (tgt := 17) hx hb dX16_align_10 (by decide) (fun c1 => absurd c1 (by decide)) (fun c1 => ?_)
  refine lv_iconst (v := 0) hx hb dX16_align_13 (by decide) ?_
  refine lv_goto (tgt := 48) hx hb dX16_align_14 (by decide) ?_
  have hP9 := hP.sub (ws' := [(h1, .inr (6, [v8, v9, .int 0])), (h0, .inr (23, [.int 1, .ref h1, v1, v2, v3, v4, v5, v6, v7]))]) [0, 1] rfl
  have hD9 := hD.sub (ws' := [(h1, .inr (6, [v8, v9, .int 0])), (h0, .inr (23, [.int 1, .ref h1, v1, v2, v3, v4, v5, v6, v7]))]) [0, 1] (by decide) rfl
  have hK9 := hK.sub (tys' := []) [] rfl
  refine W.widen (k := 0) (n := 0) (Nat.le_of_ble_eq_true rfl) (Nat.le_of_ble_eq_true rfl) ?_
  exact W.iret (v := 0) hx hb hr (fun t ht hW => ⟨⟨_, (), rfl, rfl, by rw [ht]; exact hP9, va_K.moved hW.alike hK9, hD9⟩, hS.F ht⟩) hS.2.2 dX16_align_48
set_option maxHeartbeats 4000000 in
set_option maxRecDepth 100000 in
theorem kX16_ofCode_3 (l : Launch) (dC : Nat → ClassId) (dI : Nat → Nat → Nat) (g : Nat → Nat) (sz : Nat) (h0 : Nat) (x0 : Int32) (v0 : Value) (v1 : Value) (v2 : Value) (v3 : Value) (v4 : Value) (v5 : Value) (v6 : Value) (v7 : Value) (v8 : Value) (ex0 : (10 : Int) ≤ x0.toInt ∧ x0.toInt ≤ (2147483647 : Int)) : Met l yX16_ofCode wbX16_ofCode ({ frames := 2, cells := 0, slots := 0, locals := 44 }) (va_Pc [.ref h0, .int x0] (fun U => U.heap.size = sz ∧ va_P (dC, dI) vwCl [(h0, .inr (23, [v0, v1, v2, v3, v4, v5, v6, v7, v8]))] U.heap ∧ va_K (dC, dI) vwCl [] U ∧ va_D (fun _ => True) [(h0, .inr (23, [v0, v1, v2, v3, v4, v5, v6, v7, v8]))] ∧ ns_F g (va_A [(h0, .inr (23, [v0, v1, v2, v3, v4, v5, v6, v7, v8]))] sz) U U.heap)) (va_Qi (fun (r : Int32) (_ : Unit) => r = 0) (fun _ t => va_P (dC, dI) vwCl [(h0, .inr (23, [.int 1, v1, v2, v3, v4, v5, v6, v7, v8]))] t.heap ∧ va_K (dC, dI) vwCl [] t ∧ va_D (va_A [(h0, .inr (23, [v0, v1, v2, v3, v4, v5, v6, v7, v8]))] sz) [(h0, .inr (23, [.int 1, v1, v2, v3, v4, v5, v6, v7, v8]))]) (va_A [(h0, .inr (23, [v0, v1, v2, v3, v4, v5, v6, v7, v8]))] sz)) 0 0 (va_A [(h0, .inr (23, [v0, v1, v2, v3, v4, v5, v6, v7, v8]))] sz) := by
  refine Met.ofW (cc := cX16_ofCode) (maxL := 2) (ret := (some .int)) (by decide) rfl ?_
  intro p e s m args below meth c s₁ B hml hv
  obtain ⟨rfl, hsz, hP, hK, hD0, hF⟩ := hv
  have hx := B.exec
  have hb := B.bytes
  have hr := B.returns
  have hts := atoms_spec (ws := wbX16_ofCode) B.pre
  have hta : ∀ w ∈ wsALL, w.before _ s = true := fun w h => hts w (List.mem_cons_of_mem _ h)
  have hown : s.vm.findClass RX16 = some m.cls := findClass_of_methodNamed B.named
  have hlocks := B.notSynchronized
  subst hsz
  have hD := hD0.self (sz := s.heap.size)
  generalize hAe : va_A [(h0, .inr (23, [v0, v1, v2, v3, v4, v5, v6, v7, v8]))] s.heap.size = A at hD hF ⊢
  have hA : ∀ q : Nat, s.heap.size ≤ q → A q := fun q h => by rw [← hAe]; exact Or.inr h
  have hS : va_S A s.heap s.heap [] := va_S.rf
  have hP : va_P (dC, dI) vwCl [(h0, .inr (23, [v0, v1, v2, v3, v4, v5, v6, v7, v8]))] s.heap := hP
  have hl := lv_entry ([.ref h0, .int x0]) (n := 2) (Nat.le_of_ble_eq_true rfl)
  rw [lg_entry_eq]
  generalize (lg_sl ([.ref h0, .int x0]) ++ List.replicate (2 - (lg_sl ([.ref h0, .int x0])).length) Slot.unset).toArray = ls at hl ⊢
  have hl : lv_has ls 2 [(0, .ref h0), (1, .int x0)] := hl
  refine lv_aload_n hx hb dX16_ofCode_0 rfl (lv_at hl 0 rfl) ?_
  refine lv_iload_n hx hb dX16_ofCode_1 rfl (lv_at hl 1 rfl) ?_
  refine lv_iconst (v := 0) hx hb dX16_ofCode_2 (by decide) ?_
  refine lv_bipush (v := 9) hx hb dX16_ofCode_3 (by decide) ?_
  have hPc := hP.sub (ws' := []) [] rfl
  have hDc := hD.sub (ws' := []) [] (by decide) rfl
  have hKc := hK.sub (tys' := []) [] rfl
  have hFc := va_free (wc := []) hD hS hA [] rfl
  refine va_calli (va_runS (As := [.int x0, .int 0, .int 9]) (rest := [.ref h0]) ⟨hx, hb, hml, hown, hts⟩ (kX16_isIn_28 l dC dI g s.heap.size x0 ⟨by omega, by omega⟩) (va_cwS 3 hts (ns_gp (List.forall_mem_cons.mpr ⟨wm240, (List.forall_mem_cons.mpr ⟨wm241, (List.forall_mem_cons.mpr ⟨wm192, (fun _ h9 => nomatch h9)⟩)⟩)⟩) wm233) rfl rfl rfl (by decide +kernel) ⟨Nat.le_of_ble_eq_true rfl, Nat.le_of_ble_eq_true rfl⟩) ⟨fun a U gg mk q => by obtain ⟨q0, q1, qP, qK, qD, qF⟩ := q; exact ⟨q0, q1, qP, va_K.moved (u := U) (U := U.calling gg mk a) (Vm.Alike.refl U.vm) qK, qD, ns_same qF⟩, fun U hU hW => ⟨rfl, by rw [hU], by rw [hU]; exact hPc, va_K.moved hW.alike hKc, hDc.weaken (fun _ _ _ _ => trivial), ns_call hF hS hFc hU hW⟩⟩ rfl rfl hl.1 rfl (lv_room (Nat.le_of_ble_eq_true rfl)) dX16_ofCode_5 ⟨Nat.le_of_ble_eq_true rfl, Nat.le_of_ble_eq_true rfl⟩) hS (fun q _ h => hFc q h) hFc (fun r9 u t H1 locs ht hvm hw hB hz1 hk1 hS => ?_)
  obtain rfl := hw.symm
  obtain ⟨hP1, hK1, hD1⟩ := hB
  rw [ht] at hP1
  have hK1 := va_K.moved hvm.symm hK1
  obtain ⟨hP, hD⟩ := va_join (wr := [(h0, .inr (23, [v0, v1, v2, v3, v4, v5, v6, v7, v8]))]) (w1 := []) hP hD [] [0] rfl rfl (by decide) (by decide) hk1 hFc hP1 hD1
  have hK := (hK.sub (tys' := []) [] rfl).app hK1
  generalize H1 = H at hP hS ⊢
  have hP : va_P (dC, dI) vwCl [(h0, .inr (23, [v0, v1, v2, v3, v4, v5, v6, v7, v8]))] H := hP
  have hD : va_D A [(h0, .inr (23, [v0, v1, v2, v3, v4, v5, v6, v7, v8]))] := hD
  have hK : va_K (dC, dI) vwCl [] s := hK
  refine W.widen (k := 0) (n := 0) (Nat.le_of_ble_eq_true rfl) (Nat.le_of_ble_eq_true rfl) ?_
  refine lv_if_ne (tgt := 15) hx hb dX16_ofCode_8 (by decide) (fun c1 => absurd (by decide) c1) (fun c1 => ?_)
  refine lv_iconst (v := 1) hx hb dX16_ofCode_11 (by decide) ?_
  refine lv_goto (tgt := 16) hx hb dX16_ofCode_12 (by decide) ?_
  refine lv_iconst (v := 1) hx hb dX16_ofCode_16 (by decide) ?_
  have hPc := hP.sub (ws' := [(h0, .inr (23, [v0, v1, v2, v3, v4, v5, v6, v7, v8]))]) [0] rfl
  have hDc := hD.sub (ws' := [(h0, .inr (23, [v0, v1, v2, v3, v4, v5, v6, v7, v8]))]) [0] (by decide) rfl
  have hKc := hK.sub (tys' := []) [] rfl
  have hFc := va_free (wc := [(h0, .inr (23, [v0, v1, v2, v3, v4, v5, v6, v7, v8]))]) hD hS hA [0] rfl
  refine va_calli (va_runV (As := [.int 1, .int 1]) (rest := []) ⟨hx, hb, hml, hown, hts⟩ (kX16_start l dC dI g H.size h0 v0 v1 v2 v3 v4 v5 v6 v7 v8 ) (cwV 2 hts (ns_gp (List.forall_mem_cons.mpr ⟨wm242, (List.forall_mem_cons.mpr ⟨wm243, (List.forall_mem_cons.mpr ⟨wm244, (List.forall_mem_cons.mpr ⟨wm192, (fun _ h9 => nomatch h9)⟩)⟩)⟩)⟩) wm239) rfl rfl rfl (by decide +kernel) ⟨Nat.le_of_ble_eq_true rfl, Nat.le_of_ble_eq_true rfl⟩) ⟨fun a U gg mk q => by obtain ⟨q0, q1, qP, qK, qD, qF⟩ := q; exact ⟨q0, q1, qP, va_K.moved (u := U) (U := U.calling gg mk a) (Vm.Alike.refl U.vm) qK, qD, ns_same qF⟩, va_recv hK hP (ci := 23) (q0 := 0) rfl rfl, fun U hU hW => ⟨rfl, by rw [hU], by rw [hU]; exact hPc, va_K.moved hW.alike hKc, hDc.weaken (fun _ _ _ _ => trivial), ns_call hF hS hFc hU hW⟩⟩ rfl rfl hl.1 rfl (lv_room (Nat.le_of_ble_eq_true rfl)) dX16_ofCode_17 ⟨Nat.le_of_ble_eq_true rfl, Nat.le_of_ble_eq_true rfl⟩) hS (fun q _ h => hFc q h) hFc (fun r9 u t H1 locs ht hvm hw hB hz1 hk1 hS => ?_)
  obtain rfl := hw.symm
  obtain ⟨hP1, hK1, hD1⟩ := hB
  rw [ht] at hP1
  have hK1 := va_K.moved hvm.symm hK1
  obtain ⟨hP, hD⟩ := va_join (wr := []) (w1 := [(h0, .inr (23, [.int 1, v1, v2, v3, v4, v5, v6, v7, v8]))]) hP hD [0] [] rfl rfl (by decide) (by decide) hk1 hFc hP1 hD1
  have hK := (hK.sub (tys' := []) [] rfl).app hK1
  generalize H1 = H at hP hS ⊢
  have hP : va_P (dC, dI) vwCl [(h0, .inr (23, [.int 1, v1, v2, v3, v4, v5, v6, v7, v8]))] H := hP
  have hD : va_D A [(h0, .inr (23, [.int 1, v1, v2, v3, v4, v5, v6, v7, v8]))] := hD
  have hK : va_K (dC, dI) vwCl [] s := hK
  refine W.widen (k := 0) (n := 0) (Nat.le_of_ble_eq_true rfl) (Nat.le_of_ble_eq_true rfl) ?_
  refine lv_if_eq (tgt := 27) hx hb dX16_ofCode_20 (by decide) (fun c2 => absurd c2 (by decide)) (fun c2 => ?_)
  refine lv_iconst (v := 0) hx hb dX16_ofCode_23 (by decide) ?_
  refine lv_goto (tgt := 32) hx hb dX16_ofCode_24 (by decide) ?_
  have hP9 := hP.sub (ws' := [(h0, .inr (23, [.int 1, v1, v2, v3, v4, v5, v6, v7, v8]))]) [0] rfl
  have hD9 := hD.sub (ws' := [(h0, .inr (23, [.int 1, v1, v2, v3, v4, v5, v6, v7, v8]))]) [0] (by decide) rfl
  have hK9 := hK.sub (tys' := []) [] rfl
  refine W.widen (k := 0) (n := 0) (Nat.le_of_ble_eq_true rfl) (Nat.le_of_ble_eq_true rfl) ?_
  exact W.iret (v := 0) hx hb hr (fun t ht hW => ⟨⟨_, (), rfl, rfl, by rw [ht]; exact hP9, va_K.moved hW.alike hK9, hD9⟩, hS.F ht⟩) hS.2.2 dX16_ofCode_32
set_option maxHeartbeats 4000000 in
set_option maxRecDepth 100000 in
theorem kX16_word_32 (l : Launch) (dC : Nat → ClassId) (dI : Nat → Nat → Nat) (g : Nat → Nat) (sz : Nat) (h0 : Nat) (x0 : Int32) (v0 : Value) (v1 : Value) (v2 : Value) (v3 : Value) (v4 : Value) (v5 : Value) (v6 : Value) (v7 : Value) (v8 : Value) (ex0 : (26 : Int) ≤ x0.toInt ∧ x0.toInt ≤ (2147483647 : Int)) : Met l yX16_word wbX16_word ({ frames := 2, cells := 0, slots := 0, locals := 44 }) (va_Pc [.ref h0, .int x0, .int 9] (fun U => U.heap.size = sz ∧ va_P (dC, dI) vwCl [(h0, .inr (23, [v0, v1, v2, v3, v4, v5, v6, v7, v8]))] U.heap ∧ va_K (dC, dI) vwCl [] U ∧ va_D (fun _ => True) [(h0, .inr (23, [v0, v1, v2, v3, v4, v5, v6, v7, v8]))] ∧ ns_F g (va_A [(h0, .inr (23, [v0, v1, v2, v3, v4, v5, v6, v7, v8]))] sz) U U.heap)) (va_Qi (fun (r : Int32) (_ : Unit) => r = 0) (fun _ t => va_P (dC, dI) vwCl [(h0, .inr (23, [.int 1, v1, v2, v3, v4, v5, v6, v7, v8]))] t.heap ∧ va_K (dC, dI) vwCl [] t ∧ va_D (va_A [(h0, .inr (23, [v0, v1, v2, v3, v4, v5, v6, v7, v8]))] sz) [(h0, .inr (23, [.int 1, v1, v2, v3, v4, v5, v6, v7, v8]))]) (va_A [(h0, .inr (23, [v0, v1, v2, v3, v4, v5, v6, v7, v8]))] sz)) 0 0 (va_A [(h0, .inr (23, [v0, v1, v2, v3, v4, v5, v6, v7, v8]))] sz) := by
  refine Met.ofW (cc := cX16_word) (maxL := 5) (ret := (some .int)) (by decide) rfl ?_
  intro p e s m args below meth c s₁ B hml hv
  obtain ⟨rfl, hsz, hP, hK, hD0, hF⟩ := hv
  have hx := B.exec
  have hb := B.bytes
  have hr := B.returns
  have hts := atoms_spec (ws := wbX16_word) B.pre
  have hta : ∀ w ∈ wsALL, w.before _ s = true := fun w h => hts w (List.mem_cons_of_mem _ h)
  have hown : s.vm.findClass RX16 = some m.cls := findClass_of_methodNamed B.named
  have hlocks := B.notSynchronized
  subst hsz
  have hD := hD0.self (sz := s.heap.size)
  generalize hAe : va_A [(h0, .inr (23, [v0, v1, v2, v3, v4, v5, v6, v7, v8]))] s.heap.size = A at hD hF ⊢
  have hA : ∀ q : Nat, s.heap.size ≤ q → A q := fun q h => by rw [← hAe]; exact Or.inr h
  have hS : va_S A s.heap s.heap [] := va_S.rf
  have hP : va_P (dC, dI) vwCl [(h0, .inr (23, [v0, v1, v2, v3, v4, v5, v6, v7, v8]))] s.heap := hP
  have hl := lv_entry ([.ref h0, .int x0, .int 9]) (n := 5) (Nat.le_of_ble_eq_true rfl)
  rw [lg_entry_eq]
  generalize (lg_sl ([.ref h0, .int x0, .int 9]) ++ List.replicate (5 - (lg_sl ([.ref h0, .int x0, .int 9])).length) Slot.unset).toArray = ls at hl ⊢
  have hl : lv_has ls 5 [(0, .ref h0), (1, .int x0), (2, .int 9)] := hl
  refine lv_aload_n hx hb dX16_word_0 rfl (lv_at hl 0 rfl) ?_
  refine lv_iload_n hx hb dX16_word_1 rfl (lv_at hl 1 rfl) ?_
  refine lv_iconst (v := 0) hx hb dX16_word_2 (by decide) ?_
  refine lv_bipush (v := 25) hx hb dX16_word_3 (by decide) ?_
  have hPc := hP.sub (ws' := []) [] rfl
  have hDc := hD.sub (ws' := []) [] (by decide) rfl
  have hKc := hK.sub (tys' := []) [] rfl
  have hFc := va_free (wc := []) hD hS hA [] rfl
  refine va_calli (va_runS (As := [.int x0, .int 0, .int 25]) (rest := [.ref h0]) ⟨hx, hb, hml, hown, hts⟩ (kX16_isIn_14 l dC dI g s.heap.size x0 ⟨by omega, by omega⟩) (va_cwS 3 hts (ns_gp (List.forall_mem_cons.mpr ⟨wm240, (List.forall_mem_cons.mpr ⟨wm241, (List.forall_mem_cons.mpr ⟨wm192, (fun _ h9 => nomatch h9)⟩)⟩)⟩) wm233) rfl rfl rfl (by decide +kernel) ⟨Nat.le_of_ble_eq_true rfl, Nat.le_of_ble_eq_true rfl⟩) ⟨fun a U gg mk q => by obtain ⟨q0, q1, qP, qK, qD, qF⟩ := q; exact ⟨q0, q1, qP, va_K.moved (u := U) (U := U.calling gg mk a) (Vm.Alike.refl U.vm) qK, qD, ns_same qF⟩, fun U hU hW => ⟨rfl, by rw [hU], by rw [hU]; exact hPc, va_K.moved hW.alike hKc, hDc.weaken (fun _ _ _ _ => trivial), ns_call hF hS hFc hU hW⟩⟩ rfl rfl hl.1 rfl (lv_room (Nat.le_of_ble_eq_true rfl)) dX16_word_5 ⟨Nat.le_of_ble_eq_true rfl, Nat.le_of_ble_eq_true rfl⟩) hS (fun q _ h => hFc q h) hFc (fun r9 u t H1 locs ht hvm hw hB hz1 hk1 hS => ?_)
  obtain rfl := hw.symm
  obtain ⟨hP1, hK1, hD1⟩ := hB
  rw [ht] at hP1
  have hK1 := va_K.moved hvm.symm hK1
  obtain ⟨hP, hD⟩ := va_join (wr := [(h0, .inr (23, [v0, v1, v2, v3, v4, v5, v6, v7, v8]))]) (w1 := []) hP hD [] [0] rfl rfl (by decide) (by decide) hk1 hFc hP1 hD1
  have hK := (hK.sub (tys' := []) [] rfl).app hK1
  generalize H1 = H at hP hS ⊢
  have hP : va_P (dC, dI) vwCl [(h0, .inr (23, [v0, v1, v2, v3, v4, v5, v6, v7, v8]))] H := hP
  have hD : va_D A [(h0, .inr (23, [v0, v1, v2, v3, v4, v5, v6, v7, v8]))] := hD
  have hK : va_K (dC, dI) vwCl [] s := hK
  refine W.widen (k := 0) (n := 0) (Nat.le_of_ble_eq_true rfl) (Nat.le_of_ble_eq_true rfl) ?_
  refine lv_if_eq (tgt := 21) hx hb dX16_word_8 (by decide) (fun c1 => ?_) (fun c1 => absurd (by decide) c1)
  refine lv_iconst (v := 1) hx hb dX16_word_21 (by decide) ?_
  refine lv_goto (tgt := 26) hx hb dX16_word_22 (by decide) ?_
  refine lv_iconst (v := 1) hx hb dX16_word_26 (by decide) ?_
  have hPc := hP.sub (ws' := [(h0, .inr (23, [v0, v1, v2, v3, v4, v5, v6, v7, v8]))]) [0] rfl
  have hDc := hD.sub (ws' := [(h0, .inr (23, [v0, v1, v2, v3, v4, v5, v6, v7, v8]))]) [0] (by decide) rfl
  have hKc := hK.sub (tys' := []) [] rfl
  have hFc := va_free (wc := [(h0, .inr (23, [v0, v1, v2, v3, v4, v5, v6, v7, v8]))]) hD hS hA [0] rfl
  refine va_calli (va_runV (As := [.int 1, .int 1]) (rest := []) ⟨hx, hb, hml, hown, hts⟩ (kX16_start l dC dI g H.size h0 v0 v1 v2 v3 v4 v5 v6 v7 v8 ) (cwV 2 hts (ns_gp (List.forall_mem_cons.mpr ⟨wm242, (List.forall_mem_cons.mpr ⟨wm243, (List.forall_mem_cons.mpr ⟨wm244, (List.forall_mem_cons.mpr ⟨wm192, (fun _ h9 => nomatch h9)⟩)⟩)⟩)⟩) wm239) rfl rfl rfl (by decide +kernel) ⟨Nat.le_of_ble_eq_true rfl, Nat.le_of_ble_eq_true rfl⟩) ⟨fun a U gg mk q => by obtain ⟨q0, q1, qP, qK, qD, qF⟩ := q; exact ⟨q0, q1, qP, va_K.moved (u := U) (U := U.calling gg mk a) (Vm.Alike.refl U.vm) qK, qD, ns_same qF⟩, va_recv hK hP (ci := 23) (q0 := 0) rfl rfl, fun U hU hW => ⟨rfl, by rw [hU], by rw [hU]; exact hPc, va_K.moved hW.alike hKc, hDc.weaken (fun _ _ _ _ => trivial), ns_call hF hS hFc hU hW⟩⟩ rfl rfl hl.1 rfl (lv_room (Nat.le_of_ble_eq_true rfl)) dX16_word_27 ⟨Nat.le_of_ble_eq_true rfl, Nat.le_of_ble_eq_true rfl⟩) hS (fun q _ h => hFc q h) hFc (fun r9 u t H1 locs ht hvm hw hB hz1 hk1 hS => ?_)
  obtain rfl := hw.symm
  obtain ⟨hP1, hK1, hD1⟩ := hB
  rw [ht] at hP1
  have hK1 := va_K.moved hvm.symm hK1
  obtain ⟨hP, hD⟩ := va_join (wr := []) (w1 := [(h0, .inr (23, [.int 1, v1, v2, v3, v4, v5, v6, v7, v8]))]) hP hD [0] [] rfl rfl (by decide) (by decide) hk1 hFc hP1 hD1
  have hK := (hK.sub (tys' := []) [] rfl).app hK1
  generalize H1 = H at hP hS ⊢
  have hP : va_P (dC, dI) vwCl [(h0, .inr (23, [.int 1, v1, v2, v3, v4, v5, v6, v7, v8]))] H := hP
  have hD : va_D A [(h0, .inr (23, [.int 1, v1, v2, v3, v4, v5, v6, v7, v8]))] := hD
  have hK : va_K (dC, dI) vwCl [] s := hK
  refine W.widen (k := 0) (n := 0) (Nat.le_of_ble_eq_true rfl) (Nat.le_of_ble_eq_true rfl) ?_
  refine lv_if_ne (tgt := 45) hx hb dX16_word_30 (by decide) (fun c2 => ?_) (fun c2 => absurd c2 (by decide))
  refine lv_iconst (v := 0) hx hb dX16_word_45 (by decide) ?_
  have hP9 := hP.sub (ws' := [(h0, .inr (23, [.int 1, v1, v2, v3, v4, v5, v6, v7, v8]))]) [0] rfl
  have hD9 := hD.sub (ws' := [(h0, .inr (23, [.int 1, v1, v2, v3, v4, v5, v6, v7, v8]))]) [0] (by decide) rfl
  have hK9 := hK.sub (tys' := []) [] rfl
  refine W.widen (k := 0) (n := 0) (Nat.le_of_ble_eq_true rfl) (Nat.le_of_ble_eq_true rfl) ?_
  exact W.iret (v := 0) hx hb hr (fun t ht hW => ⟨⟨_, (), rfl, rfl, by rw [ht]; exact hP9, va_K.moved hW.alike hK9, hD9⟩, hS.F ht⟩) hS.2.2 dX16_word_46
set_option maxHeartbeats 4000000 in
set_option maxRecDepth 100000 in
theorem kL_width_2 (l : Launch) (dC : Nat → ClassId) (dI : Nat → Nat → Nat) (g : Nat → Nat) (sz : Nat) (h0 : Nat) (x0 : Int32) (h1 : Nat) (v0 : Value) (v1 : Value) (v2 : Value) (v3 : Value) (v4 : Value) (v5 : Value) (v6 : Value) (v7 : Value) (v8 : Value) (v9 : Value) (v10 : Value) (v11 : Value) (v12 : Value) (v13 : Value) (v14 : Value) (v15 : Value) (v16 : Value) (ex0 : (1 : Int) ≤ x0.toInt ∧ x0.toInt ≤ (60 : Int)) : Met l yL_width wbL_width ({ frames := 2, cells := 0, slots := 0, locals := 43 }) (va_Pc [.ref h0, .int x0, .ref h1] (fun U => U.heap.size = sz ∧ va_P (dC, dI) vwCl [(h0, .inr (16, [v0, v1, v2, v3, v4, v5, v6, v7, v8, v9, v10, .int 20, v11, v12, v13, v14])), (h1, .inr (17, [v15, v16]))] U.heap ∧ va_K (dC, dI) vwCl [] U ∧ va_D (fun _ => True) [(h0, .inr (16, [v0, v1, v2, v3, v4, v5, v6, v7, v8, v9, v10, .int 20, v11, v12, v13, v14])), (h1, .inr (17, [v15, v16]))] ∧ ns_F g (va_A [(h0, .inr (16, [v0, v1, v2, v3, v4, v5, v6, v7, v8, v9, v10, .int 20, v11, v12, v13, v14])), (h1, .inr (17, [v15, v16]))] sz) U U.heap)) (va_Qi (fun (r : Int32) (_ : Unit) => r = 0) (fun _ t => va_P (dC, dI) vwCl [(h1, .inr (17, [.long 20, v16])), (h0, .inr (16, [v0, v1, v2, v3, v4, v5, v6, v7, v8, v9, v10, .int x0, v11, v12, v13, v14]))] t.heap ∧ va_K (dC, dI) vwCl [] t ∧ va_D (va_A [(h0, .inr (16, [v0, v1, v2, v3, v4, v5, v6, v7, v8, v9, v10, .int 20, v11, v12, v13, v14])), (h1, .inr (17, [v15, v16]))] sz) [(h1, .inr (17, [.long 20, v16])), (h0, .inr (16, [v0, v1, v2, v3, v4, v5, v6, v7, v8, v9, v10, .int x0, v11, v12, v13, v14]))]) (va_A [(h0, .inr (16, [v0, v1, v2, v3, v4, v5, v6, v7, v8, v9, v10, .int 20, v11, v12, v13, v14])), (h1, .inr (17, [v15, v16]))] sz)) 0 0 (va_A [(h0, .inr (16, [v0, v1, v2, v3, v4, v5, v6, v7, v8, v9, v10, .int 20, v11, v12, v13, v14])), (h1, .inr (17, [v15, v16]))] sz) := by
  refine va_MetW (cc := cL_width) (maxL := 4) (ret := (some .int)) (hh := [(0, 10, 13, 19)]) (by decide) rfl ?_
  intro p e s m args below meth c s₁ B hml hv
  obtain ⟨rfl, hsz, hP, hK, hD0, hF⟩ := hv
  have hx := B.exec
  have hb := B.bytes
  have hr := B.returns
  have hts := atoms_spec (ws := wbL_width) B.pre
  have hta : ∀ w ∈ wsALL, w.before _ s = true := fun w h => hts w (List.mem_cons_of_mem _ h)
  have hown : s.vm.findClass RL = some m.cls := findClass_of_methodNamed B.named
  have hlocks := B.notSynchronized
  have htab : c.exceptionTable.toList = [⟨0, 10, 13, 19⟩] := vx_table (x := yL_width) B (hts _ List.mem_cons_self)
  subst hsz
  have hD := hD0.self (sz := s.heap.size)
  generalize hAe : va_A [(h0, .inr (16, [v0, v1, v2, v3, v4, v5, v6, v7, v8, v9, v10, .int 20, v11, v12, v13, v14])), (h1, .inr (17, [v15, v16]))] s.heap.size = A at hD hF ⊢
  have hA : ∀ q : Nat, s.heap.size ≤ q → A q := fun q h => by rw [← hAe]; exact Or.inr h
  have hS : va_S A s.heap s.heap [] := va_S.rf
  have hP : va_P (dC, dI) vwCl [(h0, .inr (16, [v0, v1, v2, v3, v4, v5, v6, v7, v8, v9, v10, .int 20, v11, v12, v13, v14])), (h1, .inr (17, [v15, v16]))] s.heap := hP
  have hl := lv_entry ([.ref h0, .int x0, .ref h1]) (n := 4) (Nat.le_of_ble_eq_true rfl)
  rw [lg_entry_eq]
  generalize (lg_sl ([.ref h0, .int x0, .ref h1]) ++ List.replicate (4 - (lg_sl ([.ref h0, .int x0, .ref h1])).length) Slot.unset).toArray = ls at hl ⊢
  have hl : lv_has ls 4 [(0, .ref h0), (1, .int x0), (2, .ref h1)] := hl
  refine lv_aload_n hx hb dL_width_0 rfl (lv_at hl 2 rfl) ?_
  refine lv_aload_n hx hb dL_width_1 rfl (lv_at hl 0 rfl) ?_
  refine lv_iload_n hx hb dL_width_2 rfl (lv_at hl 1 rfl) ?_
  have hPc := hP.sub (ws' := [(h0, .inr (16, [v0, v1, v2, v3, v4, v5, v6, v7, v8, v9, v10, .int 20, v11, v12, v13, v14]))]) [0] rfl
  have hDc := hD.sub (ws' := [(h0, .inr (16, [v0, v1, v2, v3, v4, v5, v6, v7, v8, v9, v10, .int 20, v11, v12, v13, v14]))]) [0] (by decide) rfl
  have hKc := hK.sub (tys' := []) [] rfl
  have hFc := va_free (wc := [(h0, .inr (16, [v0, v1, v2, v3, v4, v5, v6, v7, v8, v9, v10, .int 20, v11, v12, v13, v14]))]) hD hS hA [0] rfl
  refine va_calli (va_runV (As := [.int x0]) (rest := [.ref h1]) ⟨hx, hb, hml, hown, hts⟩ (kX9_width_2 l dC dI g s.heap.size h0 x0 v0 v1 v2 v3 v4 v5 v6 v7 v8 v9 v10 v11 v12 v13 v14 ⟨by omega, by omega⟩) (cwV 1 hts (ns_gp (List.forall_mem_cons.mpr ⟨wm527, (List.forall_mem_cons.mpr ⟨wm528, (List.forall_mem_cons.mpr ⟨wm529, (List.forall_mem_cons.mpr ⟨wm2, (fun _ h9 => nomatch h9)⟩)⟩)⟩)⟩) wm526) rfl rfl rfl (by decide +kernel) ⟨Nat.le_of_ble_eq_true rfl, Nat.le_of_ble_eq_true rfl⟩) ⟨fun a U gg mk q => by obtain ⟨q0, q1, qP, qK, qD, qF⟩ := q; exact ⟨q0, q1, qP, va_K.moved (u := U) (U := U.calling gg mk a) (Vm.Alike.refl U.vm) qK, qD, ns_same qF⟩, va_recv hK hP (ci := 16) (q0 := 0) rfl rfl, fun U hU hW => ⟨rfl, by rw [hU], by rw [hU]; exact hPc, va_K.moved hW.alike hKc, hDc.weaken (fun _ _ _ _ => trivial), ns_call hF hS hFc hU hW⟩⟩ rfl rfl hl.1 rfl (lv_room (Nat.le_of_ble_eq_true rfl)) dL_width_3 ⟨Nat.le_of_ble_eq_true rfl, Nat.le_of_ble_eq_true rfl⟩) hS (fun q _ h => hFc q h) hFc (fun r9 u t H1 locs ht hvm hw hB hz1 hk1 hS => ?_)
  obtain rfl := hw.symm
  obtain ⟨hP1, hK1, hD1⟩ := hB
  rw [ht] at hP1
  have hK1 := va_K.moved hvm.symm hK1
  obtain ⟨hP, hD⟩ := va_join (wr := [(h1, .inr (17, [v15, v16]))]) (w1 := [(h0, .inr (16, [v0, v1, v2, v3, v4, v5, v6, v7, v8, v9, v10, .int x0, v11, v12, v13, v14]))]) hP hD [0] [1] rfl rfl (by decide) (by decide) hk1 hFc hP1 hD1
  have hK := (hK.sub (tys' := []) [] rfl).app hK1
  generalize H1 = H at hP hS ⊢
  have hP : va_P (dC, dI) vwCl [(h1, .inr (17, [v15, v16])), (h0, .inr (16, [v0, v1, v2, v3, v4, v5, v6, v7, v8, v9, v10, .int x0, v11, v12, v13, v14]))] H := hP
  have hD : va_D A [(h1, .inr (17, [v15, v16])), (h0, .inr (16, [v0, v1, v2, v3, v4, v5, v6, v7, v8, v9, v10, .int x0, v11, v12, v13, v14]))] := hD
  have hK : va_K (dC, dI) vwCl [] s := hK
  refine W.widen (k := 0) (n := 0) (Nat.le_of_ble_eq_true rfl) (Nat.le_of_ble_eq_true rfl) ?_
  refine lv_i2l (v := 20) hx hb dL_width_6 (by decide) ?_
  refine va_putN (D := (dC, dI)) (ci := 17) (v := .long 20) (ty := .long) (C := RX10) (T := TX10) (N := 2) hx hb hta naX10 tyX10 tyX10_ok nmX10 hown hK hP hD hS 0 rfl rfl 0 (by decide) (va_Nw.use rfl (ns_f7 hF)) (fun _ h9 => h9) rfl (by decide +kernel) rfl rfl (Nat.le_of_ble_eq_true rfl) dL_width_7 (fun H locs hP hD hS => ?_)
  have hP : va_P (dC, dI) vwCl [(h1, .inr (17, [.long 20, v16])), (h0, .inr (16, [v0, v1, v2, v3, v4, v5, v6, v7, v8, v9, v10, .int x0, v11, v12, v13, v14]))] H := hP
  have hD : va_D A [(h1, .inr (17, [.long 20, v16])), (h0, .inr (16, [v0, v1, v2, v3, v4, v5, v6, v7, v8, v9, v10, .int x0, v11, v12, v13, v14]))] := hD
  refine lv_goto (tgt := 16) hx hb dL_width_10 (by decide) ?_
  refine lv_iconst (v := 0) hx hb dL_width_16 (by decide) ?_
  have hP9 := hP.sub (ws' := [(h1, .inr (17, [.long 20, v16])), (h0, .inr (16, [v0, v1, v2, v3, v4, v5, v6, v7, v8, v9, v10, .int x0, v11, v12, v13, v14]))]) [0, 1] rfl
  have hD9 := hD.sub (ws' := [(h1, .inr (17, [.long 20, v16])), (h0, .inr (16, [v0, v1, v2, v3, v4, v5, v6, v7, v8, v9, v10, .int x0, v11, v12, v13, v14]))]) [0, 1] (by decide) rfl
  have hK9 := hK.sub (tys' := []) [] rfl
  refine W.widen (k := 0) (n := 0) (Nat.le_of_ble_eq_true rfl) (Nat.le_of_ble_eq_true rfl) ?_
  exact W.iret (v := 0) hx hb hr (fun t ht hW => ⟨⟨_, (), rfl, rfl, by rw [ht]; exact hP9, va_K.moved hW.alike hK9, hD9⟩, hS.F ht⟩) hS.2.2 dL_width_17
set_option maxHeartbeats 4000000 in
set_option maxRecDepth 100000 in
theorem kJ4_append_cf468_2 (l : Launch) (dC : Nat → ClassId) (dI : Nat → Nat → Nat) (g : Nat → Nat) (sz : Nat) (h0 : Nat) (x0 : Int32) (h1 : Nat) (v0 : Value) (cc0 : ClassId) (f0 : Nat → Int32) (hf0 : sb_Fit f0) (ex0 : (97 : Int) ≤ x0.toInt ∧ x0.toInt ≤ (122 : Int)) : Met l yJ4_append_cf468 wbJ4_append_cf468 ({ frames := 2, cells := 0, slots := 0, locals := 43 }) (va_Pc [.ref h0, .int x0] (fun U => U.heap.size = sz ∧ va_P (dC, dI) vwCl [(h0, .inr (1, [.ref h1, .int 0, v0, .int 1])), (h1, .inl (cc0, 16, .inl f0))] U.heap ∧ va_K (dC, dI) vwCl [(cc0, .byte)] U ∧ va_D (fun _ => True) [(h0, .inr (1, [.ref h1, .int 0, v0, .int 1])), (h1, .inl (cc0, 16, .inl f0))] ∧ ns_F g (va_A [(h0, .inr (1, [.ref h1, .int 0, v0, .int 1])), (h1, .inl (cc0, 16, .inl f0))] sz) U U.heap)) (va_Qr (fun _ : Unit => True) (fun _ r t => r = h0 ∧ va_P (dC, dI) vwCl [(h1, .inl (cc0, 16, .inl (upd (f0) 1 (vp_nar .byte x0.toInt8.toInt32)))), (h0, .inr (1, [.ref h1, .int 0, v0, .int 2]))] t.heap ∧ va_K (dC, dI) vwCl [(cc0, .byte)] t ∧ va_D (va_A [(h0, .inr (1, [.ref h1, .int 0, v0, .int 1])), (h1, .inl (cc0, 16, .inl f0))] sz) [(h1, .inl (cc0, 16, .inl (upd (f0) 1 (vp_nar .byte x0.toInt8.toInt32)))), (h0, .inr (1, [.ref h1, .int 0, v0, .int 2]))]) (va_A [(h0, .inr (1, [.ref h1, .int 0, v0, .int 1])), (h1, .inl (cc0, 16, .inl f0))] sz)) 0 0 (va_A [(h0, .inr (1, [.ref h1, .int 0, v0, .int 1])), (h1, .inl (cc0, 16, .inl f0))] sz) := by
  refine Met.ofW (cc := cJ4_append_cf468) (maxL := 2) (ret := (some (.object "java/lang/StringBuilder"))) (by decide) rfl ?_
  intro p e s m args below meth c s₁ B hml hv
  obtain ⟨rfl, hsz, hP, hK, hD0, hF⟩ := hv
  have hx := B.exec
  have hb := B.bytes
  have hr := B.returns
  have hts := atoms_spec (ws := wbJ4_append_cf468) B.pre
  have hta : ∀ w ∈ wsALL, w.before _ s = true := fun w h => hts w (List.mem_cons_of_mem _ h)
  have hown : s.vm.findClass RJ4 = some m.cls := findClass_of_methodNamed B.named
  have hlocks := B.notSynchronized
  subst hsz
  have hD := hD0.self (sz := s.heap.size)
  generalize hAe : va_A [(h0, .inr (1, [.ref h1, .int 0, v0, .int 1])), (h1, .inl (cc0, 16, .inl f0))] s.heap.size = A at hD hF ⊢
  have hA : ∀ q : Nat, s.heap.size ≤ q → A q := fun q h => by rw [← hAe]; exact Or.inr h
  have hS : va_S A s.heap s.heap [] := va_S.rf
  have hP : va_P (dC, dI) vwCl [(h0, .inr (1, [.ref h1, .int 0, v0, .int 1])), (h1, .inl (cc0, 16, .inl f0))] s.heap := hP
  have hl := lv_entry ([.ref h0, .int x0]) (n := 2) (Nat.le_of_ble_eq_true rfl)
  rw [lg_entry_eq]
  generalize (lg_sl ([.ref h0, .int x0]) ++ List.replicate (2 - (lg_sl ([.ref h0, .int x0])).length) Slot.unset).toArray = ls at hl ⊢
  have hl : lv_has ls 2 [(0, .ref h0), (1, .int x0)] := hl
  refine lv_aload_n hx hb dJ4_append_cf468_0 rfl (lv_at hl 0 rfl) ?_
  refine lv_iload_n hx hb dJ4_append_cf468_1 rfl (lv_at hl 1 rfl) ?_
  have hPc := hP.sub (ws' := [(h0, .inr (1, [.ref h1, .int 0, v0, .int 1])), (h1, .inl (cc0, 16, .inl f0))]) [0, 1] rfl
  have hDc := hD.sub (ws' := [(h0, .inr (1, [.ref h1, .int 0, v0, .int 1])), (h1, .inl (cc0, 16, .inl f0))]) [0, 1] (by decide) rfl
  have hKc := hK.sub (tys' := [(cc0, .byte)]) [0] rfl
  have hFc := va_free (wc := [(h0, .inr (1, [.ref h1, .int 0, v0, .int 1])), (h1, .inl (cc0, 16, .inl f0))]) hD hS hA [0, 1] rfl
  refine va_callr (va_runSU (hK.1 1 _ rfl).2 (As := [.int x0]) (rest := []) ⟨hx, hb, hml, hown, hts⟩ (kJ5_append_3fe6f_2 l dC dI g s.heap.size h0 x0 h1 v0 cc0 f0 hf0 ⟨by omega, by omega⟩) (va_cwSU 1 hts (ns_gp (List.forall_mem_cons.mpr ⟨wm306, (List.forall_mem_cons.mpr ⟨wm307, (List.forall_mem_cons.mpr ⟨wm308, (List.forall_mem_cons.mpr ⟨wm309, (List.forall_mem_cons.mpr ⟨wm144, (fun _ h9 => nomatch h9)⟩)⟩)⟩)⟩)⟩) wm305) rfl rfl rfl (by decide +kernel) ⟨Nat.le_of_ble_eq_true rfl, Nat.le_of_ble_eq_true rfl⟩) ⟨fun a U gg mk q => by obtain ⟨q0, q1, qP, qK, qD, qF⟩ := q; exact ⟨q0, q1, qP, va_K.moved (u := U) (U := U.calling gg mk a) (Vm.Alike.refl U.vm) qK, qD, ns_same qF⟩, va_recv hK hP (ci := 1) (q0 := 0) rfl rfl, fun U hU hW => ⟨rfl, by rw [hU], by rw [hU]; exact hPc, va_K.moved hW.alike hKc, hDc.weaken (fun _ _ _ _ => trivial), ns_call hF hS hFc hU hW⟩⟩ rfl rfl hl.1 rfl (lv_room (Nat.le_of_ble_eq_true rfl)) dJ4_append_cf468_2 ⟨Nat.le_of_ble_eq_true rfl, Nat.le_of_ble_eq_true rfl⟩) hS (fun q _ h => hFc q h) hFc (fun u r9 t H1 locs ht hvm hw hB hz1 hk1 hS => ?_)
  obtain ⟨hr9, hP1, hK1, hD1⟩ := hB
  obtain rfl := hr9.symm
  rw [ht] at hP1
  have hK1 := va_K.moved hvm.symm hK1
  obtain ⟨hP, hD⟩ := va_join (wr := []) (w1 := [(h1, .inl (cc0, 16, .inl (upd (f0) 1 (vp_nar .byte x0.toInt8.toInt32)))), (h0, .inr (1, [.ref h1, .int 0, v0, .int 2]))]) hP hD [0, 1] [] rfl rfl (by decide) (by decide) hk1 hFc hP1 hD1
  have hK := (hK.sub (tys' := []) [] rfl).app hK1
  generalize H1 = H at hP hS ⊢
  have hP : va_P (dC, dI) vwCl [(h1, .inl (cc0, 16, .inl (upd (f0) 1 (vp_nar .byte x0.toInt8.toInt32)))), (h0, .inr (1, [.ref h1, .int 0, v0, .int 2]))] H := hP
  have hD : va_D A [(h1, .inl (cc0, 16, .inl (upd (f0) 1 (vp_nar .byte x0.toInt8.toInt32)))), (h0, .inr (1, [.ref h1, .int 0, v0, .int 2]))] := hD
  have hK : va_K (dC, dI) vwCl [(cc0, .byte)] s := hK
  refine W.widen (k := 0) (n := 0) (Nat.le_of_ble_eq_true rfl) (Nat.le_of_ble_eq_true rfl) ?_
  refine lv_pop hx hb dJ4_append_cf468_5 rfl ?_
  refine lv_aload_n hx hb dJ4_append_cf468_6 rfl (lv_at hl 0 rfl) ?_
  have hP9 := hP.sub (ws' := [(h1, .inl (cc0, 16, .inl (upd (f0) 1 (vp_nar .byte x0.toInt8.toInt32)))), (h0, .inr (1, [.ref h1, .int 0, v0, .int 2]))]) [0, 1] rfl
  have hD9 := hD.sub (ws' := [(h1, .inl (cc0, 16, .inl (upd (f0) 1 (vp_nar .byte x0.toInt8.toInt32)))), (h0, .inr (1, [.ref h1, .int 0, v0, .int 2]))]) [0, 1] (by decide) rfl
  have hK9 := hK.sub (tys' := [(cc0, .byte)]) [0] rfl
  refine W.widen (k := 0) (n := 0) (Nat.le_of_ble_eq_true rfl) (Nat.le_of_ble_eq_true rfl) ?_
  exact W.aret (v := .ref h0) hx hb hr (by first | exact Or.inl ⟨_, rfl⟩ | exact Or.inr ⟨_, rfl⟩) (Or.inr ⟨_, rfl⟩) (fun t ht hW => ⟨⟨(), _, rfl, trivial, rfl, by rw [ht]; exact hP9, va_K.moved hW.alike hK9, hD9⟩, hS.F ht⟩) hS.2.2 dJ4_append_cf468_7
set_option maxHeartbeats 4000000 in
set_option maxRecDepth 100000 in
theorem kJ7_copyOfRange_39247_2 (l : Launch) (dC : Nat → ClassId) (dI : Nat → Nat → Nat) (g : Nat → Nat) (sz : Nat) (h0 : Nat) (cc0 : ClassId) (f0 : Nat → Int32) (hf0 : sb_Fit f0) : Met l yJ7_copyOfRange_39247 wbJ7_copyOfRange_39247 ({ frames := 2, cells := 1, slots := 2, locals := 64 }) (va_Pc [.ref h0, .int 0, .int 2] (fun U => U.heap.size = sz ∧ va_P (dC, dI) vwCl [(h0, .inl (cc0, 16, .inl f0))] U.heap ∧ va_K (dC, dI) vwCl [(cc0, .byte)] U ∧ va_D (fun _ => True) [(h0, .inl (cc0, 16, .inl f0))] ∧ ns_F g (va_A [(h0, .inl (cc0, 16, .inl f0))] sz) U U.heap)) (va_Qr (fun _ : Unit => True) (fun _ r t => ∃ k0 : Nat, ∃ kc1 : ClassId, r = k0 ∧ va_P (dC, dI) vwCl [(h0, .inl (cc0, 16, .inl f0)), (k0, .inl (kc1, 2, .inl (va_cpy (f0) (fun _ => 0) 0 0 2)))] t.heap ∧ va_K (dC, dI) vwCl [(cc0, .byte), (kc1, .byte)] t ∧ va_D (va_A [(h0, .inl (cc0, 16, .inl f0))] sz) [(h0, .inl (cc0, 16, .inl f0)), (k0, .inl (kc1, 2, .inl (va_cpy (f0) (fun _ => 0) 0 0 2)))]) (va_A [(h0, .inl (cc0, 16, .inl f0))] sz)) 1 2 (va_A [(h0, .inl (cc0, 16, .inl f0))] sz) := by
  refine Met.ofW (cc := cJ7_copyOfRange_39247) (maxL := 3) (ret := (some (.array .byte))) (by decide) rfl ?_
  intro p e s m args below meth c s₁ B hml hv
  obtain ⟨rfl, hsz, hP, hK, hD0, hF⟩ := hv
  have hx := B.exec
  have hb := B.bytes
  have hr := B.returns
  have hts := atoms_spec (ws := wbJ7_copyOfRange_39247) B.pre
  have hta : ∀ w ∈ wsALL, w.before _ s = true := fun w h => hts w (List.mem_cons_of_mem _ h)
  have hown : s.vm.findClass RJ7 = some m.cls := findClass_of_methodNamed B.named
  have hlocks := B.notSynchronized
  subst hsz
  have hD := hD0.self (sz := s.heap.size)
  generalize hAe : va_A [(h0, .inl (cc0, 16, .inl f0))] s.heap.size = A at hD hF ⊢
  have hA : ∀ q : Nat, s.heap.size ≤ q → A q := fun q h => by rw [← hAe]; exact Or.inr h
  have hS : va_S A s.heap s.heap [] := va_S.rf
  have hP : va_P (dC, dI) vwCl [(h0, .inl (cc0, 16, .inl f0))] s.heap := hP
  have hl := lv_entry ([.ref h0, .int 0, .int 2]) (n := 3) (Nat.le_of_ble_eq_true rfl)
  rw [lg_entry_eq]
  generalize (lg_sl ([.ref h0, .int 0, .int 2]) ++ List.replicate (3 - (lg_sl ([.ref h0, .int 0, .int 2])).length) Slot.unset).toArray = ls at hl ⊢
  have hl : lv_has ls 3 [(0, .ref h0), (1, .int 0), (2, .int 2)] := hl
  refine lv_iload_n hx hb dJ7_copyOfRange_39247_0 rfl (lv_at hl 1 rfl) ?_
  refine lv_if_ne (tgt := 10) hx hb dJ7_copyOfRange_39247_1 (by decide) (fun c1 => absurd (by decide) c1) (fun c1 => ?_)
  refine lv_iload_n hx hb dJ7_copyOfRange_39247_4 rfl (lv_at hl 2 rfl) ?_
  refine lv_aload_n hx hb dJ7_copyOfRange_39247_5 rfl (lv_at hl 0 rfl) ?_
  refine va_alen (v := 16) hx hb hK hP 0 0 rfl rfl (show Int32.ofNat 16 = 16 by decide) dJ7_copyOfRange_39247_6 ?_
  refine lv_icmp_eq (tgt := 17) hx hb dJ7_copyOfRange_39247_7 (by decide) (fun c2 => absurd c2 (by decide)) (fun c2 => ?_)
  refine lv_aload_n hx hb dJ7_copyOfRange_39247_10 rfl (lv_at hl 0 rfl) ?_
  refine lv_iload_n hx hb dJ7_copyOfRange_39247_11 rfl (lv_at hl 1 rfl) ?_
  refine lv_iload_n hx hb dJ7_copyOfRange_39247_12 rfl (lv_at hl 2 rfl) ?_
  have hPc := hP.sub (ws' := [(h0, .inl (cc0, 16, .inl f0))]) [0] rfl
  have hDc := hD.sub (ws' := [(h0, .inl (cc0, 16, .inl f0))]) [0] (by decide) rfl
  have hKc := hK.sub (tys' := [(cc0, .byte)]) [0] rfl
  have hFc := va_free (wc := [(h0, .inl (cc0, 16, .inl f0))]) hD hS hA [0] rfl
  refine va_callr (va_runS (As := [.ref h0, .int 0, .int 2]) (rest := []) ⟨hx, hb, hml, hown, hts⟩ (kJ7_copyOfRangeByte_39247_2 l dC dI g s.heap.size h0 cc0 f0 hf0 ) (va_cwS 3 hts (ns_gp (List.forall_mem_cons.mpr ⟨wm338, (List.forall_mem_cons.mpr ⟨wm339, (List.forall_mem_cons.mpr ⟨wm334, (fun _ h9 => nomatch h9)⟩)⟩)⟩) wm337) rfl rfl rfl (by decide +kernel) ⟨Nat.le_of_ble_eq_true rfl, Nat.le_of_ble_eq_true rfl⟩) ⟨fun a U gg mk q => by obtain ⟨q0, q1, qP, qK, qD, qF⟩ := q; exact ⟨q0, q1, qP, va_K.moved (u := U) (U := U.calling gg mk a) (Vm.Alike.refl U.vm) qK, qD, ns_same qF⟩, fun U hU hW => ⟨rfl, by rw [hU], by rw [hU]; exact hPc, va_K.moved hW.alike hKc, hDc.weaken (fun _ _ _ _ => trivial), ns_call hF hS hFc hU hW⟩⟩ rfl rfl hl.1 rfl (lv_room (Nat.le_of_ble_eq_true rfl)) dJ7_copyOfRange_39247_13 ⟨Nat.le_of_ble_eq_true rfl, Nat.le_of_ble_eq_true rfl⟩) hS (fun q _ h => hFc q h) hFc (fun u r9 t H1 locs ht hvm hw hB hz1 hk1 hS => ?_)
  obtain ⟨q3, cy4, hr9, hP1, hK1, hD1⟩ := hB
  obtain rfl := hr9.symm
  rw [ht] at hP1
  have hK1 := va_K.moved hvm.symm hK1
  obtain ⟨hP, hD⟩ := va_join (wr := []) (w1 := [(h0, .inl (cc0, 16, .inl f0)), (q3, .inl (cy4, 2, .inl (va_cpy (f0) (fun _ => 0) 0 0 2)))]) hP hD [0] [] rfl rfl (by decide) (by decide) hk1 hFc hP1 hD1
  have hK := (hK.sub (tys' := []) [] rfl).app hK1
  generalize H1 = H at hP hS ⊢
  have hP : va_P (dC, dI) vwCl [(h0, .inl (cc0, 16, .inl f0)), (q3, .inl (cy4, 2, .inl (va_cpy (f0) (fun _ => 0) 0 0 2)))] H := hP
  have hD : va_D A [(h0, .inl (cc0, 16, .inl f0)), (q3, .inl (cy4, 2, .inl (va_cpy (f0) (fun _ => 0) 0 0 2)))] := hD
  have hK : va_K (dC, dI) vwCl [(cc0, .byte), (cy4, .byte)] s := hK
  refine W.widen (k := 1) (n := 2) (Nat.le_of_ble_eq_true rfl) (Nat.le_of_ble_eq_true rfl) ?_
  have hP9 := hP.sub (ws' := [(h0, .inl (cc0, 16, .inl f0)), (q3, .inl (cy4, 2, .inl (va_cpy (f0) (fun _ => 0) 0 0 2)))]) [0, 1] rfl
  have hD9 := hD.sub (ws' := [(h0, .inl (cc0, 16, .inl f0)), (q3, .inl (cy4, 2, .inl (va_cpy (f0) (fun _ => 0) 0 0 2)))]) [0, 1] (by decide) rfl
  have hK9 := hK.sub (tys' := [(cc0, .byte), (cy4, .byte)]) [0, 1] rfl
  refine W.widen (k := 1) (n := 2) (Nat.le_of_ble_eq_true rfl) (Nat.le_of_ble_eq_true rfl) ?_
  exact W.aret (v := .ref q3) hx hb hr (by first | exact Or.inl ⟨_, rfl⟩ | exact Or.inr ⟨_, rfl⟩) (Or.inr ⟨_, rfl⟩) (fun t ht hW => ⟨⟨(), _, rfl, trivial, q3, cy4, rfl, by rw [ht]; exact hP9, va_K.moved hW.alike hK9, hD9⟩, hS.F ht⟩) hS.2.2 dJ7_copyOfRange_39247_16
set_option maxHeartbeats 4000000 in
set_option maxRecDepth 100000 in
theorem kJ4_setLength_d00df (l : Launch) (dC : Nat → ClassId) (dI : Nat → Nat → Nat) (g : Nat → Nat) (sz : Nat) (h0 : Nat) (h1 : Nat) (v0 : Value) (cc0 : ClassId) (f0 : Nat → Int32) (hf0 : sb_Fit f0) : Met l yJ4_setLength_d00df wbJ4_setLength_d00df ({ frames := 2, cells := 0, slots := 0, locals := 43 }) (va_Pc [.ref h0, .int 0] (fun U => U.heap.size = sz ∧ va_P (dC, dI) vwCl [(h0, .inr (1, [.ref h1, .int 0, v0, .int 0])), (h1, .inl (cc0, 16, .inl f0))] U.heap ∧ va_K (dC, dI) vwCl [(cc0, .byte)] U ∧ va_D (fun _ => True) [(h0, .inr (1, [.ref h1, .int 0, v0, .int 0])), (h1, .inl (cc0, 16, .inl f0))] ∧ ns_F g (va_A [(h0, .inr (1, [.ref h1, .int 0, v0, .int 0])), (h1, .inl (cc0, 16, .inl f0))] sz) U U.heap)) (va_Qv (fun _ : Unit => True) (fun _ t => va_P (dC, dI) vwCl [(h0, .inr (1, [.ref h1, .int 0, v0, .int 0])), (h1, .inl (cc0, 16, .inl f0))] t.heap ∧ va_K (dC, dI) vwCl [(cc0, .byte)] t ∧ va_D (va_A [(h0, .inr (1, [.ref h1, .int 0, v0, .int 0])), (h1, .inl (cc0, 16, .inl f0))] sz) [(h0, .inr (1, [.ref h1, .int 0, v0, .int 0])), (h1, .inl (cc0, 16, .inl f0))]) (va_A [(h0, .inr (1, [.ref h1, .int 0, v0, .int 0])), (h1, .inl (cc0, 16, .inl f0))] sz)) 0 0 (va_A [(h0, .inr (1, [.ref h1, .int 0, v0, .int 0])), (h1, .inl (cc0, 16, .inl f0))] sz) := by
  refine Met.ofW (cc := cJ4_setLength_d00df) (maxL := 2) (ret := none) (by decide) rfl ?_
  intro p e s m args below meth c s₁ B hml hv
  obtain ⟨rfl, hsz, hP, hK, hD0, hF⟩ := hv
  have hx := B.exec
  have hb := B.bytes
  have hr := B.returns
  have hts := atoms_spec (ws := wbJ4_setLength_d00df) B.pre
  have hta : ∀ w ∈ wsALL, w.before _ s = true := fun w h => hts w (List.mem_cons_of_mem _ h)
  have hown : s.vm.findClass RJ4 = some m.cls := findClass_of_methodNamed B.named
  have hlocks := B.notSynchronized
  subst hsz
  have hD := hD0.self (sz := s.heap.size)
  generalize hAe : va_A [(h0, .inr (1, [.ref h1, .int 0, v0, .int 0])), (h1, .inl (cc0, 16, .inl f0))] s.heap.size = A at hD hF ⊢
  have hA : ∀ q : Nat, s.heap.size ≤ q → A q := fun q h => by rw [← hAe]; exact Or.inr h
  have hS : va_S A s.heap s.heap [] := va_S.rf
  have hP : va_P (dC, dI) vwCl [(h0, .inr (1, [.ref h1, .int 0, v0, .int 0])), (h1, .inl (cc0, 16, .inl f0))] s.heap := hP
  have hl := lv_entry ([.ref h0, .int 0]) (n := 2) (Nat.le_of_ble_eq_true rfl)
  rw [lg_entry_eq]
  generalize (lg_sl ([.ref h0, .int 0]) ++ List.replicate (2 - (lg_sl ([.ref h0, .int 0])).length) Slot.unset).toArray = ls at hl ⊢
  have hl : lv_has ls 2 [(0, .ref h0), (1, .int 0)] := hl
  refine lv_aload_n hx hb dJ4_setLength_d00df_0 rfl (lv_at hl 0 rfl) ?_
  refine lv_iload_n hx hb dJ4_setLength_d00df_1 rfl (lv_at hl 1 rfl) ?_
  have hPc := hP.sub (ws' := [(h0, .inr (1, [.ref h1, .int 0, v0, .int 0])), (h1, .inl (cc0, 16, .inl f0))]) [0, 1] rfl
  have hDc := hD.sub (ws' := [(h0, .inr (1, [.ref h1, .int 0, v0, .int 0])), (h1, .inl (cc0, 16, .inl f0))]) [0, 1] (by decide) rfl
  have hKc := hK.sub (tys' := [(cc0, .byte)]) [0] rfl
  have hFc := va_free (wc := [(h0, .inr (1, [.ref h1, .int 0, v0, .int 0])), (h1, .inl (cc0, 16, .inl f0))]) hD hS hA [0, 1] rfl
  refine va_callv (va_runSU (hK.1 1 _ rfl).2 (As := [.int 0]) (rest := []) ⟨hx, hb, hml, hown, hts⟩ (kJ5_setLength_d00df l dC dI g s.heap.size h0 h1 v0 cc0 f0 hf0 ) (va_cwSU 1 hts (ns_gp (List.forall_mem_cons.mpr ⟨wm897, (List.forall_mem_cons.mpr ⟨wm898, (List.forall_mem_cons.mpr ⟨wm308, (List.forall_mem_cons.mpr ⟨wm899, (List.forall_mem_cons.mpr ⟨wm144, (fun _ h9 => nomatch h9)⟩)⟩)⟩)⟩)⟩) wm896) rfl rfl rfl (by decide +kernel) ⟨Nat.le_of_ble_eq_true rfl, Nat.le_of_ble_eq_true rfl⟩) ⟨fun a U gg mk q => by obtain ⟨q0, q1, qP, qK, qD, qF⟩ := q; exact ⟨q0, q1, qP, va_K.moved (u := U) (U := U.calling gg mk a) (Vm.Alike.refl U.vm) qK, qD, ns_same qF⟩, va_recv hK hP (ci := 1) (q0 := 0) rfl rfl, fun U hU hW => ⟨rfl, by rw [hU], by rw [hU]; exact hPc, va_K.moved hW.alike hKc, hDc.weaken (fun _ _ _ _ => trivial), ns_call hF hS hFc hU hW⟩⟩ rfl rfl hl.1 rfl (lv_room (Nat.le_of_ble_eq_true rfl)) dJ4_setLength_d00df_2 ⟨Nat.le_of_ble_eq_true rfl, Nat.le_of_ble_eq_true rfl⟩) hS (fun q _ h => hFc q h) hFc (fun u t H1 locs ht hvm hw hB hz1 hk1 hS => ?_)
  obtain ⟨hP1, hK1, hD1⟩ := hB
  rw [ht] at hP1
  have hK1 := va_K.moved hvm.symm hK1
  obtain ⟨hP, hD⟩ := va_join (wr := []) (w1 := [(h0, .inr (1, [.ref h1, .int 0, v0, .int 0])), (h1, .inl (cc0, 16, .inl f0))]) hP hD [0, 1] [] rfl rfl (by decide) (by decide) hk1 hFc hP1 hD1
  have hK := (hK.sub (tys' := []) [] rfl).app hK1
  generalize H1 = H at hP hS ⊢
  have hP : va_P (dC, dI) vwCl [(h0, .inr (1, [.ref h1, .int 0, v0, .int 0])), (h1, .inl (cc0, 16, .inl f0))] H := hP
  have hD : va_D A [(h0, .inr (1, [.ref h1, .int 0, v0, .int 0])), (h1, .inl (cc0, 16, .inl f0))] := hD
  have hK : va_K (dC, dI) vwCl [(cc0, .byte)] s := hK
  refine W.widen (k := 0) (n := 0) (Nat.le_of_ble_eq_true rfl) (Nat.le_of_ble_eq_true rfl) ?_
  have hP9 := hP.sub (ws' := [(h0, .inr (1, [.ref h1, .int 0, v0, .int 0])), (h1, .inl (cc0, 16, .inl f0))]) [0, 1] rfl
  have hD9 := hD.sub (ws' := [(h0, .inr (1, [.ref h1, .int 0, v0, .int 0])), (h1, .inl (cc0, 16, .inl f0))]) [0, 1] (by decide) rfl
  have hK9 := hK.sub (tys' := [(cc0, .byte)]) [0] rfl
  refine W.widen (k := 0) (n := 0) (Nat.le_of_ble_eq_true rfl) (Nat.le_of_ble_eq_true rfl) ?_
  exact W.vret hx hb hr (fun t ht hW => ⟨⟨(), rfl, trivial, by rw [ht]; exact hP9, va_K.moved hW.alike hK9, hD9⟩, hS.F ht⟩) hS.2.2 dJ4_setLength_d00df_5

set_option maxHeartbeats 4000000 in
set_option maxRecDepth 100000 in
theorem kX16_say_6 (l : Launch) (dC : Nat → ClassId) (dI : Nat → Nat → Nat) (g : Nat → Nat) (sz : Nat) (h0 : Nat) (x0 : Int32) (x1 : Int32) (x2 : Int32) (x3 : Int32) (x4 : Int32) (x5 : Int32) (v0 : Value) (v1 : Value) (v2 : Value) (v3 : Value) (v4 : Value) (v5 : Value) (v6 : Value) (v7 : Value) (v8 : Value) (ex0 : (-1 : Int) ≤ x0.toInt ∧ x0.toInt ≤ (21 : Int)) (ex1 : (-1 : Int) ≤ x1.toInt ∧ x1.toInt ≤ (21 : Int)) (ex2 : (-1 : Int) ≤ x2.toInt ∧ x2.toInt ≤ (21 : Int)) (ex3 : (-1 : Int) ≤ x3.toInt ∧ x3.toInt ≤ (21 : Int)) (ex4 : (-1 : Int) ≤ x4.toInt ∧ x4.toInt ≤ (21 : Int)) (ex5 : (-2147483648 : Int) ≤ x5.toInt ∧ x5.toInt ≤ (-2 : Int)) : Met l yX16_say wbX16_say ({ frames := 2, cells := 1, slots := 6, locals := 44 }) (va_Pc [.ref h0, .int x0, .int x1, .int x2, .int x3, .int x4, .int x5] (fun U => U.heap.size = sz ∧ va_P (dC, dI) vwCl [(h0, .inr (23, [v0, v1, v2, v3, v4, v5, v6, v7, v8]))] U.heap ∧ va_K (dC, dI) vwCl [] U ∧ va_D (fun _ => True) [(h0, .inr (23, [v0, v1, v2, v3, v4, v5, v6, v7, v8]))] ∧ ns_F g (va_A [(h0, .inr (23, [v0, v1, v2, v3, v4, v5, v6, v7, v8]))] sz) U U.heap)) (va_Qi (fun (r : Int32) (_ : Unit) => r = 0) (fun _ t => va_P (dC, dI) vwCl [(h0, .inr (23, [.int 1, v1, v2, v3, v4, v5, v6, v7, v8]))] t.heap ∧ va_K (dC, dI) vwCl [] t ∧ va_D (va_A [(h0, .inr (23, [v0, v1, v2, v3, v4, v5, v6, v7, v8]))] sz) [(h0, .inr (23, [.int 1, v1, v2, v3, v4, v5, v6, v7, v8]))]) (va_A [(h0, .inr (23, [v0, v1, v2, v3, v4, v5, v6, v7, v8]))] sz)) 1 6 (va_A [(h0, .inr (23, [v0, v1, v2, v3, v4, v5, v6, v7, v8]))] sz) := by
  refine Met.ofW (cc := cX16_say) (maxL := 14) (ret := (some .int)) (by decide) rfl ?_
  intro p e s m args below meth c s₁ B hml hv
  obtain ⟨rfl, hsz, hP, hK, hD0, hF⟩ := hv
  have hx := B.exec
  have hb := B.bytes
  have hr := B.returns
  have hts := atoms_spec (ws := wbX16_say) B.pre
  have hta : ∀ w ∈ wsALL, w.before _ s = true := fun w h => hts w (List.mem_cons_of_mem _ h)
  have hown : s.vm.findClass RX16 = some m.cls := findClass_of_methodNamed B.named
  have hlocks := B.notSynchronized
  subst hsz
  have hD := hD0.self (sz := s.heap.size)
  generalize hAe : va_A [(h0, .inr (23, [v0, v1, v2, v3, v4, v5, v6, v7, v8]))] s.heap.size = A at hD hF ⊢
  have hA : ∀ q : Nat, s.heap.size ≤ q → A q := fun q h => by rw [← hAe]; exact Or.inr h
  have hS : va_S A s.heap s.heap [] := va_S.rf
  have hP : va_P (dC, dI) vwCl [(h0, .inr (23, [v0, v1, v2, v3, v4, v5, v6, v7, v8]))] s.heap := hP
  have hl := lv_entry ([.ref h0, .int x0, .int x1, .int x2, .int x3, .int x4, .int x5]) (n := 14) (Nat.le_of_ble_eq_true rfl)
  rw [lg_entry_eq]
  generalize (lg_sl ([.ref h0, .int x0, .int x1, .int x2, .int x3, .int x4, .int x5]) ++ List.replicate (14 - (lg_sl ([.ref h0, .int x0, .int x1, .int x2, .int x3, .int x4, .int x5])).length) Slot.unset).toArray = ls at hl ⊢
  have hl : lv_has ls 14 [(0, .ref h0), (1, .int x0), (2, .int x1), (3, .int x2), (4, .int x3), (5, .int x4), (6, .int x5)] := hl
  refine lv_bipush (v := 6) hx hb dX16_say_0 (by decide) ?_
  refine va_newa (atype := .int) hx hb (hta _ wm15) rfl hK hP hD hS hA (N' := 6) (a0 := (6, .inl (fun _ => 0))) (fun _ => rfl) (by decide) (by decide) (Nat.le_of_ble_eq_true rfl) (Nat.le_of_ble_eq_true rfl) (Nat.le_of_ble_eq_true rfl) dX16_say_2 (fun q1 cyq1 H hK hP hD hS => ?_)
  have hP : va_P (dC, dI) vwCl [(h0, .inr (23, [v0, v1, v2, v3, v4, v5, v6, v7, v8])), (q1, .inl (cyq1, 6, .inl (fun _ => 0)))] H := hP
  have hD : va_D A [(h0, .inr (23, [v0, v1, v2, v3, v4, v5, v6, v7, v8])), (q1, .inl (cyq1, 6, .inl (fun _ => 0)))] := hD
  have hK : va_K (dC, dI) vwCl [(cyq1, .int)] s := hK
  refine W.widen (k := 1) (n := 6) (Nat.le_of_ble_eq_true rfl) (Nat.le_of_ble_eq_true rfl) ?_
  refine lv_dup hx hb dX16_say_4 rfl ?_
  refine lv_iconst (v := 0) hx hb dX16_say_5 (by decide) ?_
  refine lv_iload_n hx hb dX16_say_6 rfl (lv_at hl 1 rfl) ?_
  refine va_iast hx hb hK hP hD hS 1 0 rfl rfl (vp_in_nI (n := 0) (by decide) (by decide)) dX16_say_7 (fun H locs hP hD hS => ?_)
  have hP : va_P (dC, dI) vwCl [(h0, .inr (23, [v0, v1, v2, v3, v4, v5, v6, v7, v8])), (q1, .inl (cyq1, 6, .inl (upd (fun _ => 0) 0 x0)))] H := hP
  have hD : va_D A [(h0, .inr (23, [v0, v1, v2, v3, v4, v5, v6, v7, v8])), (q1, .inl (cyq1, 6, .inl (upd (fun _ => 0) 0 x0)))] := hD
  refine lv_dup hx hb dX16_say_8 rfl ?_
  refine lv_iconst (v := 1) hx hb dX16_say_9 (by decide) ?_
  refine lv_iload_n hx hb dX16_say_10 rfl (lv_at hl 2 rfl) ?_
  refine va_iast hx hb hK hP hD hS 1 0 rfl rfl (vp_in_nI (n := 1) (by decide) (by decide)) dX16_say_11 (fun H locs hP hD hS => ?_)
  have hP : va_P (dC, dI) vwCl [(h0, .inr (23, [v0, v1, v2, v3, v4, v5, v6, v7, v8])), (q1, .inl (cyq1, 6, .inl (upd (upd (fun _ => 0) 0 x0) 1 x1)))] H := hP
  have hD : va_D A [(h0, .inr (23, [v0, v1, v2, v3, v4, v5, v6, v7, v8])), (q1, .inl (cyq1, 6, .inl (upd (upd (fun _ => 0) 0 x0) 1 x1)))] := hD
  refine lv_dup hx hb dX16_say_12 rfl ?_
  refine lv_iconst (v := 2) hx hb dX16_say_13 (by decide) ?_
  refine lv_iload_n hx hb dX16_say_14 rfl (lv_at hl 3 rfl) ?_
  refine va_iast hx hb hK hP hD hS 1 0 rfl rfl (vp_in_nI (n := 2) (by decide) (by decide)) dX16_say_15 (fun H locs hP hD hS => ?_)
  have hP : va_P (dC, dI) vwCl [(h0, .inr (23, [v0, v1, v2, v3, v4, v5, v6, v7, v8])), (q1, .inl (cyq1, 6, .inl (upd (upd (upd (fun _ => 0) 0 x0) 1 x1) 2 x2)))] H := hP
  have hD : va_D A [(h0, .inr (23, [v0, v1, v2, v3, v4, v5, v6, v7, v8])), (q1, .inl (cyq1, 6, .inl (upd (upd (upd (fun _ => 0) 0 x0) 1 x1) 2 x2)))] := hD
  refine lv_dup hx hb dX16_say_16 rfl ?_
  refine lv_iconst (v := 3) hx hb dX16_say_17 (by decide) ?_
  refine lv_iload hx hb dX16_say_18 (lv_at hl 4 rfl) ?_
  refine va_iast hx hb hK hP hD hS 1 0 rfl rfl (vp_in_nI (n := 3) (by decide) (by decide)) dX16_say_20 (fun H locs hP hD hS => ?_)
  have hP : va_P (dC, dI) vwCl [(h0, .inr (23, [v0, v1, v2, v3, v4, v5, v6, v7, v8])), (q1, .inl (cyq1, 6, .inl (upd (upd (upd (upd (fun _ => 0) 0 x0) 1 x1) 2 x2) 3 x3)))] H := hP
  have hD : va_D A [(h0, .inr (23, [v0, v1, v2, v3, v4, v5, v6, v7, v8])), (q1, .inl (cyq1, 6, .inl (upd (upd (upd (upd (fun _ => 0) 0 x0) 1 x1) 2 x2) 3 x3)))] := hD
  refine lv_dup hx hb dX16_say_21 rfl ?_
  refine lv_iconst (v := 4) hx hb dX16_say_22 (by decide) ?_
  refine lv_iload hx hb dX16_say_23 (lv_at hl 5 rfl) ?_
  refine va_iast hx hb hK hP hD hS 1 0 rfl rfl (vp_in_nI (n := 4) (by decide) (by decide)) dX16_say_25 (fun H locs hP hD hS => ?_)
  have hP : va_P (dC, dI) vwCl [(h0, .inr (23, [v0, v1, v2, v3, v4, v5, v6, v7, v8])), (q1, .inl (cyq1, 6, .inl (upd (upd (upd (upd (upd (fun _ => 0) 0 x0) 1 x1) 2 x2) 3 x3) 4 x4)))] H := hP
  have hD : va_D A [(h0, .inr (23, [v0, v1, v2, v3, v4, v5, v6, v7, v8])), (q1, .inl (cyq1, 6, .inl (upd (upd (upd (upd (upd (fun _ => 0) 0 x0) 1 x1) 2 x2) 3 x3) 4 x4)))] := hD
  refine lv_dup hx hb dX16_say_26 rfl ?_
  refine lv_iconst (v := 5) hx hb dX16_say_27 (by decide) ?_
  refine lv_iload hx hb dX16_say_28 (lv_at hl 6 rfl) ?_
  refine va_iast hx hb hK hP hD hS 1 0 rfl rfl (vp_in_nI (n := 5) (by decide) (by decide)) dX16_say_30 (fun H locs hP hD hS => ?_)
  have hP : va_P (dC, dI) vwCl [(h0, .inr (23, [v0, v1, v2, v3, v4, v5, v6, v7, v8])), (q1, .inl (cyq1, 6, .inl (upd (upd (upd (upd (upd (upd (fun _ => 0) 0 x0) 1 x1) 2 x2) 3 x3) 4 x4) 5 x5)))] H := hP
  have hD : va_D A [(h0, .inr (23, [v0, v1, v2, v3, v4, v5, v6, v7, v8])), (q1, .inl (cyq1, 6, .inl (upd (upd (upd (upd (upd (upd (fun _ => 0) 0 x0) 1 x1) 2 x2) 3 x3) 4 x4) 5 x5)))] := hD
  refine lv_astore (lv' := [(7, .ref q1), (0, .ref h0), (1, .int x0), (2, .int x1), (3, .int x2), (4, .int x3), (5, .int x4), (6, .int x5)]) hx hb dX16_say_31 hl (by decide) rfl (fun ls hl => ?_)
  refine lv_iconst (v := 0) hx hb dX16_say_33 (by decide) ?_
  refine lv_istore (lv' := [(8, .int 0), (7, .ref q1), (0, .ref h0), (1, .int x0), (2, .int x1), (3, .int x2), (4, .int x3), (5, .int x4), (6, .int x5)]) hx hb dX16_say_34 hl (by decide) rfl (fun ls hl => ?_)
  refine lv_aload hx hb dX16_say_36 (lv_at hl 1 rfl) ?_
  refine lv_astore (lv' := [(9, .ref q1), (8, .int 0), (7, .ref q1), (0, .ref h0), (1, .int x0), (2, .int x1), (3, .int x2), (4, .int x3), (5, .int x4), (6, .int x5)]) hx hb dX16_say_38 hl (by decide) rfl (fun ls hl => ?_)
  refine lv_aload hx hb dX16_say_40 (lv_at hl 0 rfl) ?_
  refine va_alen (v := 6) hx hb hK hP 1 0 rfl rfl (show Int32.ofNat 6 = 6 by decide) dX16_say_42 ?_
  refine lv_istore (lv' := [(10, .int 6), (9, .ref q1), (8, .int 0), (7, .ref q1), (0, .ref h0), (1, .int x0), (2, .int x1), (3, .int x2), (4, .int x3), (5, .int x4), (6, .int x5)]) hx hb dX16_say_43 hl (by decide) rfl (fun ls hl => ?_)
  refine lv_iconst (v := 0) hx hb dX16_say_45 (by decide) ?_
  refine lv_istore (lv' := [(11, .int 0), (10, .int 6), (9, .ref q1), (8, .int 0), (7, .ref q1), (0, .ref h0), (1, .int x0), (2, .int x1), (3, .int x2), (4, .int x3), (5, .int x4), (6, .int x5)]) hx hb dX16_say_46 hl (by decide) rfl (fun ls hl => ?_)
  refine lv_iload hx hb dX16_say_48 (lv_at hl 0 rfl) ?_
  refine lv_iload hx hb dX16_say_50 (lv_at hl 1 rfl) ?_
  refine lv_icmp_ge (tgt := 89) hx hb dX16_say_52 (by decide) (fun c2 => absurd c2 (by decide)) (fun c2 => ?_)
  refine lv_aload hx hb dX16_say_55 (lv_at hl 2 rfl) ?_
  refine lv_iload hx hb dX16_say_57 (lv_at hl 0 rfl) ?_
  refine va_iald hx hb hK hP 1 0 rfl rfl (vp_in_nI (n := 0) (by decide) (by decide)) dX16_say_59 ?_
  refine lv_topi (fun y3 ey3 => ?_)
  obtain rfl : x0 = y3 := ey3.symm
  refine lv_istore (lv' := [(12, .int x0), (11, .int 0), (10, .int 6), (9, .ref q1), (8, .int 0), (7, .ref q1), (0, .ref h0), (1, .int x0), (2, .int x1), (3, .int x2), (4, .int x3), (5, .int x4), (6, .int x5)]) hx hb dX16_say_60 hl (by decide) rfl (fun ls hl => ?_)
  refine lv_iload hx hb dX16_say_62 (lv_at hl 4 rfl) ?_
  refine lv_iload hx hb dX16_say_64 (lv_at hl 0 rfl) ?_
  refine lv_iconst (v := (-1)) hx hb dX16_say_66 (by decide) ?_
  refine lv_bipush (v := 21) hx hb dX16_say_67 (by decide) ?_
  have hPc := hP.sub (ws' := []) [] rfl
  have hDc := hD.sub (ws' := []) [] (by decide) rfl
  have hKc := hK.sub (tys' := []) [] rfl
  have hFc := va_free (wc := []) hD hS hA [] rfl
  refine va_calli (va_runS (As := [.int x0, .int (-1), .int 21]) (rest := [.int 0]) ⟨hx, hb, hml, hown, hts⟩ (kX16_isIn_24 l dC dI g H.size x0 ⟨by omega, by omega⟩) (va_cwS 3 hts (ns_gp (List.forall_mem_cons.mpr ⟨wm240, (List.forall_mem_cons.mpr ⟨wm241, (List.forall_mem_cons.mpr ⟨wm192, (fun _ h9 => nomatch h9)⟩)⟩)⟩) wm233) rfl rfl rfl (by decide +kernel) ⟨Nat.le_of_ble_eq_true rfl, Nat.le_of_ble_eq_true rfl⟩) ⟨fun a U gg mk q => by obtain ⟨q0, q1, qP, qK, qD, qF⟩ := q; exact ⟨q0, q1, qP, va_K.moved (u := U) (U := U.calling gg mk a) (Vm.Alike.refl U.vm) qK, qD, ns_same qF⟩, fun U hU hW => ⟨rfl, by rw [hU], by rw [hU]; exact hPc, va_K.moved hW.alike hKc, hDc.weaken (fun _ _ _ _ => trivial), ns_call hF hS hFc hU hW⟩⟩ rfl rfl hl.1 rfl (lv_room (Nat.le_of_ble_eq_true rfl)) dX16_say_69 ⟨Nat.le_of_ble_eq_true rfl, Nat.le_of_ble_eq_true rfl⟩) hS (fun q _ h => hFc q h) hFc (fun r9 u t H1 locs ht hvm hw hB hz1 hk1 hS => ?_)
  obtain rfl := hw.symm
  obtain ⟨hP1, hK1, hD1⟩ := hB
  rw [ht] at hP1
  have hK1 := va_K.moved hvm.symm hK1
  obtain ⟨hP, hD⟩ := va_join (wr := [(h0, .inr (23, [v0, v1, v2, v3, v4, v5, v6, v7, v8])), (q1, .inl (cyq1, 6, .inl (upd (upd (upd (upd (upd (upd (fun _ => 0) 0 x0) 1 x1) 2 x2) 3 x3) 4 x4) 5 x5)))]) (w1 := []) hP hD [] [0, 1] rfl rfl (by decide) (by decide) hk1 hFc hP1 hD1
  have hK := (hK.sub (tys' := [(cyq1, .int)]) [0] rfl).app hK1
  generalize H1 = H at hP hS ⊢
  have hP : va_P (dC, dI) vwCl [(h0, .inr (23, [v0, v1, v2, v3, v4, v5, v6, v7, v8])), (q1, .inl (cyq1, 6, .inl (upd (upd (upd (upd (upd (upd (fun _ => 0) 0 x0) 1 x1) 2 x2) 3 x3) 4 x4) 5 x5)))] H := hP
  have hD : va_D A [(h0, .inr (23, [v0, v1, v2, v3, v4, v5, v6, v7, v8])), (q1, .inl (cyq1, 6, .inl (upd (upd (upd (upd (upd (upd (fun _ => 0) 0 x0) 1 x1) 2 x2) 3 x3) 4 x4) 5 x5)))] := hD
  have hK : va_K (dC, dI) vwCl [(cyq1, .int)] s := hK
  refine W.widen (k := 1) (n := 6) (Nat.le_of_ble_eq_true rfl) (Nat.le_of_ble_eq_true rfl) ?_
  refine lv_if_ne (tgt := 79) hx hb dX16_say_72 (by decide) (fun c4 => ?_) (fun c4 => absurd c4 (by decide))
  refine lv_iconst (v := 0) hx hb dX16_say_79 (by decide) ?_
  refine lv_ior hx hb dX16_say_80 ?_
  refine lv_topi (fun y5 ey5 => ?_)
  obtain rfl : y5 = 0 := ey5.trans (by decide)
  refine lv_istore (lv' := [(8, .int 0), (12, .int x0), (11, .int 0), (10, .int 6), (9, .ref q1), (7, .ref q1), (0, .ref h0), (1, .int x0), (2, .int x1), (3, .int x2), (4, .int x3), (5, .int x4), (6, .int x5)]) hx hb dX16_say_81 hl (by decide) rfl (fun ls hl => ?_)
  refine lv_iinc (v := 1) (lv' := [(11, .int 1), (8, .int 0), (12, .int x0), (10, .int 6), (9, .ref q1), (7, .ref q1), (0, .ref h0), (1, .int x0), (2, .int x1), (3, .int x2), (4, .int x3), (5, .int x4), (6, .int x5)]) hx hb dX16_say_83 hl (k := 2) rfl (by decide) (by decide) rfl (fun ls hl => ?_)
  refine lv_goto (tgt := 48) hx hb dX16_say_86 (by decide) ?_
  refine lv_iload hx hb dX16_say_48 (lv_at hl 0 rfl) ?_
  refine lv_iload hx hb dX16_say_50 (lv_at hl 3 rfl) ?_
  refine lv_icmp_ge (tgt := 89) hx hb dX16_say_52 (by decide) (fun c6 => absurd c6 (by decide)) (fun c6 => ?_)
  refine lv_aload hx hb dX16_say_55 (lv_at hl 4 rfl) ?_
  refine lv_iload hx hb dX16_say_57 (lv_at hl 0 rfl) ?_
  refine va_iald hx hb hK hP 1 0 rfl rfl (vp_in_nI (n := 1) (by decide) (by decide)) dX16_say_59 ?_
  refine lv_topi (fun y7 ey7 => ?_)
  obtain rfl : x1 = y7 := ey7.symm
  refine lv_istore (lv' := [(12, .int x1), (11, .int 1), (8, .int 0), (10, .int 6), (9, .ref q1), (7, .ref q1), (0, .ref h0), (1, .int x0), (2, .int x1), (3, .int x2), (4, .int x3), (5, .int x4), (6, .int x5)]) hx hb dX16_say_60 hl (by decide) rfl (fun ls hl => ?_)
  refine lv_iload hx hb dX16_say_62 (lv_at hl 2 rfl) ?_
  refine lv_iload hx hb dX16_say_64 (lv_at hl 0 rfl) ?_
  refine lv_iconst (v := (-1)) hx hb dX16_say_66 (by decide) ?_
  refine lv_bipush (v := 21) hx hb dX16_say_67 (by decide) ?_
  have hPc := hP.sub (ws' := []) [] rfl
  have hDc := hD.sub (ws' := []) [] (by decide) rfl
  have hKc := hK.sub (tys' := []) [] rfl
  have hFc := va_free (wc := []) hD hS hA [] rfl
  refine va_calli (va_runS (As := [.int x1, .int (-1), .int 21]) (rest := [.int 0]) ⟨hx, hb, hml, hown, hts⟩ (kX16_isIn_24 l dC dI g H.size x1 ⟨by omega, by omega⟩) (va_cwS 3 hts (ns_gp (List.forall_mem_cons.mpr ⟨wm240, (List.forall_mem_cons.mpr ⟨wm241, (List.forall_mem_cons.mpr ⟨wm192, (fun _ h9 => nomatch h9)⟩)⟩)⟩) wm233) rfl rfl rfl (by decide +kernel) ⟨Nat.le_of_ble_eq_true rfl, Nat.le_of_ble_eq_true rfl⟩) ⟨fun a U gg mk q => by obtain ⟨q0, q1, qP, qK, qD, qF⟩ := q; exact ⟨q0, q1, qP, va_K.moved (u := U) (U := U.calling gg mk a) (Vm.Alike.refl U.vm) qK, qD, ns_same qF⟩, fun U hU hW => ⟨rfl, by rw [hU], by rw [hU]; exact hPc, va_K.moved hW.alike hKc, hDc.weaken (fun _ _ _ _ => trivial), ns_call hF hS hFc hU hW⟩⟩ rfl rfl hl.1 rfl (lv_room (Nat.le_of_ble_eq_true rfl)) dX16_say_69 ⟨Nat.le_of_ble_eq_true rfl, Nat.le_of_ble_eq_true rfl⟩) hS (fun q _ h => hFc q h) hFc (fun r9 u t H1 locs ht hvm hw hB hz1 hk1 hS => ?_)
  obtain rfl := hw.symm
  obtain ⟨hP1, hK1, hD1⟩ := hB
  rw [ht] at hP1
  have hK1 := va_K.moved hvm.symm hK1
  obtain ⟨hP, hD⟩ := va_join (wr := [(h0, .inr (23, [v0, v1, v2, v3, v4, v5, v6, v7, v8])), (q1, .inl (cyq1, 6, .inl (upd (upd (upd (upd (upd (upd (fun _ => 0) 0 x0) 1 x1) 2 x2) 3 x3) 4 x4) 5 x5)))]) (w1 := []) hP hD [] [0, 1] rfl rfl (by decide) (by decide) hk1 hFc hP1 hD1
  have hK := (hK.sub (tys' := [(cyq1, .int)]) [0] rfl).app hK1
  generalize H1 = H at hP hS ⊢
  have hP : va_P (dC, dI) vwCl [(h0, .inr (23, [v0, v1, v2, v3, v4, v5, v6, v7, v8])), (q1, .inl (cyq1, 6, .inl (upd (upd (upd (upd (upd (upd (fun _ => 0) 0 x0) 1 x1) 2 x2) 3 x3) 4 x4) 5 x5)))] H := hP
  have hD : va_D A [(h0, .inr (23, [v0, v1, v2, v3, v4, v5, v6, v7, v8])), (q1, .inl (cyq1, 6, .inl (upd (upd (upd (upd (upd (upd (fun _ => 0) 0 x0) 1 x1) 2 x2) 3 x3) 4 x4) 5 x5)))] := hD
  have hK : va_K (dC, dI) vwCl [(cyq1, .int)] s := hK
  refine W.widen (k := 1) (n := 6) (Nat.le_of_ble_eq_true rfl) (Nat.le_of_ble_eq_true rfl) ?_
  refine lv_if_ne (tgt := 79) hx hb dX16_say_72 (by decide) (fun c8 => ?_) (fun c8 => absurd c8 (by decide))
  refine lv_iconst (v := 0) hx hb dX16_say_79 (by decide) ?_
  refine lv_ior hx hb dX16_say_80 ?_
  refine lv_topi (fun y9 ey9 => ?_)
  obtain rfl : y9 = 0 := ey9.trans (by decide)
  refine lv_istore (lv' := [(8, .int 0), (12, .int x1), (11, .int 1), (10, .int 6), (9, .ref q1), (7, .ref q1), (0, .ref h0), (1, .int x0), (2, .int x1), (3, .int x2), (4, .int x3), (5, .int x4), (6, .int x5)]) hx hb dX16_say_81 hl (by decide) rfl (fun ls hl => ?_)
  refine lv_iinc (v := 2) (lv' := [(11, .int 2), (8, .int 0), (12, .int x1), (10, .int 6), (9, .ref q1), (7, .ref q1), (0, .ref h0), (1, .int x0), (2, .int x1), (3, .int x2), (4, .int x3), (5, .int x4), (6, .int x5)]) hx hb dX16_say_83 hl (k := 2) rfl (by decide) (by decide) rfl (fun ls hl => ?_)
  refine lv_goto (tgt := 48) hx hb dX16_say_86 (by decide) ?_
  refine lv_iload hx hb dX16_say_48 (lv_at hl 0 rfl) ?_
  refine lv_iload hx hb dX16_say_50 (lv_at hl 3 rfl) ?_
  refine lv_icmp_ge (tgt := 89) hx hb dX16_say_52 (by decide) (fun c10 => absurd c10 (by decide)) (fun c10 => ?_)
  refine lv_aload hx hb dX16_say_55 (lv_at hl 4 rfl) ?_
  refine lv_iload hx hb dX16_say_57 (lv_at hl 0 rfl) ?_
  refine va_iald hx hb hK hP 1 0 rfl rfl (vp_in_nI (n := 2) (by decide) (by decide)) dX16_say_59 ?_
  refine lv_topi (fun y11 ey11 => ?_)
  obtain rfl : x2 = y11 := ey11.symm
  refine lv_istore (lv' := [(12, .int x2), (11, .int 2), (8, .int 0), (10, .int 6), (9, .ref q1), (7, .ref q1), (0, .ref h0), (1, .int x0), (2, .int x1), (3, .int x2), (4, .int x3), (5, .int x4), (6, .int x5)]) hx hb dX16_say_60 hl (by decide) rfl (fun ls hl => ?_)
  refine lv_iload hx hb dX16_say_62 (lv_at hl 2 rfl) ?_
  refine lv_iload hx hb dX16_say_64 (lv_at hl 0 rfl) ?_
  refine lv_iconst (v := (-1)) hx hb dX16_say_66 (by decide) ?_
  refine lv_bipush (v := 21) hx hb dX16_say_67 (by decide) ?_
  have hPc := hP.sub (ws' := []) [] rfl
  have hDc := hD.sub (ws' := []) [] (by decide) rfl
  have hKc := hK.sub (tys' := []) [] rfl
  have hFc := va_free (wc := []) hD hS hA [] rfl
  refine va_calli (va_runS (As := [.int x2, .int (-1), .int 21]) (rest := [.int 0]) ⟨hx, hb, hml, hown, hts⟩ (kX16_isIn_24 l dC dI g H.size x2 ⟨by omega, by omega⟩) (va_cwS 3 hts (ns_gp (List.forall_mem_cons.mpr ⟨wm240, (List.forall_mem_cons.mpr ⟨wm241, (List.forall_mem_cons.mpr ⟨wm192, (fun _ h9 => nomatch h9)⟩)⟩)⟩) wm233) rfl rfl rfl (by decide +kernel) ⟨Nat.le_of_ble_eq_true rfl, Nat.le_of_ble_eq_true rfl⟩) ⟨fun a U gg mk q => by obtain ⟨q0, q1, qP, qK, qD, qF⟩ := q; exact ⟨q0, q1, qP, va_K.moved (u := U) (U := U.calling gg mk a) (Vm.Alike.refl U.vm) qK, qD, ns_same qF⟩, fun U hU hW => ⟨rfl, by rw [hU], by rw [hU]; exact hPc, va_K.moved hW.alike hKc, hDc.weaken (fun _ _ _ _ => trivial), ns_call hF hS hFc hU hW⟩⟩ rfl rfl hl.1 rfl (lv_room (Nat.le_of_ble_eq_true rfl)) dX16_say_69 ⟨Nat.le_of_ble_eq_true rfl, Nat.le_of_ble_eq_true rfl⟩) hS (fun q _ h => hFc q h) hFc (fun r9 u t H1 locs ht hvm hw hB hz1 hk1 hS => ?_)
  obtain rfl := hw.symm
  obtain ⟨hP1, hK1, hD1⟩ := hB
  rw [ht] at hP1
  have hK1 := va_K.moved hvm.symm hK1
  obtain ⟨hP, hD⟩ := va_join (wr := [(h0, .inr (23, [v0, v1, v2, v3, v4, v5, v6, v7, v8])), (q1, .inl (cyq1, 6, .inl (upd (upd (upd (upd (upd (upd (fun _ => 0) 0 x0) 1 x1) 2 x2) 3 x3) 4 x4) 5 x5)))]) (w1 := []) hP hD [] [0, 1] rfl rfl (by decide) (by decide) hk1 hFc hP1 hD1
  have hK := (hK.sub (tys' := [(cyq1, .int)]) [0] rfl).app hK1
  generalize H1 = H at hP hS ⊢
  have hP : va_P (dC, dI) vwCl [(h0, .inr (23, [v0, v1, v2, v3, v4, v5, v6, v7, v8])), (q1, .inl (cyq1, 6, .inl (upd (upd (upd (upd (upd (upd (fun _ => 0) 0 x0) 1 x1) 2 x2) 3 x3) 4 x4) 5 x5)))] H := hP
  have hD : va_D A [(h0, .inr (23, [v0, v1, v2, v3, v4, v5, v6, v7, v8])), (q1, .inl (cyq1, 6, .inl (upd (upd (upd (upd (upd (upd (fun _ => 0) 0 x0) 1 x1) 2 x2) 3 x3) 4 x4) 5 x5)))] := hD
  have hK : va_K (dC, dI) vwCl [(cyq1, .int)] s := hK
  refine W.widen (k := 1) (n := 6) (Nat.le_of_ble_eq_true rfl) (Nat.le_of_ble_eq_true rfl) ?_
  refine lv_if_ne (tgt := 79) hx hb dX16_say_72 (by decide) (fun c12 => ?_) (fun c12 => absurd c12 (by decide))
  refine lv_iconst (v := 0) hx hb dX16_say_79 (by decide) ?_
  refine lv_ior hx hb dX16_say_80 ?_
  refine lv_topi (fun y13 ey13 => ?_)
  obtain rfl : y13 = 0 := ey13.trans (by decide)
  refine lv_istore (lv' := [(8, .int 0), (12, .int x2), (11, .int 2), (10, .int 6), (9, .ref q1), (7, .ref q1), (0, .ref h0), (1, .int x0), (2, .int x1), (3, .int x2), (4, .int x3), (5, .int x4), (6, .int x5)]) hx hb dX16_say_81 hl (by decide) rfl (fun ls hl => ?_)
  refine lv_iinc (v := 3) (lv' := [(11, .int 3), (8, .int 0), (12, .int x2), (10, .int 6), (9, .ref q1), (7, .ref q1), (0, .ref h0), (1, .int x0), (2, .int x1), (3, .int x2), (4, .int x3), (5, .int x4), (6, .int x5)]) hx hb dX16_say_83 hl (k := 2) rfl (by decide) (by decide) rfl (fun ls hl => ?_)
  refine lv_goto (tgt := 48) hx hb dX16_say_86 (by decide) ?_
  refine lv_iload hx hb dX16_say_48 (lv_at hl 0 rfl) ?_
  refine lv_iload hx hb dX16_say_50 (lv_at hl 3 rfl) ?_
  refine lv_icmp_ge (tgt := 89) hx hb dX16_say_52 (by decide) (fun c14 => absurd c14 (by decide)) (fun c14 => ?_)
  refine lv_aload hx hb dX16_say_55 (lv_at hl 4 rfl) ?_
  refine lv_iload hx hb dX16_say_57 (lv_at hl 0 rfl) ?_
  refine va_iald hx hb hK hP 1 0 rfl rfl (vp_in_nI (n := 3) (by decide) (by decide)) dX16_say_59 ?_
  refine lv_topi (fun y15 ey15 => ?_)
  obtain rfl : x3 = y15 := ey15.symm
  refine lv_istore (lv' := [(12, .int x3), (11, .int 3), (8, .int 0), (10, .int 6), (9, .ref q1), (7, .ref q1), (0, .ref h0), (1, .int x0), (2, .int x1), (3, .int x2), (4, .int x3), (5, .int x4), (6, .int x5)]) hx hb dX16_say_60 hl (by decide) rfl (fun ls hl => ?_)
  refine lv_iload hx hb dX16_say_62 (lv_at hl 2 rfl) ?_
  refine lv_iload hx hb dX16_say_64 (lv_at hl 0 rfl) ?_
  refine lv_iconst (v := (-1)) hx hb dX16_say_66 (by decide) ?_
  refine lv_bipush (v := 21) hx hb dX16_say_67 (by decide) ?_
  have hPc := hP.sub (ws' := []) [] rfl
  have hDc := hD.sub (ws' := []) [] (by decide) rfl
  have hKc := hK.sub (tys' := []) [] rfl
  have hFc := va_free (wc := []) hD hS hA [] rfl
  refine va_calli (va_runS (As := [.int x3, .int (-1), .int 21]) (rest := [.int 0]) ⟨hx, hb, hml, hown, hts⟩ (kX16_isIn_24 l dC dI g H.size x3 ⟨by omega, by omega⟩) (va_cwS 3 hts (ns_gp (List.forall_mem_cons.mpr ⟨wm240, (List.forall_mem_cons.mpr ⟨wm241, (List.forall_mem_cons.mpr ⟨wm192, (fun _ h9 => nomatch h9)⟩)⟩)⟩) wm233) rfl rfl rfl (by decide +kernel) ⟨Nat.le_of_ble_eq_true rfl, Nat.le_of_ble_eq_true rfl⟩) ⟨fun a U gg mk q => by obtain ⟨q0, q1, qP, qK, qD, qF⟩ := q; exact ⟨q0, q1, qP, va_K.moved (u := U) (U := U.calling gg mk a) (Vm.Alike.refl U.vm) qK, qD, ns_same qF⟩, fun U hU hW => ⟨rfl, by rw [hU], by rw [hU]; exact hPc, va_K.moved hW.alike hKc, hDc.weaken (fun _ _ _ _ => trivial), ns_call hF hS hFc hU hW⟩⟩ rfl rfl hl.1 rfl (lv_room (Nat.le_of_ble_eq_true rfl)) dX16_say_69 ⟨Nat.le_of_ble_eq_true rfl, Nat.le_of_ble_eq_true rfl⟩) hS (fun q _ h => hFc q h) hFc (fun r9 u t H1 locs ht hvm hw hB hz1 hk1 hS => ?_)
  obtain rfl := hw.symm
  obtain ⟨hP1, hK1, hD1⟩ := hB
  rw [ht] at hP1
  have hK1 := va_K.moved hvm.symm hK1
  obtain ⟨hP, hD⟩ := va_join (wr := [(h0, .inr (23, [v0, v1, v2, v3, v4, v5, v6, v7, v8])), (q1, .inl (cyq1, 6, .inl (upd (upd (upd (upd (upd (upd (fun _ => 0) 0 x0) 1 x1) 2 x2) 3 x3) 4 x4) 5 x5)))]) (w1 := []) hP hD [] [0, 1] rfl rfl (by decide) (by decide) hk1 hFc hP1 hD1
  have hK := (hK.sub (tys' := [(cyq1, .int)]) [0] rfl).app hK1
  generalize H1 = H at hP hS ⊢
  have hP : va_P (dC, dI) vwCl [(h0, .inr (23, [v0, v1, v2, v3, v4, v5, v6, v7, v8])), (q1, .inl (cyq1, 6, .inl (upd (upd (upd (upd (upd (upd (fun _ => 0) 0 x0) 1 x1) 2 x2) 3 x3) 4 x4) 5 x5)))] H := hP
  have hD : va_D A [(h0, .inr (23, [v0, v1, v2, v3, v4, v5, v6, v7, v8])), (q1, .inl (cyq1, 6, .inl (upd (upd (upd (upd (upd (upd (fun _ => 0) 0 x0) 1 x1) 2 x2) 3 x3) 4 x4) 5 x5)))] := hD
  have hK : va_K (dC, dI) vwCl [(cyq1, .int)] s := hK
  refine W.widen (k := 1) (n := 6) (Nat.le_of_ble_eq_true rfl) (Nat.le_of_ble_eq_true rfl) ?_
  refine lv_if_ne (tgt := 79) hx hb dX16_say_72 (by decide) (fun c16 => ?_) (fun c16 => absurd c16 (by decide))
  refine lv_iconst (v := 0) hx hb dX16_say_79 (by decide) ?_
  refine lv_ior hx hb dX16_say_80 ?_
  refine lv_topi (fun y17 ey17 => ?_)
  obtain rfl : y17 = 0 := ey17.trans (by decide)
  refine lv_istore (lv' := [(8, .int 0), (12, .int x3), (11, .int 3), (10, .int 6), (9, .ref q1), (7, .ref q1), (0, .ref h0), (1, .int x0), (2, .int x1), (3, .int x2), (4, .int x3), (5, .int x4), (6, .int x5)]) hx hb dX16_say_81 hl (by decide) rfl (fun ls hl => ?_)
  refine lv_iinc (v := 4) (lv' := [(11, .int 4), (8, .int 0), (12, .int x3), (10, .int 6), (9, .ref q1), (7, .ref q1), (0, .ref h0), (1, .int x0), (2, .int x1), (3, .int x2), (4, .int x3), (5, .int x4), (6, .int x5)]) hx hb dX16_say_83 hl (k := 2) rfl (by decide) (by decide) rfl (fun ls hl => ?_)
  refine lv_goto (tgt := 48) hx hb dX16_say_86 (by decide) ?_
  refine lv_iload hx hb dX16_say_48 (lv_at hl 0 rfl) ?_
  refine lv_iload hx hb dX16_say_50 (lv_at hl 3 rfl) ?_
  refine lv_icmp_ge (tgt := 89) hx hb dX16_say_52 (by decide) (fun c18 => absurd c18 (by decide)) (fun c18 => ?_)
  refine lv_aload hx hb dX16_say_55 (lv_at hl 4 rfl) ?_
  refine lv_iload hx hb dX16_say_57 (lv_at hl 0 rfl) ?_
  refine va_iald hx hb hK hP 1 0 rfl rfl (vp_in_nI (n := 4) (by decide) (by decide)) dX16_say_59 ?_
  refine lv_topi (fun y19 ey19 => ?_)
  obtain rfl : x4 = y19 := ey19.symm
  refine lv_istore (lv' := [(12, .int x4), (11, .int 4), (8, .int 0), (10, .int 6), (9, .ref q1), (7, .ref q1), (0, .ref h0), (1, .int x0), (2, .int x1), (3, .int x2), (4, .int x3), (5, .int x4), (6, .int x5)]) hx hb dX16_say_60 hl (by decide) rfl (fun ls hl => ?_)
  refine lv_iload hx hb dX16_say_62 (lv_at hl 2 rfl) ?_
  refine lv_iload hx hb dX16_say_64 (lv_at hl 0 rfl) ?_
  refine lv_iconst (v := (-1)) hx hb dX16_say_66 (by decide) ?_
  refine lv_bipush (v := 21) hx hb dX16_say_67 (by decide) ?_
  have hPc := hP.sub (ws' := []) [] rfl
  have hDc := hD.sub (ws' := []) [] (by decide) rfl
  have hKc := hK.sub (tys' := []) [] rfl
  have hFc := va_free (wc := []) hD hS hA [] rfl
  refine va_calli (va_runS (As := [.int x4, .int (-1), .int 21]) (rest := [.int 0]) ⟨hx, hb, hml, hown, hts⟩ (kX16_isIn_24 l dC dI g H.size x4 ⟨by omega, by omega⟩) (va_cwS 3 hts (ns_gp (List.forall_mem_cons.mpr ⟨wm240, (List.forall_mem_cons.mpr ⟨wm241, (List.forall_mem_cons.mpr ⟨wm192, (fun _ h9 => nomatch h9)⟩)⟩)⟩) wm233) rfl rfl rfl (by decide +kernel) ⟨Nat.le_of_ble_eq_true rfl, Nat.le_of_ble_eq_true rfl⟩) ⟨fun a U gg mk q => by obtain ⟨q0, q1, qP, qK, qD, qF⟩ := q; exact ⟨q0, q1, qP, va_K.moved (u := U) (U := U.calling gg mk a) (Vm.Alike.refl U.vm) qK, qD, ns_same qF⟩, fun U hU hW => ⟨rfl, by rw [hU], by rw [hU]; exact hPc, va_K.moved hW.alike hKc, hDc.weaken (fun _ _ _ _ => trivial), ns_call hF hS hFc hU hW⟩⟩ rfl rfl hl.1 rfl (lv_room (Nat.le_of_ble_eq_true rfl)) dX16_say_69 ⟨Nat.le_of_ble_eq_true rfl, Nat.le_of_ble_eq_true rfl⟩) hS (fun q _ h => hFc q h) hFc (fun r9 u t H1 locs ht hvm hw hB hz1 hk1 hS => ?_)
  obtain rfl := hw.symm
  obtain ⟨hP1, hK1, hD1⟩ := hB
  rw [ht] at hP1
  have hK1 := va_K.moved hvm.symm hK1
  obtain ⟨hP, hD⟩ := va_join (wr := [(h0, .inr (23, [v0, v1, v2, v3, v4, v5, v6, v7, v8])), (q1, .inl (cyq1, 6, .inl (upd (upd (upd (upd (upd (upd (fun _ => 0) 0 x0) 1 x1) 2 x2) 3 x3) 4 x4) 5 x5)))]) (w1 := []) hP hD [] [0, 1] rfl rfl (by decide) (by decide) hk1 hFc hP1 hD1
  have hK := (hK.sub (tys' := [(cyq1, .int)]) [0] rfl).app hK1
  generalize H1 = H at hP hS ⊢
  have hP : va_P (dC, dI) vwCl [(h0, .inr (23, [v0, v1, v2, v3, v4, v5, v6, v7, v8])), (q1, .inl (cyq1, 6, .inl (upd (upd (upd (upd (upd (upd (fun _ => 0) 0 x0) 1 x1) 2 x2) 3 x3) 4 x4) 5 x5)))] H := hP
  have hD : va_D A [(h0, .inr (23, [v0, v1, v2, v3, v4, v5, v6, v7, v8])), (q1, .inl (cyq1, 6, .inl (upd (upd (upd (upd (upd (upd (fun _ => 0) 0 x0) 1 x1) 2 x2) 3 x3) 4 x4) 5 x5)))] := hD
  have hK : va_K (dC, dI) vwCl [(cyq1, .int)] s := hK
  refine W.widen (k := 1) (n := 6) (Nat.le_of_ble_eq_true rfl) (Nat.le_of_ble_eq_true rfl) ?_
  refine lv_if_ne (tgt := 79) hx hb dX16_say_72 (by decide) (fun c20 => ?_) (fun c20 => absurd c20 (by decide))
  refine lv_iconst (v := 0) hx hb dX16_say_79 (by decide) ?_
  refine lv_ior hx hb dX16_say_80 ?_
  refine lv_topi (fun y21 ey21 => ?_)
  obtain rfl : y21 = 0 := ey21.trans (by decide)
  refine lv_istore (lv' := [(8, .int 0), (12, .int x4), (11, .int 4), (10, .int 6), (9, .ref q1), (7, .ref q1), (0, .ref h0), (1, .int x0), (2, .int x1), (3, .int x2), (4, .int x3), (5, .int x4), (6, .int x5)]) hx hb dX16_say_81 hl (by decide) rfl (fun ls hl => ?_)
  refine lv_iinc (v := 5) (lv' := [(11, .int 5), (8, .int 0), (12, .int x4), (10, .int 6), (9, .ref q1), (7, .ref q1), (0, .ref h0), (1, .int x0), (2, .int x1), (3, .int x2), (4, .int x3), (5, .int x4), (6, .int x5)]) hx hb dX16_say_83 hl (k := 2) rfl (by decide) (by decide) rfl (fun ls hl => ?_)
  refine lv_goto (tgt := 48) hx hb dX16_say_86 (by decide) ?_
  refine lv_iload hx hb dX16_say_48 (lv_at hl 0 rfl) ?_
  refine lv_iload hx hb dX16_say_50 (lv_at hl 3 rfl) ?_
  refine lv_icmp_ge (tgt := 89) hx hb dX16_say_52 (by decide) (fun c22 => absurd c22 (by decide)) (fun c22 => ?_)
  refine lv_aload hx hb dX16_say_55 (lv_at hl 4 rfl) ?_
  refine lv_iload hx hb dX16_say_57 (lv_at hl 0 rfl) ?_
  refine va_iald hx hb hK hP 1 0 rfl rfl (vp_in_nI (n := 5) (by decide) (by decide)) dX16_say_59 ?_
  refine lv_topi (fun y23 ey23 => ?_)
  obtain rfl : x5 = y23 := ey23.symm
  refine lv_istore (lv' := [(12, .int x5), (11, .int 5), (8, .int 0), (10, .int 6), (9, .ref q1), (7, .ref q1), (0, .ref h0), (1, .int x0), (2, .int x1), (3, .int x2), (4, .int x3), (5, .int x4), (6, .int x5)]) hx hb dX16_say_60 hl (by decide) rfl (fun ls hl => ?_)
  refine lv_iload hx hb dX16_say_62 (lv_at hl 2 rfl) ?_
  refine lv_iload hx hb dX16_say_64 (lv_at hl 0 rfl) ?_
  refine lv_iconst (v := (-1)) hx hb dX16_say_66 (by decide) ?_
  refine lv_bipush (v := 21) hx hb dX16_say_67 (by decide) ?_
  have hPc := hP.sub (ws' := []) [] rfl
  have hDc := hD.sub (ws' := []) [] (by decide) rfl
  have hKc := hK.sub (tys' := []) [] rfl
  have hFc := va_free (wc := []) hD hS hA [] rfl
  refine va_calli (va_runS (As := [.int x5, .int (-1), .int 21]) (rest := [.int 0]) ⟨hx, hb, hml, hown, hts⟩ (kX16_isIn_22 l dC dI g H.size x5 ⟨by omega, by omega⟩) (va_cwS 3 hts (ns_gp (List.forall_mem_cons.mpr ⟨wm240, (List.forall_mem_cons.mpr ⟨wm241, (List.forall_mem_cons.mpr ⟨wm192, (fun _ h9 => nomatch h9)⟩)⟩)⟩) wm233) rfl rfl rfl (by decide +kernel) ⟨Nat.le_of_ble_eq_true rfl, Nat.le_of_ble_eq_true rfl⟩) ⟨fun a U gg mk q => by obtain ⟨q0, q1, qP, qK, qD, qF⟩ := q; exact ⟨q0, q1, qP, va_K.moved (u := U) (U := U.calling gg mk a) (Vm.Alike.refl U.vm) qK, qD, ns_same qF⟩, fun U hU hW => ⟨rfl, by rw [hU], by rw [hU]; exact hPc, va_K.moved hW.alike hKc, hDc.weaken (fun _ _ _ _ => trivial), ns_call hF hS hFc hU hW⟩⟩ rfl rfl hl.1 rfl (lv_room (Nat.le_of_ble_eq_true rfl)) dX16_say_69 ⟨Nat.le_of_ble_eq_true rfl, Nat.le_of_ble_eq_true rfl⟩) hS (fun q _ h => hFc q h) hFc (fun r9 u t H1 locs ht hvm hw hB hz1 hk1 hS => ?_)
  obtain rfl := hw.symm
  obtain ⟨hP1, hK1, hD1⟩ := hB
  rw [ht] at hP1
  have hK1 := va_K.moved hvm.symm hK1
  obtain ⟨hP, hD⟩ := va_join (wr := [(h0, .inr (23, [v0, v1, v2, v3, v4, v5, v6, v7, v8])), (q1, .inl (cyq1, 6, .inl (upd (upd (upd (upd (upd (upd (fun _ => 0) 0 x0) 1 x1) 2 x2) 3 x3) 4 x4) 5 x5)))]) (w1 := []) hP hD [] [0, 1] rfl rfl (by decide) (by decide) hk1 hFc hP1 hD1
  have hK := (hK.sub (tys' := [(cyq1, .int)]) [0] rfl).app hK1
  generalize H1 = H at hP hS ⊢
  have hP : va_P (dC, dI) vwCl [(h0, .inr (23, [v0, v1, v2, v3, v4, v5, v6, v7, v8])), (q1, .inl (cyq1, 6, .inl (upd (upd (upd (upd (upd (upd (fun _ => 0) 0 x0) 1 x1) 2 x2) 3 x3) 4 x4) 5 x5)))] H := hP
  have hD : va_D A [(h0, .inr (23, [v0, v1, v2, v3, v4, v5, v6, v7, v8])), (q1, .inl (cyq1, 6, .inl (upd (upd (upd (upd (upd (upd (fun _ => 0) 0 x0) 1 x1) 2 x2) 3 x3) 4 x4) 5 x5)))] := hD
  have hK : va_K (dC, dI) vwCl [(cyq1, .int)] s := hK
  refine W.widen (k := 1) (n := 6) (Nat.le_of_ble_eq_true rfl) (Nat.le_of_ble_eq_true rfl) ?_
  refine lv_if_ne (tgt := 79) hx hb dX16_say_72 (by decide) (fun c24 => absurd (by decide) c24) (fun c24 => ?_)
  refine lv_iconst (v := 1) hx hb dX16_say_75 (by decide) ?_
  refine lv_goto (tgt := 80) hx hb dX16_say_76 (by decide) ?_
  refine lv_ior hx hb dX16_say_80 ?_
  refine lv_topi (fun y25 ey25 => ?_)
  obtain rfl : y25 = 1 := ey25.trans (by decide)
  refine lv_istore (lv' := [(8, .int 1), (12, .int x5), (11, .int 5), (10, .int 6), (9, .ref q1), (7, .ref q1), (0, .ref h0), (1, .int x0), (2, .int x1), (3, .int x2), (4, .int x3), (5, .int x4), (6, .int x5)]) hx hb dX16_say_81 hl (by decide) rfl (fun ls hl => ?_)
  refine lv_iinc (v := 6) (lv' := [(11, .int 6), (8, .int 1), (12, .int x5), (10, .int 6), (9, .ref q1), (7, .ref q1), (0, .ref h0), (1, .int x0), (2, .int x1), (3, .int x2), (4, .int x3), (5, .int x4), (6, .int x5)]) hx hb dX16_say_83 hl (k := 2) rfl (by decide) (by decide) rfl (fun ls hl => ?_)
  refine lv_goto (tgt := 48) hx hb dX16_say_86 (by decide) ?_
  refine lv_iload hx hb dX16_say_48 (lv_at hl 0 rfl) ?_
  refine lv_iload hx hb dX16_say_50 (lv_at hl 3 rfl) ?_
  refine lv_icmp_ge (tgt := 89) hx hb dX16_say_52 (by decide) (fun c26 => ?_) (fun c26 => absurd (by decide) c26)
  refine lv_aload_n hx hb dX16_say_89 rfl (lv_at hl 6 rfl) ?_
  refine lv_iload hx hb dX16_say_90 (lv_at hl 1 rfl) ?_
  refine lv_iconst (v := 1) hx hb dX16_say_92 (by decide) ?_
  have hPc := hP.sub (ws' := [(h0, .inr (23, [v0, v1, v2, v3, v4, v5, v6, v7, v8]))]) [0] rfl
  have hDc := hD.sub (ws' := [(h0, .inr (23, [v0, v1, v2, v3, v4, v5, v6, v7, v8]))]) [0] (by decide) rfl
  have hKc := hK.sub (tys' := []) [] rfl
  have hFc := va_free (wc := [(h0, .inr (23, [v0, v1, v2, v3, v4, v5, v6, v7, v8]))]) hD hS hA [0] rfl
  refine va_calli (va_runV (As := [.int 1, .int 1]) (rest := []) ⟨hx, hb, hml, hown, hts⟩ (kX16_start l dC dI g H.size h0 v0 v1 v2 v3 v4 v5 v6 v7 v8 ) (cwV 2 hts (ns_gp (List.forall_mem_cons.mpr ⟨wm242, (List.forall_mem_cons.mpr ⟨wm243, (List.forall_mem_cons.mpr ⟨wm244, (List.forall_mem_cons.mpr ⟨wm192, (fun _ h9 => nomatch h9)⟩)⟩)⟩)⟩) wm239) rfl rfl rfl (by decide +kernel) ⟨Nat.le_of_ble_eq_true rfl, Nat.le_of_ble_eq_true rfl⟩) ⟨fun a U gg mk q => by obtain ⟨q0, q1, qP, qK, qD, qF⟩ := q; exact ⟨q0, q1, qP, va_K.moved (u := U) (U := U.calling gg mk a) (Vm.Alike.refl U.vm) qK, qD, ns_same qF⟩, va_recv hK hP (ci := 23) (q0 := 0) rfl rfl, fun U hU hW => ⟨rfl, by rw [hU], by rw [hU]; exact hPc, va_K.moved hW.alike hKc, hDc.weaken (fun _ _ _ _ => trivial), ns_call hF hS hFc hU hW⟩⟩ rfl rfl hl.1 rfl (lv_room (Nat.le_of_ble_eq_true rfl)) dX16_say_93 ⟨Nat.le_of_ble_eq_true rfl, Nat.le_of_ble_eq_true rfl⟩) hS (fun q _ h => hFc q h) hFc (fun r9 u t H1 locs ht hvm hw hB hz1 hk1 hS => ?_)
  obtain rfl := hw.symm
  obtain ⟨hP1, hK1, hD1⟩ := hB
  rw [ht] at hP1
  have hK1 := va_K.moved hvm.symm hK1
  obtain ⟨hP, hD⟩ := va_join (wr := [(q1, .inl (cyq1, 6, .inl (upd (upd (upd (upd (upd (upd (fun _ => 0) 0 x0) 1 x1) 2 x2) 3 x3) 4 x4) 5 x5)))]) (w1 := [(h0, .inr (23, [.int 1, v1, v2, v3, v4, v5, v6, v7, v8]))]) hP hD [0] [1] rfl rfl (by decide) (by decide) hk1 hFc hP1 hD1
  have hK := (hK.sub (tys' := [(cyq1, .int)]) [0] rfl).app hK1
  generalize H1 = H at hP hS ⊢
  have hP : va_P (dC, dI) vwCl [(q1, .inl (cyq1, 6, .inl (upd (upd (upd (upd (upd (upd (fun _ => 0) 0 x0) 1 x1) 2 x2) 3 x3) 4 x4) 5 x5))), (h0, .inr (23, [.int 1, v1, v2, v3, v4, v5, v6, v7, v8]))] H := hP
  have hD : va_D A [(q1, .inl (cyq1, 6, .inl (upd (upd (upd (upd (upd (upd (fun _ => 0) 0 x0) 1 x1) 2 x2) 3 x3) 4 x4) 5 x5))), (h0, .inr (23, [.int 1, v1, v2, v3, v4, v5, v6, v7, v8]))] := hD
  have hK : va_K (dC, dI) vwCl [(cyq1, .int)] s := hK
  refine W.widen (k := 1) (n := 6) (Nat.le_of_ble_eq_true rfl) (Nat.le_of_ble_eq_true rfl) ?_
  refine lv_if_eq (tgt := 101) hx hb dX16_say_96 (by decide) (fun c27 => absurd c27 (by decide)) (fun c27 => ?_)
  refine lv_iconst (v := 0) hx hb dX16_say_99 (by decide) ?_
  have hP9 := hP.sub (ws' := [(h0, .inr (23, [.int 1, v1, v2, v3, v4, v5, v6, v7, v8]))]) [1] rfl
  have hD9 := hD.sub (ws' := [(h0, .inr (23, [.int 1, v1, v2, v3, v4, v5, v6, v7, v8]))]) [1] (by decide) rfl
  have hK9 := hK.sub (tys' := []) [] rfl
  refine W.widen (k := 1) (n := 6) (Nat.le_of_ble_eq_true rfl) (Nat.le_of_ble_eq_true rfl) ?_
  exact W.iret (v := 0) hx hb hr (fun t ht hW => ⟨⟨_, (), rfl, rfl, by rw [ht]; exact hP9, va_K.moved hW.alike hK9, hD9⟩, hS.F ht⟩) hS.2.2 dX16_say_100
set_option maxHeartbeats 4000000 in
set_option maxRecDepth 100000 in
theorem kX16_houseTold_2 (l : Launch) (dC : Nat → ClassId) (dI : Nat → Nat → Nat) (g : Nat → Nat) (sz : Nat) (h0 : Nat) (h1 : Nat) (v0 : Value) (v1 : Value) (v2 : Value) : Met l yX16_houseTold wbX16_houseTold ({ frames := 3, cells := 2, slots := 12, locals := 53 }) (va_Pc [.ref h0, .int 1] (fun U => U.heap.size = sz ∧ va_P (dC, dI) vwCl [(h0, .inr (23, [v0, .ref h1, .int 20, .int 60, .ref (g 34), v1, .int 0, .int 0, .int 0])), (h1, .inr (6, [.int 0, v2, .int 0]))] U.heap ∧ va_K (dC, dI) vwCl [] U ∧ va_D (fun _ => True) [(h0, .inr (23, [v0, .ref h1, .int 20, .int 60, .ref (g 34), v1, .int 0, .int 0, .int 0])), (h1, .inr (6, [.int 0, v2, .int 0]))] ∧ ns_F g (va_A [(h0, .inr (23, [v0, .ref h1, .int 20, .int 60, .ref (g 34), v1, .int 0, .int 0, .int 0])), (h1, .inr (6, [.int 0, v2, .int 0]))] sz) U U.heap)) (va_Qi (fun (r : Int32) (_ : Unit) => r = 20) (fun _ t => ∃ k0 : Nat, ∃ k1 : Nat, ∃ kc2 : ClassId, va_P (dC, dI) vwCl [(h0, .inr (23, [v0, .ref h1, .int 20, .int 60, .ref (g 34), v1, .int 0, .int 0, .int 0])), (k0, .inr (5, [.int 0, .int (-1), .int 0, .ref h1])), (k1, .inl (kc2, 8, .inl (upd (upd (upd (upd (upd (upd (upd (upd (fun _ => 0) 0 0) 1 20) 2 60) 3 0) 4 0) 5 0) 6 0) 7 0))), (h1, .inr (6, [.int 0, v2, .int 0]))] t.heap ∧ va_K (dC, dI) vwCl [(kc2, .int)] t ∧ va_D (va_A [(h0, .inr (23, [v0, .ref h1, .int 20, .int 60, .ref (g 34), v1, .int 0, .int 0, .int 0])), (h1, .inr (6, [.int 0, v2, .int 0]))] sz) [(h0, .inr (23, [v0, .ref h1, .int 20, .int 60, .ref (g 34), v1, .int 0, .int 0, .int 0])), (k0, .inr (5, [.int 0, .int (-1), .int 0, .ref h1])), (k1, .inl (kc2, 8, .inl (upd (upd (upd (upd (upd (upd (upd (upd (fun _ => 0) 0 0) 1 20) 2 60) 3 0) 4 0) 5 0) 6 0) 7 0))), (h1, .inr (6, [.int 0, v2, .int 0]))]) (va_A [(h0, .inr (23, [v0, .ref h1, .int 20, .int 60, .ref (g 34), v1, .int 0, .int 0, .int 0])), (h1, .inr (6, [.int 0, v2, .int 0]))] sz)) 2 12 (va_A [(h0, .inr (23, [v0, .ref h1, .int 20, .int 60, .ref (g 34), v1, .int 0, .int 0, .int 0])), (h1, .inr (6, [.int 0, v2, .int 0]))] sz) := by
  refine Met.ofW (cc := cX16_houseTold) (maxL := 5) (ret := (some .int)) (by decide) rfl ?_
  intro p e s m args below meth c s₁ B hml hv
  obtain ⟨rfl, hsz, hP, hK, hD0, hF⟩ := hv
  have hx := B.exec
  have hb := B.bytes
  have hr := B.returns
  have hts := atoms_spec (ws := wbX16_houseTold) B.pre
  have hta : ∀ w ∈ wsALL, w.before _ s = true := fun w h => hts w (List.mem_cons_of_mem _ h)
  have hown : s.vm.findClass RX16 = some m.cls := findClass_of_methodNamed B.named
  have hlocks := B.notSynchronized
  subst hsz
  have hD := hD0.self (sz := s.heap.size)
  generalize hAe : va_A [(h0, .inr (23, [v0, .ref h1, .int 20, .int 60, .ref (g 34), v1, .int 0, .int 0, .int 0])), (h1, .inr (6, [.int 0, v2, .int 0]))] s.heap.size = A at hD hF ⊢
  have hA : ∀ q : Nat, s.heap.size ≤ q → A q := fun q h => by rw [← hAe]; exact Or.inr h
  have hS : va_S A s.heap s.heap [] := va_S.rf
  have hP : va_P (dC, dI) vwCl [(h0, .inr (23, [v0, .ref h1, .int 20, .int 60, .ref (g 34), v1, .int 0, .int 0, .int 0])), (h1, .inr (6, [.int 0, v2, .int 0]))] s.heap := hP
  have hl := lv_entry ([.ref h0, .int 1]) (n := 5) (Nat.le_of_ble_eq_true rfl)
  rw [lg_entry_eq]
  generalize (lg_sl ([.ref h0, .int 1]) ++ List.replicate (5 - (lg_sl ([.ref h0, .int 1])).length) Slot.unset).toArray = ls at hl ⊢
  have hl : lv_has ls 5 [(0, .ref h0), (1, .int 1)] := hl
  refine lv_iconst (v := 0) hx hb dX16_houseTold_0 (by decide) ?_
  refine lv_istore_n (lv' := [(2, .int 0), (0, .ref h0), (1, .int 1)]) hx hb dX16_houseTold_1 rfl hl (by decide) rfl (fun ls hl => ?_)
  refine lv_aload_n hx hb dX16_houseTold_2 rfl (lv_at hl 1 rfl) ?_
  refine va_get (D := (dC, dI)) (ci := 23) (v := .ref h1) (C := RX16) (T := TX16) (N := 9) hx hb hta naX16 hown hK hP 0 rfl rfl 1 (by decide) (hta _ wm210) (fun _ h9 => h9) rfl dX16_houseTold_3 ?_
  have hPc := hP.sub (ws' := [(h1, .inr (6, [.int 0, v2, .int 0]))]) [1] rfl
  have hDc := hD.sub (ws' := [(h1, .inr (6, [.int 0, v2, .int 0]))]) [1] (by decide) rfl
  have hKc := hK.sub (tys' := []) [] rfl
  have hFc := va_free (wc := [(h1, .inr (6, [.int 0, v2, .int 0]))]) hD hS hA [1] rfl
  refine va_callr (va_runV (As := []) (rest := []) ⟨hx, hb, hml, hown, hts⟩ (kJx4a65c_iterator_32c93 l dC dI g s.heap.size h1 v2 (.int 0) ) (cwV 0 hts (ns_gp (List.forall_mem_cons.mpr ⟨wm994, (List.forall_mem_cons.mpr ⟨wm718, (List.forall_mem_cons.mpr ⟨wm719, (List.forall_mem_cons.mpr ⟨wm196, (fun _ h9 => nomatch h9)⟩)⟩)⟩)⟩) wm714) rfl rfl rfl (by decide +kernel) ⟨Nat.le_of_ble_eq_true rfl, Nat.le_of_ble_eq_true rfl⟩) ⟨fun a U gg mk q => by obtain ⟨q0, q1, qP, qK, qD, qF⟩ := q; exact ⟨q0, q1, qP, va_K.moved (u := U) (U := U.calling gg mk a) (Vm.Alike.refl U.vm) qK, qD, ns_same qF⟩, va_recv hK hP (ci := 6) (q0 := 1) rfl rfl, fun U hU hW => ⟨rfl, by rw [hU], by rw [hU]; exact hPc, va_K.moved hW.alike hKc, hDc.weaken (fun _ _ _ _ => trivial), ns_call hF hS hFc hU hW⟩⟩ rfl rfl hl.1 rfl (lv_room (Nat.le_of_ble_eq_true rfl)) dX16_houseTold_6 ⟨Nat.le_of_ble_eq_true rfl, Nat.le_of_ble_eq_true rfl⟩) hS (fun q _ h => hFc q h) hFc (fun u r9 t H1 locs ht hvm hw hB hz1 hk1 hS => ?_)
  obtain ⟨q1, hr9, hP1, hK1, hD1⟩ := hB
  obtain rfl := hr9.symm
  rw [ht] at hP1
  have hK1 := va_K.moved hvm.symm hK1
  obtain ⟨hP, hD⟩ := va_join (wr := [(h0, .inr (23, [v0, .ref h1, .int 20, .int 60, .ref (g 34), v1, .int 0, .int 0, .int 0]))]) (w1 := [(q1, .inr (5, [.int 0, .int (-1), .int 0, .ref h1])), (h1, .inr (6, [.int 0, v2, .int 0]))]) hP hD [1] [0] rfl rfl (by decide) (by decide) hk1 hFc hP1 hD1
  have hK := (hK.sub (tys' := []) [] rfl).app hK1
  generalize H1 = H at hP hS ⊢
  have hP : va_P (dC, dI) vwCl [(h0, .inr (23, [v0, .ref h1, .int 20, .int 60, .ref (g 34), v1, .int 0, .int 0, .int 0])), (q1, .inr (5, [.int 0, .int (-1), .int 0, .ref h1])), (h1, .inr (6, [.int 0, v2, .int 0]))] H := hP
  have hD : va_D A [(h0, .inr (23, [v0, .ref h1, .int 20, .int 60, .ref (g 34), v1, .int 0, .int 0, .int 0])), (q1, .inr (5, [.int 0, .int (-1), .int 0, .ref h1])), (h1, .inr (6, [.int 0, v2, .int 0]))] := hD
  have hK : va_K (dC, dI) vwCl [] s := hK
  refine W.widen (k := 1) (n := 4) (Nat.le_of_ble_eq_true rfl) (Nat.le_of_ble_eq_true rfl) ?_
  refine lv_astore_n (lv' := [(3, .ref q1), (2, .int 0), (0, .ref h0), (1, .int 1)]) hx hb dX16_houseTold_9 rfl hl (by decide) rfl (fun ls hl => ?_)
  refine lv_aload_n hx hb dX16_houseTold_10 rfl (lv_at hl 0 rfl) ?_
  have hPc := hP.sub (ws' := [(q1, .inr (5, [.int 0, .int (-1), .int 0, .ref h1])), (h1, .inr (6, [.int 0, v2, .int 0]))]) [1, 2] rfl
  have hDc := hD.sub (ws' := [(q1, .inr (5, [.int 0, .int (-1), .int 0, .ref h1])), (h1, .inr (6, [.int 0, v2, .int 0]))]) [1, 2] (by decide) rfl
  have hKc := hK.sub (tys' := []) [] rfl
  have hFc := va_free (wc := [(q1, .inr (5, [.int 0, .int (-1), .int 0, .ref h1])), (h1, .inr (6, [.int 0, v2, .int 0]))]) hD hS hA [1, 2] rfl
  refine va_callFi (va_runF (hK.1 5 _ rfl).2 (As := []) (rest := []) ⟨hx, hb, hml, hown, hts⟩ (kJx35411_hasNext_aae02 l dC dI g H.size q1 h1 (.int (-1)) (.int 0) (.int 0) v2 ) (va_cwF 0 hts (ns_gp (List.forall_mem_cons.mpr ⟨wm995, (List.forall_mem_cons.mpr ⟨wm721, (List.forall_mem_cons.mpr ⟨wm722, (List.forall_mem_cons.mpr ⟨wm705, (fun _ h9 => nomatch h9)⟩)⟩)⟩)⟩) wm716) rfl rfl rfl (ns_f52 hF) (by decide +kernel) ⟨Nat.le_of_ble_eq_true rfl, Nat.le_of_ble_eq_true rfl⟩) ⟨fun a U gg mk q => by obtain ⟨q0, q1, qP, qK, qD, qF⟩ := q; exact ⟨q0, q1, qP, va_K.moved (u := U) (U := U.calling gg mk a) (Vm.Alike.refl U.vm) qK, qD, ns_same qF⟩, va_recv hK hP (ci := 5) (q0 := 1) rfl rfl, fun U hU hW => ⟨rfl, by rw [hU], by rw [hU]; exact hPc, va_K.moved hW.alike hKc, hDc.weaken (fun _ _ _ _ => trivial), ns_call hF hS hFc hU hW⟩⟩ rfl rfl hl.1 rfl (lv_room (Nat.le_of_ble_eq_true rfl)) dX16_houseTold_11 ⟨Nat.le_of_ble_eq_true rfl, Nat.le_of_ble_eq_true rfl⟩) hS (fun q _ h => hFc q h) hFc (fun r9 u t H1 locs ht hvm hw hB hz1 hk1 hS => ?_)
  obtain rfl := hw.symm
  obtain ⟨hP1, hK1, hD1⟩ := hB
  rw [ht] at hP1
  have hK1 := va_K.moved hvm.symm hK1
  obtain ⟨hP, hD⟩ := va_join (wr := [(h0, .inr (23, [v0, .ref h1, .int 20, .int 60, .ref (g 34), v1, .int 0, .int 0, .int 0]))]) (w1 := [(q1, .inr (5, [.int 0, .int (-1), .int 0, .ref h1])), (h1, .inr (6, [.int 0, v2, .int 0]))]) hP hD [1, 2] [0] rfl rfl (by decide) (by decide) hk1 hFc hP1 hD1
  have hK := (hK.sub (tys' := []) [] rfl).app hK1
  generalize H1 = H at hP hS ⊢
  have hP : va_P (dC, dI) vwCl [(h0, .inr (23, [v0, .ref h1, .int 20, .int 60, .ref (g 34), v1, .int 0, .int 0, .int 0])), (q1, .inr (5, [.int 0, .int (-1), .int 0, .ref h1])), (h1, .inr (6, [.int 0, v2, .int 0]))] H := hP
  have hD : va_D A [(h0, .inr (23, [v0, .ref h1, .int 20, .int 60, .ref (g 34), v1, .int 0, .int 0, .int 0])), (q1, .inr (5, [.int 0, .int (-1), .int 0, .ref h1])), (h1, .inr (6, [.int 0, v2, .int 0]))] := hD
  have hK : va_K (dC, dI) vwCl [] s := hK
  refine W.widen (k := 1) (n := 4) (Nat.le_of_ble_eq_true rfl) (Nat.le_of_ble_eq_true rfl) ?_
  refine lv_if_eq (tgt := 41) hx hb dX16_houseTold_16 (by decide) (fun c2 => ?_) (fun c2 => absurd (by decide) c2)
  refine lv_bipush (v := 8) hx hb dX16_houseTold_41 (by decide) ?_
  refine va_newa (atype := .int) hx hb (hta _ wm15) rfl hK hP hD hS hA (N' := 8) (a0 := (8, .inl (fun _ => 0))) (fun _ => rfl) (by decide) (by decide) (Nat.le_of_ble_eq_true rfl) (Nat.le_of_ble_eq_true rfl) (Nat.le_of_ble_eq_true rfl) dX16_houseTold_43 (fun q3 cyq3 H hK hP hD hS => ?_)
  have hP : va_P (dC, dI) vwCl [(h0, .inr (23, [v0, .ref h1, .int 20, .int 60, .ref (g 34), v1, .int 0, .int 0, .int 0])), (q1, .inr (5, [.int 0, .int (-1), .int 0, .ref h1])), (h1, .inr (6, [.int 0, v2, .int 0])), (q3, .inl (cyq3, 8, .inl (fun _ => 0)))] H := hP
  have hD : va_D A [(h0, .inr (23, [v0, .ref h1, .int 20, .int 60, .ref (g 34), v1, .int 0, .int 0, .int 0])), (q1, .inr (5, [.int 0, .int (-1), .int 0, .ref h1])), (h1, .inr (6, [.int 0, v2, .int 0])), (q3, .inl (cyq3, 8, .inl (fun _ => 0)))] := hD
  have hK : va_K (dC, dI) vwCl [(cyq3, .int)] s := hK
  refine W.widen (k := 2) (n := 12) (Nat.le_of_ble_eq_true rfl) (Nat.le_of_ble_eq_true rfl) ?_
  refine lv_dup hx hb dX16_houseTold_45 rfl ?_
  refine lv_iconst (v := 0) hx hb dX16_houseTold_46 (by decide) ?_
  refine lv_aload_n hx hb dX16_houseTold_47 rfl (lv_at hl 2 rfl) ?_
  refine va_get (D := (dC, dI)) (ci := 23) (v := .ref h1) (C := RX16) (T := TX16) (N := 9) hx hb hta naX16 hown hK hP 0 rfl rfl 1 (by decide) (hta _ wm210) (fun _ h9 => h9) rfl dX16_houseTold_48 ?_
  have hPc := hP.sub (ws' := [(h1, .inr (6, [.int 0, v2, .int 0]))]) [2] rfl
  have hDc := hD.sub (ws' := [(h1, .inr (6, [.int 0, v2, .int 0]))]) [2] (by decide) rfl
  have hKc := hK.sub (tys' := []) [] rfl
  have hFc := va_free (wc := [(h1, .inr (6, [.int 0, v2, .int 0]))]) hD hS hA [2] rfl
  refine va_calli (va_runV (As := []) (rest := [.int 0, .ref q3, .ref q3]) ⟨hx, hb, hml, hown, hts⟩ (kJx4a65c_size_8abf5 l dC dI g H.size h1 (.int 0) v2 ) (cwV 0 hts (ns_gp (List.forall_mem_cons.mpr ⟨wm285, (List.forall_mem_cons.mpr ⟨wm286, (List.forall_mem_cons.mpr ⟨wm287, (List.forall_mem_cons.mpr ⟨wm196, (fun _ h9 => nomatch h9)⟩)⟩)⟩)⟩) wm284) rfl rfl rfl (by decide +kernel) ⟨Nat.le_of_ble_eq_true rfl, Nat.le_of_ble_eq_true rfl⟩) ⟨fun a U gg mk q => by obtain ⟨q0, q1, qP, qK, qD, qF⟩ := q; exact ⟨q0, q1, qP, va_K.moved (u := U) (U := U.calling gg mk a) (Vm.Alike.refl U.vm) qK, qD, ns_same qF⟩, va_recv hK hP (ci := 6) (q0 := 2) rfl rfl, fun U hU hW => ⟨rfl, by rw [hU], by rw [hU]; exact hPc, va_K.moved hW.alike hKc, hDc.weaken (fun _ _ _ _ => trivial), ns_call hF hS hFc hU hW⟩⟩ rfl rfl hl.1 rfl (lv_room (Nat.le_of_ble_eq_true rfl)) dX16_houseTold_51 ⟨Nat.le_of_ble_eq_true rfl, Nat.le_of_ble_eq_true rfl⟩) hS (fun q _ h => hFc q h) hFc (fun r9 u t H1 locs ht hvm hw hB hz1 hk1 hS => ?_)
  obtain rfl := hw.symm
  obtain ⟨hP1, hK1, hD1⟩ := hB
  rw [ht] at hP1
  have hK1 := va_K.moved hvm.symm hK1
  obtain ⟨hP, hD⟩ := va_join (wr := [(h0, .inr (23, [v0, .ref h1, .int 20, .int 60, .ref (g 34), v1, .int 0, .int 0, .int 0])), (q1, .inr (5, [.int 0, .int (-1), .int 0, .ref h1])), (q3, .inl (cyq3, 8, .inl (fun _ => 0)))]) (w1 := [(h1, .inr (6, [.int 0, v2, .int 0]))]) hP hD [2] [0, 1, 3] rfl rfl (by decide) (by decide) hk1 hFc hP1 hD1
  have hK := (hK.sub (tys' := [(cyq3, .int)]) [0] rfl).app hK1
  generalize H1 = H at hP hS ⊢
  have hP : va_P (dC, dI) vwCl [(h0, .inr (23, [v0, .ref h1, .int 20, .int 60, .ref (g 34), v1, .int 0, .int 0, .int 0])), (q1, .inr (5, [.int 0, .int (-1), .int 0, .ref h1])), (q3, .inl (cyq3, 8, .inl (fun _ => 0))), (h1, .inr (6, [.int 0, v2, .int 0]))] H := hP
  have hD : va_D A [(h0, .inr (23, [v0, .ref h1, .int 20, .int 60, .ref (g 34), v1, .int 0, .int 0, .int 0])), (q1, .inr (5, [.int 0, .int (-1), .int 0, .ref h1])), (q3, .inl (cyq3, 8, .inl (fun _ => 0))), (h1, .inr (6, [.int 0, v2, .int 0]))] := hD
  have hK : va_K (dC, dI) vwCl [(cyq3, .int)] s := hK
  refine W.widen (k := 2) (n := 12) (Nat.le_of_ble_eq_true rfl) (Nat.le_of_ble_eq_true rfl) ?_
  refine va_iast hx hb hK hP hD hS 2 0 rfl rfl (vp_in_nI (n := 0) (by decide) (by decide)) dX16_houseTold_54 (fun H locs hP hD hS => ?_)
  have hP : va_P (dC, dI) vwCl [(h0, .inr (23, [v0, .ref h1, .int 20, .int 60, .ref (g 34), v1, .int 0, .int 0, .int 0])), (q1, .inr (5, [.int 0, .int (-1), .int 0, .ref h1])), (q3, .inl (cyq3, 8, .inl (upd (fun _ => 0) 0 0))), (h1, .inr (6, [.int 0, v2, .int 0]))] H := hP
  have hD : va_D A [(h0, .inr (23, [v0, .ref h1, .int 20, .int 60, .ref (g 34), v1, .int 0, .int 0, .int 0])), (q1, .inr (5, [.int 0, .int (-1), .int 0, .ref h1])), (q3, .inl (cyq3, 8, .inl (upd (fun _ => 0) 0 0))), (h1, .inr (6, [.int 0, v2, .int 0]))] := hD
  refine lv_dup hx hb dX16_houseTold_55 rfl ?_
  refine lv_iconst (v := 1) hx hb dX16_houseTold_56 (by decide) ?_
  refine lv_aload_n hx hb dX16_houseTold_57 rfl (lv_at hl 2 rfl) ?_
  refine va_get (D := (dC, dI)) (ci := 23) (v := .int 20) (C := RX16) (T := TX16) (N := 9) hx hb hta naX16 hown hK hP 0 rfl rfl 2 (by decide) (hta _ wm211) (fun _ h9 => h9) rfl dX16_houseTold_58 ?_
  refine va_iast hx hb hK hP hD hS 2 0 rfl rfl (vp_in_nI (n := 1) (by decide) (by decide)) dX16_houseTold_61 (fun H locs hP hD hS => ?_)
  have hP : va_P (dC, dI) vwCl [(h0, .inr (23, [v0, .ref h1, .int 20, .int 60, .ref (g 34), v1, .int 0, .int 0, .int 0])), (q1, .inr (5, [.int 0, .int (-1), .int 0, .ref h1])), (q3, .inl (cyq3, 8, .inl (upd (upd (fun _ => 0) 0 0) 1 20))), (h1, .inr (6, [.int 0, v2, .int 0]))] H := hP
  have hD : va_D A [(h0, .inr (23, [v0, .ref h1, .int 20, .int 60, .ref (g 34), v1, .int 0, .int 0, .int 0])), (q1, .inr (5, [.int 0, .int (-1), .int 0, .ref h1])), (q3, .inl (cyq3, 8, .inl (upd (upd (fun _ => 0) 0 0) 1 20))), (h1, .inr (6, [.int 0, v2, .int 0]))] := hD
  refine lv_dup hx hb dX16_houseTold_62 rfl ?_
  refine lv_iconst (v := 2) hx hb dX16_houseTold_63 (by decide) ?_
  refine lv_aload_n hx hb dX16_houseTold_64 rfl (lv_at hl 2 rfl) ?_
  refine va_get (D := (dC, dI)) (ci := 23) (v := .int 60) (C := RX16) (T := TX16) (N := 9) hx hb hta naX16 hown hK hP 0 rfl rfl 3 (by decide) (hta _ wm212) (fun _ h9 => h9) rfl dX16_houseTold_65 ?_
  refine va_iast hx hb hK hP hD hS 2 0 rfl rfl (vp_in_nI (n := 2) (by decide) (by decide)) dX16_houseTold_68 (fun H locs hP hD hS => ?_)
  have hP : va_P (dC, dI) vwCl [(h0, .inr (23, [v0, .ref h1, .int 20, .int 60, .ref (g 34), v1, .int 0, .int 0, .int 0])), (q1, .inr (5, [.int 0, .int (-1), .int 0, .ref h1])), (q3, .inl (cyq3, 8, .inl (upd (upd (upd (fun _ => 0) 0 0) 1 20) 2 60))), (h1, .inr (6, [.int 0, v2, .int 0]))] H := hP
  have hD : va_D A [(h0, .inr (23, [v0, .ref h1, .int 20, .int 60, .ref (g 34), v1, .int 0, .int 0, .int 0])), (q1, .inr (5, [.int 0, .int (-1), .int 0, .ref h1])), (q3, .inl (cyq3, 8, .inl (upd (upd (upd (fun _ => 0) 0 0) 1 20) 2 60))), (h1, .inr (6, [.int 0, v2, .int 0]))] := hD
  refine lv_dup hx hb dX16_houseTold_69 rfl ?_
  refine lv_iconst (v := 3) hx hb dX16_houseTold_70 (by decide) ?_
  refine lv_aload_n hx hb dX16_houseTold_71 rfl (lv_at hl 2 rfl) ?_
  refine va_get (D := (dC, dI)) (ci := 23) (v := .ref (g 34)) (C := RX16) (T := TX16) (N := 9) hx hb hta naX16 hown hK hP 0 rfl rfl 4 (by decide) (hta _ wm213) (fun _ h9 => h9) rfl dX16_houseTold_72 ?_
  have hPc := hP.sub (ws' := []) [] rfl
  have hDc := hD.sub (ws' := []) [] (by decide) rfl
  have hKc := hK.sub (tys' := []) [] rfl
  have hFc := va_free (wc := []) hD hS hA [] rfl
  refine va_calli (va_runV (As := []) (rest := [.int 3, .ref q3, .ref q3]) ⟨hx, hb, hml, hown, hts⟩ (kJ0_length_8abf5_2 l dC dI g H.size  ) (cwV 0 hts (ns_gp (List.forall_mem_cons.mpr ⟨wm646, (List.forall_mem_cons.mpr ⟨wm595, (List.forall_mem_cons.mpr ⟨wm596, (List.forall_mem_cons.mpr ⟨wm316, (fun _ h9 => nomatch h9)⟩)⟩)⟩)⟩) wm574) rfl rfl rfl (by decide +kernel) ⟨Nat.le_of_ble_eq_true rfl, Nat.le_of_ble_eq_true rfl⟩) ⟨fun a U gg mk q => by obtain ⟨q0, q1, qP, qK, qD, qF⟩ := q; exact ⟨q0, q1, qP, va_K.moved (u := U) (U := U.calling gg mk a) (Vm.Alike.refl U.vm) qK, qD, ns_same qF⟩, va_Orecv (ns_f38 hF) hS, fun U hU hW => ⟨rfl, by rw [hU], by rw [hU]; exact hPc, va_K.moved hW.alike hKc, hDc.weaken (fun _ _ _ _ => trivial), ns_call hF hS hFc hU hW⟩⟩ rfl rfl hl.1 rfl (lv_room (Nat.le_of_ble_eq_true rfl)) dX16_houseTold_75 ⟨Nat.le_of_ble_eq_true rfl, Nat.le_of_ble_eq_true rfl⟩) hS (fun q _ h => hFc q h) hFc (fun r9 u t H1 locs ht hvm hw hB hz1 hk1 hS => ?_)
  obtain rfl := hw.symm
  obtain ⟨hP1, hK1, hD1⟩ := hB
  rw [ht] at hP1
  have hK1 := va_K.moved hvm.symm hK1
  obtain ⟨hP, hD⟩ := va_join (wr := [(h0, .inr (23, [v0, .ref h1, .int 20, .int 60, .ref (g 34), v1, .int 0, .int 0, .int 0])), (q1, .inr (5, [.int 0, .int (-1), .int 0, .ref h1])), (q3, .inl (cyq3, 8, .inl (upd (upd (upd (fun _ => 0) 0 0) 1 20) 2 60))), (h1, .inr (6, [.int 0, v2, .int 0]))]) (w1 := []) hP hD [] [0, 1, 2, 3] rfl rfl (by decide) (by decide) hk1 hFc hP1 hD1
  have hK := (hK.sub (tys' := [(cyq3, .int)]) [0] rfl).app hK1
  generalize H1 = H at hP hS ⊢
  have hP : va_P (dC, dI) vwCl [(h0, .inr (23, [v0, .ref h1, .int 20, .int 60, .ref (g 34), v1, .int 0, .int 0, .int 0])), (q1, .inr (5, [.int 0, .int (-1), .int 0, .ref h1])), (q3, .inl (cyq3, 8, .inl (upd (upd (upd (fun _ => 0) 0 0) 1 20) 2 60))), (h1, .inr (6, [.int 0, v2, .int 0]))] H := hP
  have hD : va_D A [(h0, .inr (23, [v0, .ref h1, .int 20, .int 60, .ref (g 34), v1, .int 0, .int 0, .int 0])), (q1, .inr (5, [.int 0, .int (-1), .int 0, .ref h1])), (q3, .inl (cyq3, 8, .inl (upd (upd (upd (fun _ => 0) 0 0) 1 20) 2 60))), (h1, .inr (6, [.int 0, v2, .int 0]))] := hD
  have hK : va_K (dC, dI) vwCl [(cyq3, .int)] s := hK
  refine W.widen (k := 2) (n := 12) (Nat.le_of_ble_eq_true rfl) (Nat.le_of_ble_eq_true rfl) ?_
  refine va_iast hx hb hK hP hD hS 2 0 rfl rfl (vp_in_nI (n := 3) (by decide) (by decide)) dX16_houseTold_78 (fun H locs hP hD hS => ?_)
  have hP : va_P (dC, dI) vwCl [(h0, .inr (23, [v0, .ref h1, .int 20, .int 60, .ref (g 34), v1, .int 0, .int 0, .int 0])), (q1, .inr (5, [.int 0, .int (-1), .int 0, .ref h1])), (q3, .inl (cyq3, 8, .inl (upd (upd (upd (upd (fun _ => 0) 0 0) 1 20) 2 60) 3 0))), (h1, .inr (6, [.int 0, v2, .int 0]))] H := hP
  have hD : va_D A [(h0, .inr (23, [v0, .ref h1, .int 20, .int 60, .ref (g 34), v1, .int 0, .int 0, .int 0])), (q1, .inr (5, [.int 0, .int (-1), .int 0, .ref h1])), (q3, .inl (cyq3, 8, .inl (upd (upd (upd (upd (fun _ => 0) 0 0) 1 20) 2 60) 3 0))), (h1, .inr (6, [.int 0, v2, .int 0]))] := hD
  refine lv_dup hx hb dX16_houseTold_79 rfl ?_
  refine lv_iconst (v := 4) hx hb dX16_houseTold_80 (by decide) ?_
  refine lv_aload_n hx hb dX16_houseTold_81 rfl (lv_at hl 2 rfl) ?_
  refine va_get (D := (dC, dI)) (ci := 23) (v := .int 0) (C := RX16) (T := TX16) (N := 9) hx hb hta naX16 hown hK hP 0 rfl rfl 6 (by decide) (hta _ wm791) (fun _ h9 => h9) rfl dX16_houseTold_82 ?_
  refine va_iast hx hb hK hP hD hS 2 0 rfl rfl (vp_in_nI (n := 4) (by decide) (by decide)) dX16_houseTold_85 (fun H locs hP hD hS => ?_)
  have hP : va_P (dC, dI) vwCl [(h0, .inr (23, [v0, .ref h1, .int 20, .int 60, .ref (g 34), v1, .int 0, .int 0, .int 0])), (q1, .inr (5, [.int 0, .int (-1), .int 0, .ref h1])), (q3, .inl (cyq3, 8, .inl (upd (upd (upd (upd (upd (fun _ => 0) 0 0) 1 20) 2 60) 3 0) 4 0))), (h1, .inr (6, [.int 0, v2, .int 0]))] H := hP
  have hD : va_D A [(h0, .inr (23, [v0, .ref h1, .int 20, .int 60, .ref (g 34), v1, .int 0, .int 0, .int 0])), (q1, .inr (5, [.int 0, .int (-1), .int 0, .ref h1])), (q3, .inl (cyq3, 8, .inl (upd (upd (upd (upd (upd (fun _ => 0) 0 0) 1 20) 2 60) 3 0) 4 0))), (h1, .inr (6, [.int 0, v2, .int 0]))] := hD
  refine lv_dup hx hb dX16_houseTold_86 rfl ?_
  refine lv_iconst (v := 5) hx hb dX16_houseTold_87 (by decide) ?_
  refine lv_aload_n hx hb dX16_houseTold_88 rfl (lv_at hl 2 rfl) ?_
  refine va_get (D := (dC, dI)) (ci := 23) (v := .int 0) (C := RX16) (T := TX16) (N := 9) hx hb hta naX16 hown hK hP 0 rfl rfl 7 (by decide) (hta _ wm800) (fun _ h9 => h9) rfl dX16_houseTold_89 ?_
  refine va_iast hx hb hK hP hD hS 2 0 rfl rfl (vp_in_nI (n := 5) (by decide) (by decide)) dX16_houseTold_92 (fun H locs hP hD hS => ?_)
  have hP : va_P (dC, dI) vwCl [(h0, .inr (23, [v0, .ref h1, .int 20, .int 60, .ref (g 34), v1, .int 0, .int 0, .int 0])), (q1, .inr (5, [.int 0, .int (-1), .int 0, .ref h1])), (q3, .inl (cyq3, 8, .inl (upd (upd (upd (upd (upd (upd (fun _ => 0) 0 0) 1 20) 2 60) 3 0) 4 0) 5 0))), (h1, .inr (6, [.int 0, v2, .int 0]))] H := hP
  have hD : va_D A [(h0, .inr (23, [v0, .ref h1, .int 20, .int 60, .ref (g 34), v1, .int 0, .int 0, .int 0])), (q1, .inr (5, [.int 0, .int (-1), .int 0, .ref h1])), (q3, .inl (cyq3, 8, .inl (upd (upd (upd (upd (upd (upd (fun _ => 0) 0 0) 1 20) 2 60) 3 0) 4 0) 5 0))), (h1, .inr (6, [.int 0, v2, .int 0]))] := hD
  refine lv_dup hx hb dX16_houseTold_93 rfl ?_
  refine lv_bipush (v := 6) hx hb dX16_houseTold_94 (by decide) ?_
  refine lv_aload_n hx hb dX16_houseTold_96 rfl (lv_at hl 2 rfl) ?_
  refine va_get (D := (dC, dI)) (ci := 23) (v := .int 0) (C := RX16) (T := TX16) (N := 9) hx hb hta naX16 hown hK hP 0 rfl rfl 8 (by decide) (hta _ wm388) (fun _ h9 => h9) rfl dX16_houseTold_97 ?_
  refine va_iast hx hb hK hP hD hS 2 0 rfl rfl (vp_in_nI (n := 6) (by decide) (by decide)) dX16_houseTold_100 (fun H locs hP hD hS => ?_)
  have hP : va_P (dC, dI) vwCl [(h0, .inr (23, [v0, .ref h1, .int 20, .int 60, .ref (g 34), v1, .int 0, .int 0, .int 0])), (q1, .inr (5, [.int 0, .int (-1), .int 0, .ref h1])), (q3, .inl (cyq3, 8, .inl (upd (upd (upd (upd (upd (upd (upd (fun _ => 0) 0 0) 1 20) 2 60) 3 0) 4 0) 5 0) 6 0))), (h1, .inr (6, [.int 0, v2, .int 0]))] H := hP
  have hD : va_D A [(h0, .inr (23, [v0, .ref h1, .int 20, .int 60, .ref (g 34), v1, .int 0, .int 0, .int 0])), (q1, .inr (5, [.int 0, .int (-1), .int 0, .ref h1])), (q3, .inl (cyq3, 8, .inl (upd (upd (upd (upd (upd (upd (upd (fun _ => 0) 0 0) 1 20) 2 60) 3 0) 4 0) 5 0) 6 0))), (h1, .inr (6, [.int 0, v2, .int 0]))] := hD
  refine lv_dup hx hb dX16_houseTold_101 rfl ?_
  refine lv_bipush (v := 7) hx hb dX16_houseTold_102 (by decide) ?_
  refine lv_iload_n hx hb dX16_houseTold_104 rfl (lv_at hl 1 rfl) ?_
  refine va_iast hx hb hK hP hD hS 2 0 rfl rfl (vp_in_nI (n := 7) (by decide) (by decide)) dX16_houseTold_105 (fun H locs hP hD hS => ?_)
  have hP : va_P (dC, dI) vwCl [(h0, .inr (23, [v0, .ref h1, .int 20, .int 60, .ref (g 34), v1, .int 0, .int 0, .int 0])), (q1, .inr (5, [.int 0, .int (-1), .int 0, .ref h1])), (q3, .inl (cyq3, 8, .inl (upd (upd (upd (upd (upd (upd (upd (upd (fun _ => 0) 0 0) 1 20) 2 60) 3 0) 4 0) 5 0) 6 0) 7 0))), (h1, .inr (6, [.int 0, v2, .int 0]))] H := hP
  have hD : va_D A [(h0, .inr (23, [v0, .ref h1, .int 20, .int 60, .ref (g 34), v1, .int 0, .int 0, .int 0])), (q1, .inr (5, [.int 0, .int (-1), .int 0, .ref h1])), (q3, .inl (cyq3, 8, .inl (upd (upd (upd (upd (upd (upd (upd (upd (fun _ => 0) 0 0) 1 20) 2 60) 3 0) 4 0) 5 0) 6 0) 7 0))), (h1, .inr (6, [.int 0, v2, .int 0]))] := hD
  refine lv_astore_n (lv' := [(3, .ref q3), (2, .int 0), (0, .ref h0), (1, .int 1)]) hx hb dX16_houseTold_106 rfl hl (by decide) rfl (fun ls hl => ?_)
  refine lv_aload_n hx hb dX16_houseTold_107 rfl (lv_at hl 0 rfl) ?_
  refine lv_iload_n hx hb dX16_houseTold_108 rfl (lv_at hl 3 rfl) ?_
  refine va_iald hx hb hK hP 2 0 rfl rfl (vp_in_nI (n := 1) (by decide) (by decide)) dX16_houseTold_109 ?_
  refine lv_topi (fun y4 ey4 => ?_)
  obtain rfl : 20 = y4 := ey4.symm
  have hP9 := hP.sub (ws' := [(h0, .inr (23, [v0, .ref h1, .int 20, .int 60, .ref (g 34), v1, .int 0, .int 0, .int 0])), (q1, .inr (5, [.int 0, .int (-1), .int 0, .ref h1])), (q3, .inl (cyq3, 8, .inl (upd (upd (upd (upd (upd (upd (upd (upd (fun _ => 0) 0 0) 1 20) 2 60) 3 0) 4 0) 5 0) 6 0) 7 0))), (h1, .inr (6, [.int 0, v2, .int 0]))]) [0, 1, 2, 3] rfl
  have hD9 := hD.sub (ws' := [(h0, .inr (23, [v0, .ref h1, .int 20, .int 60, .ref (g 34), v1, .int 0, .int 0, .int 0])), (q1, .inr (5, [.int 0, .int (-1), .int 0, .ref h1])), (q3, .inl (cyq3, 8, .inl (upd (upd (upd (upd (upd (upd (upd (upd (fun _ => 0) 0 0) 1 20) 2 60) 3 0) 4 0) 5 0) 6 0) 7 0))), (h1, .inr (6, [.int 0, v2, .int 0]))]) [0, 1, 2, 3] (by decide) rfl
  have hK9 := hK.sub (tys' := [(cyq3, .int)]) [0] rfl
  refine W.widen (k := 2) (n := 12) (Nat.le_of_ble_eq_true rfl) (Nat.le_of_ble_eq_true rfl) ?_
  exact W.iret (v := 20) hx hb hr (fun t ht hW => ⟨⟨_, (), rfl, rfl, q1, q3, cyq3, by rw [ht]; exact hP9, va_K.moved hW.alike hK9, hD9⟩, hS.F ht⟩) hS.2.2 dX16_houseTold_110
set_option maxHeartbeats 4000000 in
set_option maxRecDepth 100000 in
theorem kX16_houseTold_4 (l : Launch) (dC : Nat → ClassId) (dI : Nat → Nat → Nat) (g : Nat → Nat) (sz : Nat) (h0 : Nat) (h1 : Nat) (v0 : Value) (v1 : Value) (v2 : Value) : Met l yX16_houseTold wbX16_houseTold ({ frames := 3, cells := 2, slots := 12, locals := 53 }) (va_Pc [.ref h0, .int 3] (fun U => U.heap.size = sz ∧ va_P (dC, dI) vwCl [(h0, .inr (23, [v0, .ref h1, .int 20, .int 60, .ref (g 34), v1, .int 0, .int 0, .int 0])), (h1, .inr (6, [.int 0, v2, .int 0]))] U.heap ∧ va_K (dC, dI) vwCl [] U ∧ va_D (fun _ => True) [(h0, .inr (23, [v0, .ref h1, .int 20, .int 60, .ref (g 34), v1, .int 0, .int 0, .int 0])), (h1, .inr (6, [.int 0, v2, .int 0]))] ∧ ns_F g (va_A [(h0, .inr (23, [v0, .ref h1, .int 20, .int 60, .ref (g 34), v1, .int 0, .int 0, .int 0])), (h1, .inr (6, [.int 0, v2, .int 0]))] sz) U U.heap)) (va_Qi (fun (r : Int32) (_ : Unit) => r = 0) (fun _ t => ∃ k0 : Nat, ∃ k1 : Nat, ∃ kc2 : ClassId, va_P (dC, dI) vwCl [(h0, .inr (23, [v0, .ref h1, .int 20, .int 60, .ref (g 34), v1, .int 0, .int 0, .int 0])), (k0, .inr (5, [.int 0, .int (-1), .int 0, .ref h1])), (k1, .inl (kc2, 8, .inl (upd (upd (upd (upd (upd (upd (upd (upd (fun _ => 0) 0 0) 1 20) 2 60) 3 0) 4 0) 5 0) 6 0) 7 0))), (h1, .inr (6, [.int 0, v2, .int 0]))] t.heap ∧ va_K (dC, dI) vwCl [(kc2, .int)] t ∧ va_D (va_A [(h0, .inr (23, [v0, .ref h1, .int 20, .int 60, .ref (g 34), v1, .int 0, .int 0, .int 0])), (h1, .inr (6, [.int 0, v2, .int 0]))] sz) [(h0, .inr (23, [v0, .ref h1, .int 20, .int 60, .ref (g 34), v1, .int 0, .int 0, .int 0])), (k0, .inr (5, [.int 0, .int (-1), .int 0, .ref h1])), (k1, .inl (kc2, 8, .inl (upd (upd (upd (upd (upd (upd (upd (upd (fun _ => 0) 0 0) 1 20) 2 60) 3 0) 4 0) 5 0) 6 0) 7 0))), (h1, .inr (6, [.int 0, v2, .int 0]))]) (va_A [(h0, .inr (23, [v0, .ref h1, .int 20, .int 60, .ref (g 34), v1, .int 0, .int 0, .int 0])), (h1, .inr (6, [.int 0, v2, .int 0]))] sz)) 2 12 (va_A [(h0, .inr (23, [v0, .ref h1, .int 20, .int 60, .ref (g 34), v1, .int 0, .int 0, .int 0])), (h1, .inr (6, [.int 0, v2, .int 0]))] sz) := by
  refine Met.ofW (cc := cX16_houseTold) (maxL := 5) (ret := (some .int)) (by decide) rfl ?_
  intro p e s m args below meth c s₁ B hml hv
  obtain ⟨rfl, hsz, hP, hK, hD0, hF⟩ := hv
  have hx := B.exec
  have hb := B.bytes
  have hr := B.returns
  have hts := atoms_spec (ws := wbX16_houseTold) B.pre
  have hta : ∀ w ∈ wsALL, w.before _ s = true := fun w h => hts w (List.mem_cons_of_mem _ h)
  have hown : s.vm.findClass RX16 = some m.cls := findClass_of_methodNamed B.named
  have hlocks := B.notSynchronized
  subst hsz
  have hD := hD0.self (sz := s.heap.size)
  generalize hAe : va_A [(h0, .inr (23, [v0, .ref h1, .int 20, .int 60, .ref (g 34), v1, .int 0, .int 0, .int 0])), (h1, .inr (6, [.int 0, v2, .int 0]))] s.heap.size = A at hD hF ⊢
  have hA : ∀ q : Nat, s.heap.size ≤ q → A q := fun q h => by rw [← hAe]; exact Or.inr h
  have hS : va_S A s.heap s.heap [] := va_S.rf
  have hP : va_P (dC, dI) vwCl [(h0, .inr (23, [v0, .ref h1, .int 20, .int 60, .ref (g 34), v1, .int 0, .int 0, .int 0])), (h1, .inr (6, [.int 0, v2, .int 0]))] s.heap := hP
  have hl := lv_entry ([.ref h0, .int 3]) (n := 5) (Nat.le_of_ble_eq_true rfl)
  rw [lg_entry_eq]
  generalize (lg_sl ([.ref h0, .int 3]) ++ List.replicate (5 - (lg_sl ([.ref h0, .int 3])).length) Slot.unset).toArray = ls at hl ⊢
  have hl : lv_has ls 5 [(0, .ref h0), (1, .int 3)] := hl
  refine lv_iconst (v := 0) hx hb dX16_houseTold_0 (by decide) ?_
  refine lv_istore_n (lv' := [(2, .int 0), (0, .ref h0), (1, .int 3)]) hx hb dX16_houseTold_1 rfl hl (by decide) rfl (fun ls hl => ?_)
  refine lv_aload_n hx hb dX16_houseTold_2 rfl (lv_at hl 1 rfl) ?_
  refine va_get (D := (dC, dI)) (ci := 23) (v := .ref h1) (C := RX16) (T := TX16) (N := 9) hx hb hta naX16 hown hK hP 0 rfl rfl 1 (by decide) (hta _ wm210) (fun _ h9 => h9) rfl dX16_houseTold_3 ?_
  have hPc := hP.sub (ws' := [(h1, .inr (6, [.int 0, v2, .int 0]))]) [1] rfl
  have hDc := hD.sub (ws' := [(h1, .inr (6, [.int 0, v2, .int 0]))]) [1] (by decide) rfl
  have hKc := hK.sub (tys' := []) [] rfl
  have hFc := va_free (wc := [(h1, .inr (6, [.int 0, v2, .int 0]))]) hD hS hA [1] rfl
  refine va_callr (va_runV (As := []) (rest := []) ⟨hx, hb, hml, hown, hts⟩ (kJx4a65c_iterator_32c93 l dC dI g s.heap.size h1 v2 (.int 0) ) (cwV 0 hts (ns_gp (List.forall_mem_cons.mpr ⟨wm994, (List.forall_mem_cons.mpr ⟨wm718, (List.forall_mem_cons.mpr ⟨wm719, (List.forall_mem_cons.mpr ⟨wm196, (fun _ h9 => nomatch h9)⟩)⟩)⟩)⟩) wm714) rfl rfl rfl (by decide +kernel) ⟨Nat.le_of_ble_eq_true rfl, Nat.le_of_ble_eq_true rfl⟩) ⟨fun a U gg mk q => by obtain ⟨q0, q1, qP, qK, qD, qF⟩ := q; exact ⟨q0, q1, qP, va_K.moved (u := U) (U := U.calling gg mk a) (Vm.Alike.refl U.vm) qK, qD, ns_same qF⟩, va_recv hK hP (ci := 6) (q0 := 1) rfl rfl, fun U hU hW => ⟨rfl, by rw [hU], by rw [hU]; exact hPc, va_K.moved hW.alike hKc, hDc.weaken (fun _ _ _ _ => trivial), ns_call hF hS hFc hU hW⟩⟩ rfl rfl hl.1 rfl (lv_room (Nat.le_of_ble_eq_true rfl)) dX16_houseTold_6 ⟨Nat.le_of_ble_eq_true rfl, Nat.le_of_ble_eq_true rfl⟩) hS (fun q _ h => hFc q h) hFc (fun u r9 t H1 locs ht hvm hw hB hz1 hk1 hS => ?_)
  obtain ⟨q1, hr9, hP1, hK1, hD1⟩ := hB
  obtain rfl := hr9.symm
  rw [ht] at hP1
  have hK1 := va_K.moved hvm.symm hK1
  obtain ⟨hP, hD⟩ := va_join (wr := [(h0, .inr (23, [v0, .ref h1, .int 20, .int 60, .ref (g 34), v1, .int 0, .int 0, .int 0]))]) (w1 := [(q1, .inr (5, [.int 0, .int (-1), .int 0, .ref h1])), (h1, .inr (6, [.int 0, v2, .int 0]))]) hP hD [1] [0] rfl rfl (by decide) (by decide) hk1 hFc hP1 hD1
  have hK := (hK.sub (tys' := []) [] rfl).app hK1
  generalize H1 = H at hP hS ⊢
  have hP : va_P (dC, dI) vwCl [(h0, .inr (23, [v0, .ref h1, .int 20, .int 60, .ref (g 34), v1, .int 0, .int 0, .int 0])), (q1, .inr (5, [.int 0, .int (-1), .int 0, .ref h1])), (h1, .inr (6, [.int 0, v2, .int 0]))] H := hP
  have hD : va_D A [(h0, .inr (23, [v0, .ref h1, .int 20, .int 60, .ref (g 34), v1, .int 0, .int 0, .int 0])), (q1, .inr (5, [.int 0, .int (-1), .int 0, .ref h1])), (h1, .inr (6, [.int 0, v2, .int 0]))] := hD
  have hK : va_K (dC, dI) vwCl [] s := hK
  refine W.widen (k := 1) (n := 4) (Nat.le_of_ble_eq_true rfl) (Nat.le_of_ble_eq_true rfl) ?_
  refine lv_astore_n (lv' := [(3, .ref q1), (2, .int 0), (0, .ref h0), (1, .int 3)]) hx hb dX16_houseTold_9 rfl hl (by decide) rfl (fun ls hl => ?_)
  refine lv_aload_n hx hb dX16_houseTold_10 rfl (lv_at hl 0 rfl) ?_
  have hPc := hP.sub (ws' := [(q1, .inr (5, [.int 0, .int (-1), .int 0, .ref h1])), (h1, .inr (6, [.int 0, v2, .int 0]))]) [1, 2] rfl
  have hDc := hD.sub (ws' := [(q1, .inr (5, [.int 0, .int (-1), .int 0, .ref h1])), (h1, .inr (6, [.int 0, v2, .int 0]))]) [1, 2] (by decide) rfl
  have hKc := hK.sub (tys' := []) [] rfl
  have hFc := va_free (wc := [(q1, .inr (5, [.int 0, .int (-1), .int 0, .ref h1])), (h1, .inr (6, [.int 0, v2, .int 0]))]) hD hS hA [1, 2] rfl
  refine va_callFi (va_runF (hK.1 5 _ rfl).2 (As := []) (rest := []) ⟨hx, hb, hml, hown, hts⟩ (kJx35411_hasNext_aae02 l dC dI g H.size q1 h1 (.int (-1)) (.int 0) (.int 0) v2 ) (va_cwF 0 hts (ns_gp (List.forall_mem_cons.mpr ⟨wm995, (List.forall_mem_cons.mpr ⟨wm721, (List.forall_mem_cons.mpr ⟨wm722, (List.forall_mem_cons.mpr ⟨wm705, (fun _ h9 => nomatch h9)⟩)⟩)⟩)⟩) wm716) rfl rfl rfl (ns_f52 hF) (by decide +kernel) ⟨Nat.le_of_ble_eq_true rfl, Nat.le_of_ble_eq_true rfl⟩) ⟨fun a U gg mk q => by obtain ⟨q0, q1, qP, qK, qD, qF⟩ := q; exact ⟨q0, q1, qP, va_K.moved (u := U) (U := U.calling gg mk a) (Vm.Alike.refl U.vm) qK, qD, ns_same qF⟩, va_recv hK hP (ci := 5) (q0 := 1) rfl rfl, fun U hU hW => ⟨rfl, by rw [hU], by rw [hU]; exact hPc, va_K.moved hW.alike hKc, hDc.weaken (fun _ _ _ _ => trivial), ns_call hF hS hFc hU hW⟩⟩ rfl rfl hl.1 rfl (lv_room (Nat.le_of_ble_eq_true rfl)) dX16_houseTold_11 ⟨Nat.le_of_ble_eq_true rfl, Nat.le_of_ble_eq_true rfl⟩) hS (fun q _ h => hFc q h) hFc (fun r9 u t H1 locs ht hvm hw hB hz1 hk1 hS => ?_)
  obtain rfl := hw.symm
  obtain ⟨hP1, hK1, hD1⟩ := hB
  rw [ht] at hP1
  have hK1 := va_K.moved hvm.symm hK1
  obtain ⟨hP, hD⟩ := va_join (wr := [(h0, .inr (23, [v0, .ref h1, .int 20, .int 60, .ref (g 34), v1, .int 0, .int 0, .int 0]))]) (w1 := [(q1, .inr (5, [.int 0, .int (-1), .int 0, .ref h1])), (h1, .inr (6, [.int 0, v2, .int 0]))]) hP hD [1, 2] [0] rfl rfl (by decide) (by decide) hk1 hFc hP1 hD1
  have hK := (hK.sub (tys' := []) [] rfl).app hK1
  generalize H1 = H at hP hS ⊢
  have hP : va_P (dC, dI) vwCl [(h0, .inr (23, [v0, .ref h1, .int 20, .int 60, .ref (g 34), v1, .int 0, .int 0, .int 0])), (q1, .inr (5, [.int 0, .int (-1), .int 0, .ref h1])), (h1, .inr (6, [.int 0, v2, .int 0]))] H := hP
  have hD : va_D A [(h0, .inr (23, [v0, .ref h1, .int 20, .int 60, .ref (g 34), v1, .int 0, .int 0, .int 0])), (q1, .inr (5, [.int 0, .int (-1), .int 0, .ref h1])), (h1, .inr (6, [.int 0, v2, .int 0]))] := hD
  have hK : va_K (dC, dI) vwCl [] s := hK
  refine W.widen (k := 1) (n := 4) (Nat.le_of_ble_eq_true rfl) (Nat.le_of_ble_eq_true rfl) ?_
  refine lv_if_eq (tgt := 41) hx hb dX16_houseTold_16 (by decide) (fun c2 => ?_) (fun c2 => absurd (by decide) c2)
  refine lv_bipush (v := 8) hx hb dX16_houseTold_41 (by decide) ?_
  refine va_newa (atype := .int) hx hb (hta _ wm15) rfl hK hP hD hS hA (N' := 8) (a0 := (8, .inl (fun _ => 0))) (fun _ => rfl) (by decide) (by decide) (Nat.le_of_ble_eq_true rfl) (Nat.le_of_ble_eq_true rfl) (Nat.le_of_ble_eq_true rfl) dX16_houseTold_43 (fun q3 cyq3 H hK hP hD hS => ?_)
  have hP : va_P (dC, dI) vwCl [(h0, .inr (23, [v0, .ref h1, .int 20, .int 60, .ref (g 34), v1, .int 0, .int 0, .int 0])), (q1, .inr (5, [.int 0, .int (-1), .int 0, .ref h1])), (h1, .inr (6, [.int 0, v2, .int 0])), (q3, .inl (cyq3, 8, .inl (fun _ => 0)))] H := hP
  have hD : va_D A [(h0, .inr (23, [v0, .ref h1, .int 20, .int 60, .ref (g 34), v1, .int 0, .int 0, .int 0])), (q1, .inr (5, [.int 0, .int (-1), .int 0, .ref h1])), (h1, .inr (6, [.int 0, v2, .int 0])), (q3, .inl (cyq3, 8, .inl (fun _ => 0)))] := hD
  have hK : va_K (dC, dI) vwCl [(cyq3, .int)] s := hK
  refine W.widen (k := 2) (n := 12) (Nat.le_of_ble_eq_true rfl) (Nat.le_of_ble_eq_true rfl) ?_
  refine lv_dup hx hb dX16_houseTold_45 rfl ?_
  refine lv_iconst (v := 0) hx hb dX16_houseTold_46 (by decide) ?_
  refine lv_aload_n hx hb dX16_houseTold_47 rfl (lv_at hl 2 rfl) ?_
  refine va_get (D := (dC, dI)) (ci := 23) (v := .ref h1) (C := RX16) (T := TX16) (N := 9) hx hb hta naX16 hown hK hP 0 rfl rfl 1 (by decide) (hta _ wm210) (fun _ h9 => h9) rfl dX16_houseTold_48 ?_
  have hPc := hP.sub (ws' := [(h1, .inr (6, [.int 0, v2, .int 0]))]) [2] rfl
  have hDc := hD.sub (ws' := [(h1, .inr (6, [.int 0, v2, .int 0]))]) [2] (by decide) rfl
  have hKc := hK.sub (tys' := []) [] rfl
  have hFc := va_free (wc := [(h1, .inr (6, [.int 0, v2, .int 0]))]) hD hS hA [2] rfl
  refine va_calli (va_runV (As := []) (rest := [.int 0, .ref q3, .ref q3]) ⟨hx, hb, hml, hown, hts⟩ (kJx4a65c_size_8abf5 l dC dI g H.size h1 (.int 0) v2 ) (cwV 0 hts (ns_gp (List.forall_mem_cons.mpr ⟨wm285, (List.forall_mem_cons.mpr ⟨wm286, (List.forall_mem_cons.mpr ⟨wm287, (List.forall_mem_cons.mpr ⟨wm196, (fun _ h9 => nomatch h9)⟩)⟩)⟩)⟩) wm284) rfl rfl rfl (by decide +kernel) ⟨Nat.le_of_ble_eq_true rfl, Nat.le_of_ble_eq_true rfl⟩) ⟨fun a U gg mk q => by obtain ⟨q0, q1, qP, qK, qD, qF⟩ := q; exact ⟨q0, q1, qP, va_K.moved (u := U) (U := U.calling gg mk a) (Vm.Alike.refl U.vm) qK, qD, ns_same qF⟩, va_recv hK hP (ci := 6) (q0 := 2) rfl rfl, fun U hU hW => ⟨rfl, by rw [hU], by rw [hU]; exact hPc, va_K.moved hW.alike hKc, hDc.weaken (fun _ _ _ _ => trivial), ns_call hF hS hFc hU hW⟩⟩ rfl rfl hl.1 rfl (lv_room (Nat.le_of_ble_eq_true rfl)) dX16_houseTold_51 ⟨Nat.le_of_ble_eq_true rfl, Nat.le_of_ble_eq_true rfl⟩) hS (fun q _ h => hFc q h) hFc (fun r9 u t H1 locs ht hvm hw hB hz1 hk1 hS => ?_)
  obtain rfl := hw.symm
  obtain ⟨hP1, hK1, hD1⟩ := hB
  rw [ht] at hP1
  have hK1 := va_K.moved hvm.symm hK1
  obtain ⟨hP, hD⟩ := va_join (wr := [(h0, .inr (23, [v0, .ref h1, .int 20, .int 60, .ref (g 34), v1, .int 0, .int 0, .int 0])), (q1, .inr (5, [.int 0, .int (-1), .int 0, .ref h1])), (q3, .inl (cyq3, 8, .inl (fun _ => 0)))]) (w1 := [(h1, .inr (6, [.int 0, v2, .int 0]))]) hP hD [2] [0, 1, 3] rfl rfl (by decide) (by decide) hk1 hFc hP1 hD1
  have hK := (hK.sub (tys' := [(cyq3, .int)]) [0] rfl).app hK1
  generalize H1 = H at hP hS ⊢
  have hP : va_P (dC, dI) vwCl [(h0, .inr (23, [v0, .ref h1, .int 20, .int 60, .ref (g 34), v1, .int 0, .int 0, .int 0])), (q1, .inr (5, [.int 0, .int (-1), .int 0, .ref h1])), (q3, .inl (cyq3, 8, .inl (fun _ => 0))), (h1, .inr (6, [.int 0, v2, .int 0]))] H := hP
  have hD : va_D A [(h0, .inr (23, [v0, .ref h1, .int 20, .int 60, .ref (g 34), v1, .int 0, .int 0, .int 0])), (q1, .inr (5, [.int 0, .int (-1), .int 0, .ref h1])), (q3, .inl (cyq3, 8, .inl (fun _ => 0))), (h1, .inr (6, [.int 0, v2, .int 0]))] := hD
  have hK : va_K (dC, dI) vwCl [(cyq3, .int)] s := hK
  refine W.widen (k := 2) (n := 12) (Nat.le_of_ble_eq_true rfl) (Nat.le_of_ble_eq_true rfl) ?_
  refine va_iast hx hb hK hP hD hS 2 0 rfl rfl (vp_in_nI (n := 0) (by decide) (by decide)) dX16_houseTold_54 (fun H locs hP hD hS => ?_)
  have hP : va_P (dC, dI) vwCl [(h0, .inr (23, [v0, .ref h1, .int 20, .int 60, .ref (g 34), v1, .int 0, .int 0, .int 0])), (q1, .inr (5, [.int 0, .int (-1), .int 0, .ref h1])), (q3, .inl (cyq3, 8, .inl (upd (fun _ => 0) 0 0))), (h1, .inr (6, [.int 0, v2, .int 0]))] H := hP
  have hD : va_D A [(h0, .inr (23, [v0, .ref h1, .int 20, .int 60, .ref (g 34), v1, .int 0, .int 0, .int 0])), (q1, .inr (5, [.int 0, .int (-1), .int 0, .ref h1])), (q3, .inl (cyq3, 8, .inl (upd (fun _ => 0) 0 0))), (h1, .inr (6, [.int 0, v2, .int 0]))] := hD
  refine lv_dup hx hb dX16_houseTold_55 rfl ?_
  refine lv_iconst (v := 1) hx hb dX16_houseTold_56 (by decide) ?_
  refine lv_aload_n hx hb dX16_houseTold_57 rfl (lv_at hl 2 rfl) ?_
  refine va_get (D := (dC, dI)) (ci := 23) (v := .int 20) (C := RX16) (T := TX16) (N := 9) hx hb hta naX16 hown hK hP 0 rfl rfl 2 (by decide) (hta _ wm211) (fun _ h9 => h9) rfl dX16_houseTold_58 ?_
  refine va_iast hx hb hK hP hD hS 2 0 rfl rfl (vp_in_nI (n := 1) (by decide) (by decide)) dX16_houseTold_61 (fun H locs hP hD hS => ?_)
  have hP : va_P (dC, dI) vwCl [(h0, .inr (23, [v0, .ref h1, .int 20, .int 60, .ref (g 34), v1, .int 0, .int 0, .int 0])), (q1, .inr (5, [.int 0, .int (-1), .int 0, .ref h1])), (q3, .inl (cyq3, 8, .inl (upd (upd (fun _ => 0) 0 0) 1 20))), (h1, .inr (6, [.int 0, v2, .int 0]))] H := hP
  have hD : va_D A [(h0, .inr (23, [v0, .ref h1, .int 20, .int 60, .ref (g 34), v1, .int 0, .int 0, .int 0])), (q1, .inr (5, [.int 0, .int (-1), .int 0, .ref h1])), (q3, .inl (cyq3, 8, .inl (upd (upd (fun _ => 0) 0 0) 1 20))), (h1, .inr (6, [.int 0, v2, .int 0]))] := hD
  refine lv_dup hx hb dX16_houseTold_62 rfl ?_
  refine lv_iconst (v := 2) hx hb dX16_houseTold_63 (by decide) ?_
  refine lv_aload_n hx hb dX16_houseTold_64 rfl (lv_at hl 2 rfl) ?_
  refine va_get (D := (dC, dI)) (ci := 23) (v := .int 60) (C := RX16) (T := TX16) (N := 9) hx hb hta naX16 hown hK hP 0 rfl rfl 3 (by decide) (hta _ wm212) (fun _ h9 => h9) rfl dX16_houseTold_65 ?_
  refine va_iast hx hb hK hP hD hS 2 0 rfl rfl (vp_in_nI (n := 2) (by decide) (by decide)) dX16_houseTold_68 (fun H locs hP hD hS => ?_)
  have hP : va_P (dC, dI) vwCl [(h0, .inr (23, [v0, .ref h1, .int 20, .int 60, .ref (g 34), v1, .int 0, .int 0, .int 0])), (q1, .inr (5, [.int 0, .int (-1), .int 0, .ref h1])), (q3, .inl (cyq3, 8, .inl (upd (upd (upd (fun _ => 0) 0 0) 1 20) 2 60))), (h1, .inr (6, [.int 0, v2, .int 0]))] H := hP
  have hD : va_D A [(h0, .inr (23, [v0, .ref h1, .int 20, .int 60, .ref (g 34), v1, .int 0, .int 0, .int 0])), (q1, .inr (5, [.int 0, .int (-1), .int 0, .ref h1])), (q3, .inl (cyq3, 8, .inl (upd (upd (upd (fun _ => 0) 0 0) 1 20) 2 60))), (h1, .inr (6, [.int 0, v2, .int 0]))] := hD
  refine lv_dup hx hb dX16_houseTold_69 rfl ?_
  refine lv_iconst (v := 3) hx hb dX16_houseTold_70 (by decide) ?_
  refine lv_aload_n hx hb dX16_houseTold_71 rfl (lv_at hl 2 rfl) ?_
  refine va_get (D := (dC, dI)) (ci := 23) (v := .ref (g 34)) (C := RX16) (T := TX16) (N := 9) hx hb hta naX16 hown hK hP 0 rfl rfl 4 (by decide) (hta _ wm213) (fun _ h9 => h9) rfl dX16_houseTold_72 ?_
  have hPc := hP.sub (ws' := []) [] rfl
  have hDc := hD.sub (ws' := []) [] (by decide) rfl
  have hKc := hK.sub (tys' := []) [] rfl
  have hFc := va_free (wc := []) hD hS hA [] rfl
  refine va_calli (va_runV (As := []) (rest := [.int 3, .ref q3, .ref q3]) ⟨hx, hb, hml, hown, hts⟩ (kJ0_length_8abf5_2 l dC dI g H.size  ) (cwV 0 hts (ns_gp (List.forall_mem_cons.mpr ⟨wm646, (List.forall_mem_cons.mpr ⟨wm595, (List.forall_mem_cons.mpr ⟨wm596, (List.forall_mem_cons.mpr ⟨wm316, (fun _ h9 => nomatch h9)⟩)⟩)⟩)⟩) wm574) rfl rfl rfl (by decide +kernel) ⟨Nat.le_of_ble_eq_true rfl, Nat.le_of_ble_eq_true rfl⟩) ⟨fun a U gg mk q => by obtain ⟨q0, q1, qP, qK, qD, qF⟩ := q; exact ⟨q0, q1, qP, va_K.moved (u := U) (U := U.calling gg mk a) (Vm.Alike.refl U.vm) qK, qD, ns_same qF⟩, va_Orecv (ns_f38 hF) hS, fun U hU hW => ⟨rfl, by rw [hU], by rw [hU]; exact hPc, va_K.moved hW.alike hKc, hDc.weaken (fun _ _ _ _ => trivial), ns_call hF hS hFc hU hW⟩⟩ rfl rfl hl.1 rfl (lv_room (Nat.le_of_ble_eq_true rfl)) dX16_houseTold_75 ⟨Nat.le_of_ble_eq_true rfl, Nat.le_of_ble_eq_true rfl⟩) hS (fun q _ h => hFc q h) hFc (fun r9 u t H1 locs ht hvm hw hB hz1 hk1 hS => ?_)
  obtain rfl := hw.symm
  obtain ⟨hP1, hK1, hD1⟩ := hB
  rw [ht] at hP1
  have hK1 := va_K.moved hvm.symm hK1
  obtain ⟨hP, hD⟩ := va_join (wr := [(h0, .inr (23, [v0, .ref h1, .int 20, .int 60, .ref (g 34), v1, .int 0, .int 0, .int 0])), (q1, .inr (5, [.int 0, .int (-1), .int 0, .ref h1])), (q3, .inl (cyq3, 8, .inl (upd (upd (upd (fun _ => 0) 0 0) 1 20) 2 60))), (h1, .inr (6, [.int 0, v2, .int 0]))]) (w1 := []) hP hD [] [0, 1, 2, 3] rfl rfl (by decide) (by decide) hk1 hFc hP1 hD1
  have hK := (hK.sub (tys' := [(cyq3, .int)]) [0] rfl).app hK1
  generalize H1 = H at hP hS ⊢
  have hP : va_P (dC, dI) vwCl [(h0, .inr (23, [v0, .ref h1, .int 20, .int 60, .ref (g 34), v1, .int 0, .int 0, .int 0])), (q1, .inr (5, [.int 0, .int (-1), .int 0, .ref h1])), (q3, .inl (cyq3, 8, .inl (upd (upd (upd (fun _ => 0) 0 0) 1 20) 2 60))), (h1, .inr (6, [.int 0, v2, .int 0]))] H := hP
  have hD : va_D A [(h0, .inr (23, [v0, .ref h1, .int 20, .int 60, .ref (g 34), v1, .int 0, .int 0, .int 0])), (q1, .inr (5, [.int 0, .int (-1), .int 0, .ref h1])), (q3, .inl (cyq3, 8, .inl (upd (upd (upd (fun _ => 0) 0 0) 1 20) 2 60))), (h1, .inr (6, [.int 0, v2, .int 0]))] := hD
  have hK : va_K (dC, dI) vwCl [(cyq3, .int)] s := hK
  refine W.widen (k := 2) (n := 12) (Nat.le_of_ble_eq_true rfl) (Nat.le_of_ble_eq_true rfl) ?_
  refine va_iast hx hb hK hP hD hS 2 0 rfl rfl (vp_in_nI (n := 3) (by decide) (by decide)) dX16_houseTold_78 (fun H locs hP hD hS => ?_)
  have hP : va_P (dC, dI) vwCl [(h0, .inr (23, [v0, .ref h1, .int 20, .int 60, .ref (g 34), v1, .int 0, .int 0, .int 0])), (q1, .inr (5, [.int 0, .int (-1), .int 0, .ref h1])), (q3, .inl (cyq3, 8, .inl (upd (upd (upd (upd (fun _ => 0) 0 0) 1 20) 2 60) 3 0))), (h1, .inr (6, [.int 0, v2, .int 0]))] H := hP
  have hD : va_D A [(h0, .inr (23, [v0, .ref h1, .int 20, .int 60, .ref (g 34), v1, .int 0, .int 0, .int 0])), (q1, .inr (5, [.int 0, .int (-1), .int 0, .ref h1])), (q3, .inl (cyq3, 8, .inl (upd (upd (upd (upd (fun _ => 0) 0 0) 1 20) 2 60) 3 0))), (h1, .inr (6, [.int 0, v2, .int 0]))] := hD
  refine lv_dup hx hb dX16_houseTold_79 rfl ?_
  refine lv_iconst (v := 4) hx hb dX16_houseTold_80 (by decide) ?_
  refine lv_aload_n hx hb dX16_houseTold_81 rfl (lv_at hl 2 rfl) ?_
  refine va_get (D := (dC, dI)) (ci := 23) (v := .int 0) (C := RX16) (T := TX16) (N := 9) hx hb hta naX16 hown hK hP 0 rfl rfl 6 (by decide) (hta _ wm791) (fun _ h9 => h9) rfl dX16_houseTold_82 ?_
  refine va_iast hx hb hK hP hD hS 2 0 rfl rfl (vp_in_nI (n := 4) (by decide) (by decide)) dX16_houseTold_85 (fun H locs hP hD hS => ?_)
  have hP : va_P (dC, dI) vwCl [(h0, .inr (23, [v0, .ref h1, .int 20, .int 60, .ref (g 34), v1, .int 0, .int 0, .int 0])), (q1, .inr (5, [.int 0, .int (-1), .int 0, .ref h1])), (q3, .inl (cyq3, 8, .inl (upd (upd (upd (upd (upd (fun _ => 0) 0 0) 1 20) 2 60) 3 0) 4 0))), (h1, .inr (6, [.int 0, v2, .int 0]))] H := hP
  have hD : va_D A [(h0, .inr (23, [v0, .ref h1, .int 20, .int 60, .ref (g 34), v1, .int 0, .int 0, .int 0])), (q1, .inr (5, [.int 0, .int (-1), .int 0, .ref h1])), (q3, .inl (cyq3, 8, .inl (upd (upd (upd (upd (upd (fun _ => 0) 0 0) 1 20) 2 60) 3 0) 4 0))), (h1, .inr (6, [.int 0, v2, .int 0]))] := hD
  refine lv_dup hx hb dX16_houseTold_86 rfl ?_
  refine lv_iconst (v := 5) hx hb dX16_houseTold_87 (by decide) ?_
  refine lv_aload_n hx hb dX16_houseTold_88 rfl (lv_at hl 2 rfl) ?_
  refine va_get (D := (dC, dI)) (ci := 23) (v := .int 0) (C := RX16) (T := TX16) (N := 9) hx hb hta naX16 hown hK hP 0 rfl rfl 7 (by decide) (hta _ wm800) (fun _ h9 => h9) rfl dX16_houseTold_89 ?_
  refine va_iast hx hb hK hP hD hS 2 0 rfl rfl (vp_in_nI (n := 5) (by decide) (by decide)) dX16_houseTold_92 (fun H locs hP hD hS => ?_)
  have hP : va_P (dC, dI) vwCl [(h0, .inr (23, [v0, .ref h1, .int 20, .int 60, .ref (g 34), v1, .int 0, .int 0, .int 0])), (q1, .inr (5, [.int 0, .int (-1), .int 0, .ref h1])), (q3, .inl (cyq3, 8, .inl (upd (upd (upd (upd (upd (upd (fun _ => 0) 0 0) 1 20) 2 60) 3 0) 4 0) 5 0))), (h1, .inr (6, [.int 0, v2, .int 0]))] H := hP
  have hD : va_D A [(h0, .inr (23, [v0, .ref h1, .int 20, .int 60, .ref (g 34), v1, .int 0, .int 0, .int 0])), (q1, .inr (5, [.int 0, .int (-1), .int 0, .ref h1])), (q3, .inl (cyq3, 8, .inl (upd (upd (upd (upd (upd (upd (fun _ => 0) 0 0) 1 20) 2 60) 3 0) 4 0) 5 0))), (h1, .inr (6, [.int 0, v2, .int 0]))] := hD
  refine lv_dup hx hb dX16_houseTold_93 rfl ?_
  refine lv_bipush (v := 6) hx hb dX16_houseTold_94 (by decide) ?_
  refine lv_aload_n hx hb dX16_houseTold_96 rfl (lv_at hl 2 rfl) ?_
  refine va_get (D := (dC, dI)) (ci := 23) (v := .int 0) (C := RX16) (T := TX16) (N := 9) hx hb hta naX16 hown hK hP 0 rfl rfl 8 (by decide) (hta _ wm388) (fun _ h9 => h9) rfl dX16_houseTold_97 ?_
  refine va_iast hx hb hK hP hD hS 2 0 rfl rfl (vp_in_nI (n := 6) (by decide) (by decide)) dX16_houseTold_100 (fun H locs hP hD hS => ?_)
  have hP : va_P (dC, dI) vwCl [(h0, .inr (23, [v0, .ref h1, .int 20, .int 60, .ref (g 34), v1, .int 0, .int 0, .int 0])), (q1, .inr (5, [.int 0, .int (-1), .int 0, .ref h1])), (q3, .inl (cyq3, 8, .inl (upd (upd (upd (upd (upd (upd (upd (fun _ => 0) 0 0) 1 20) 2 60) 3 0) 4 0) 5 0) 6 0))), (h1, .inr (6, [.int 0, v2, .int 0]))] H := hP
  have hD : va_D A [(h0, .inr (23, [v0, .ref h1, .int 20, .int 60, .ref (g 34), v1, .int 0, .int 0, .int 0])), (q1, .inr (5, [.int 0, .int (-1), .int 0, .ref h1])), (q3, .inl (cyq3, 8, .inl (upd (upd (upd (upd (upd (upd (upd (fun _ => 0) 0 0) 1 20) 2 60) 3 0) 4 0) 5 0) 6 0))), (h1, .inr (6, [.int 0, v2, .int 0]))] := hD
  refine lv_dup hx hb dX16_houseTold_101 rfl ?_
  refine lv_bipush (v := 7) hx hb dX16_houseTold_102 (by decide) ?_
  refine lv_iload_n hx hb dX16_houseTold_104 rfl (lv_at hl 1 rfl) ?_
  refine va_iast hx hb hK hP hD hS 2 0 rfl rfl (vp_in_nI (n := 7) (by decide) (by decide)) dX16_houseTold_105 (fun H locs hP hD hS => ?_)
  have hP : va_P (dC, dI) vwCl [(h0, .inr (23, [v0, .ref h1, .int 20, .int 60, .ref (g 34), v1, .int 0, .int 0, .int 0])), (q1, .inr (5, [.int 0, .int (-1), .int 0, .ref h1])), (q3, .inl (cyq3, 8, .inl (upd (upd (upd (upd (upd (upd (upd (upd (fun _ => 0) 0 0) 1 20) 2 60) 3 0) 4 0) 5 0) 6 0) 7 0))), (h1, .inr (6, [.int 0, v2, .int 0]))] H := hP
  have hD : va_D A [(h0, .inr (23, [v0, .ref h1, .int 20, .int 60, .ref (g 34), v1, .int 0, .int 0, .int 0])), (q1, .inr (5, [.int 0, .int (-1), .int 0, .ref h1])), (q3, .inl (cyq3, 8, .inl (upd (upd (upd (upd (upd (upd (upd (upd (fun _ => 0) 0 0) 1 20) 2 60) 3 0) 4 0) 5 0) 6 0) 7 0))), (h1, .inr (6, [.int 0, v2, .int 0]))] := hD
  refine lv_astore_n (lv' := [(3, .ref q3), (2, .int 0), (0, .ref h0), (1, .int 3)]) hx hb dX16_houseTold_106 rfl hl (by decide) rfl (fun ls hl => ?_)
  refine lv_aload_n hx hb dX16_houseTold_107 rfl (lv_at hl 0 rfl) ?_
  refine lv_iload_n hx hb dX16_houseTold_108 rfl (lv_at hl 3 rfl) ?_
  refine va_iald hx hb hK hP 2 0 rfl rfl (vp_in_nI (n := 3) (by decide) (by decide)) dX16_houseTold_109 ?_
  refine lv_topi (fun y4 ey4 => ?_)
  obtain rfl : 0 = y4 := ey4.symm
  have hP9 := hP.sub (ws' := [(h0, .inr (23, [v0, .ref h1, .int 20, .int 60, .ref (g 34), v1, .int 0, .int 0, .int 0])), (q1, .inr (5, [.int 0, .int (-1), .int 0, .ref h1])), (q3, .inl (cyq3, 8, .inl (upd (upd (upd (upd (upd (upd (upd (upd (fun _ => 0) 0 0) 1 20) 2 60) 3 0) 4 0) 5 0) 6 0) 7 0))), (h1, .inr (6, [.int 0, v2, .int 0]))]) [0, 1, 2, 3] rfl
  have hD9 := hD.sub (ws' := [(h0, .inr (23, [v0, .ref h1, .int 20, .int 60, .ref (g 34), v1, .int 0, .int 0, .int 0])), (q1, .inr (5, [.int 0, .int (-1), .int 0, .ref h1])), (q3, .inl (cyq3, 8, .inl (upd (upd (upd (upd (upd (upd (upd (upd (fun _ => 0) 0 0) 1 20) 2 60) 3 0) 4 0) 5 0) 6 0) 7 0))), (h1, .inr (6, [.int 0, v2, .int 0]))]) [0, 1, 2, 3] (by decide) rfl
  have hK9 := hK.sub (tys' := [(cyq3, .int)]) [0] rfl
  refine W.widen (k := 2) (n := 12) (Nat.le_of_ble_eq_true rfl) (Nat.le_of_ble_eq_true rfl) ?_
  exact W.iret (v := 0) hx hb hr (fun t ht hW => ⟨⟨_, (), rfl, rfl, q1, q3, cyq3, by rw [ht]; exact hP9, va_K.moved hW.alike hK9, hD9⟩, hS.F ht⟩) hS.2.2 dX16_houseTold_110
set_option maxHeartbeats 4000000 in
set_option maxRecDepth 100000 in
theorem kX11_weight (l : Launch) (dC : Nat → ClassId) (dI : Nat → Nat → Nat) (g : Nat → Nat) (sz : Nat) (h0 : Nat) (h1 : Nat) (v0 : Value) (v1 : Value) (v2 : Value) : Met l yX11_weight wbX11_weight ({ frames := 3, cells := 1, slots := 4, locals := 53 }) (va_Pc [.ref h0] (fun U => U.heap.size = sz ∧ va_P (dC, dI) vwCl [(h0, .inr (18, [.int 0, v0, v1, .ref h1])), (h1, .inr (6, [.int 0, v2, .int 0]))] U.heap ∧ va_K (dC, dI) vwCl [] U ∧ va_D (fun _ => True) [(h0, .inr (18, [.int 0, v0, v1, .ref h1])), (h1, .inr (6, [.int 0, v2, .int 0]))] ∧ ns_F g (va_A [(h0, .inr (18, [.int 0, v0, v1, .ref h1])), (h1, .inr (6, [.int 0, v2, .int 0]))] sz) U U.heap)) (va_Qi (fun (r : Int32) (_ : Unit) => r = 1) (fun _ t => ∃ k0 : Nat, va_P (dC, dI) vwCl [(h0, .inr (18, [.int 0, v0, v1, .ref h1])), (k0, .inr (5, [.int 0, .int (-1), .int 0, .ref h1])), (h1, .inr (6, [.int 0, v2, .int 0]))] t.heap ∧ va_K (dC, dI) vwCl [] t ∧ va_D (va_A [(h0, .inr (18, [.int 0, v0, v1, .ref h1])), (h1, .inr (6, [.int 0, v2, .int 0]))] sz) [(h0, .inr (18, [.int 0, v0, v1, .ref h1])), (k0, .inr (5, [.int 0, .int (-1), .int 0, .ref h1])), (h1, .inr (6, [.int 0, v2, .int 0]))]) (va_A [(h0, .inr (18, [.int 0, v0, v1, .ref h1])), (h1, .inr (6, [.int 0, v2, .int 0]))] sz)) 1 4 (va_A [(h0, .inr (18, [.int 0, v0, v1, .ref h1])), (h1, .inr (6, [.int 0, v2, .int 0]))] sz) := by
  refine Met.ofW (cc := cX11_weight) (maxL := 4) (ret := (some .int)) (by decide) rfl ?_
  intro p e s m args below meth c s₁ B hml hv
  obtain ⟨rfl, hsz, hP, hK, hD0, hF⟩ := hv
  have hx := B.exec
  have hb := B.bytes
  have hr := B.returns
  have hts := atoms_spec (ws := wbX11_weight) B.pre
  have hta : ∀ w ∈ wsALL, w.before _ s = true := fun w h => hts w (List.mem_cons_of_mem _ h)
  have hown : s.vm.findClass RX11 = some m.cls := findClass_of_methodNamed B.named
  have hlocks := B.notSynchronized
  subst hsz
  have hD := hD0.self (sz := s.heap.size)
  generalize hAe : va_A [(h0, .inr (18, [.int 0, v0, v1, .ref h1])), (h1, .inr (6, [.int 0, v2, .int 0]))] s.heap.size = A at hD hF ⊢
  have hA : ∀ q : Nat, s.heap.size ≤ q → A q := fun q h => by rw [← hAe]; exact Or.inr h
  have hS : va_S A s.heap s.heap [] := va_S.rf
  have hP : va_P (dC, dI) vwCl [(h0, .inr (18, [.int 0, v0, v1, .ref h1])), (h1, .inr (6, [.int 0, v2, .int 0]))] s.heap := hP
  have hl := lv_entry ([.ref h0]) (n := 4) (Nat.le_of_ble_eq_true rfl)
  rw [lg_entry_eq]
  generalize (lg_sl ([.ref h0]) ++ List.replicate (4 - (lg_sl ([.ref h0])).length) Slot.unset).toArray = ls at hl ⊢
  have hl : lv_has ls 4 [(0, .ref h0)] := hl
  refine lv_aload_n hx hb dX11_weight_0 rfl (lv_at hl 0 rfl) ?_
  refine va_get (D := (dC, dI)) (ci := 18) (v := .int 0) (C := RX11) (T := TX11) (N := 4) hx hb hta naX11 hown hK hP 0 rfl rfl 0 (by decide) (hta _ wm364) (fun _ h9 => h9) rfl dX11_weight_1 ?_
  refine lv_iconst (v := 5) hx hb dX11_weight_4 (by decide) ?_
  refine lv_icmp_ge (tgt := 12) hx hb dX11_weight_5 (by decide) (fun c1 => absurd c1 (by decide)) (fun c1 => ?_)
  refine lv_iconst (v := 1) hx hb dX11_weight_8 (by decide) ?_
  refine lv_goto (tgt := 13) hx hb dX11_weight_9 (by decide) ?_
  have hPc := hP.sub (ws' := []) [] rfl
  have hDc := hD.sub (ws' := []) [] (by decide) rfl
  have hKc := hK.sub (tys' := []) [] rfl
  have hFc := va_free (wc := []) hD hS hA [] rfl
  refine va_calli (va_runSN (As := [.int 1]) (rest := []) ⟨hx, hb, hml, hown, hts⟩ (kX16_one l dC dI g s.heap.size  ) ⟨va_cnB 1 hts (ns_g0 wm682) rfl rfl rfl (ns_f6 hF) (hta _ wm192) (by decide +kernel) ⟨Nat.le_of_ble_eq_true rfl, Nat.le_of_ble_eq_true rfl⟩, (hta _ wm684), trivial⟩ ⟨fun a U gg mk q => by obtain ⟨q0, q1, qP, qK, qD, qF⟩ := q; exact ⟨q0, q1, qP, va_K.moved (u := U) (U := U.calling gg mk a) (Vm.Alike.refl U.vm) qK, qD, ns_same qF⟩, fun U hU hW => ⟨rfl, by rw [hU], by rw [hU]; exact hPc, va_K.moved hW.alike hKc, hDc.weaken (fun _ _ _ _ => trivial), ns_call hF hS hFc hU hW⟩⟩ rfl rfl hl.1 rfl (lv_room (Nat.le_of_ble_eq_true rfl)) dX11_weight_13 ⟨Nat.le_of_ble_eq_true rfl, Nat.le_of_ble_eq_true rfl⟩) hS (fun q _ h => hFc q h) hFc (fun r9 u t H1 locs ht hvm hw hB hz1 hk1 hS => ?_)
  obtain rfl := hw.symm
  obtain ⟨hP1, hK1, hD1⟩ := hB
  rw [ht] at hP1
  have hK1 := va_K.moved hvm.symm hK1
  obtain ⟨hP, hD⟩ := va_join (wr := [(h0, .inr (18, [.int 0, v0, v1, .ref h1])), (h1, .inr (6, [.int 0, v2, .int 0]))]) (w1 := []) hP hD [] [0, 1] rfl rfl (by decide) (by decide) hk1 hFc hP1 hD1
  have hK := (hK.sub (tys' := []) [] rfl).app hK1
  generalize H1 = H at hP hS ⊢
  have hP : va_P (dC, dI) vwCl [(h0, .inr (18, [.int 0, v0, v1, .ref h1])), (h1, .inr (6, [.int 0, v2, .int 0]))] H := hP
  have hD : va_D A [(h0, .inr (18, [.int 0, v0, v1, .ref h1])), (h1, .inr (6, [.int 0, v2, .int 0]))] := hD
  have hK : va_K (dC, dI) vwCl [] s := hK
  refine W.widen (k := 0) (n := 0) (Nat.le_of_ble_eq_true rfl) (Nat.le_of_ble_eq_true rfl) ?_
  refine lv_istore_n (lv' := [(1, .int 1), (0, .ref h0)]) hx hb dX11_weight_16 rfl hl (by decide) rfl (fun ls hl => ?_)
  refine lv_aload_n hx hb dX11_weight_17 rfl (lv_at hl 1 rfl) ?_
  refine va_get (D := (dC, dI)) (ci := 18) (v := .ref h1) (C := RX11) (T := TX11) (N := 4) hx hb hta naX11 hown hK hP 0 rfl rfl 3 (by decide) (hta _ wm363) (fun _ h9 => h9) rfl dX11_weight_18 ?_
  have hPc := hP.sub (ws' := [(h1, .inr (6, [.int 0, v2, .int 0]))]) [1] rfl
  have hDc := hD.sub (ws' := [(h1, .inr (6, [.int 0, v2, .int 0]))]) [1] (by decide) rfl
  have hKc := hK.sub (tys' := []) [] rfl
  have hFc := va_free (wc := [(h1, .inr (6, [.int 0, v2, .int 0]))]) hD hS hA [1] rfl
  refine va_callr (va_runV (As := []) (rest := []) ⟨hx, hb, hml, hown, hts⟩ (kJx4a65c_iterator_32c93 l dC dI g H.size h1 v2 (.int 0) ) (cwV 0 hts (ns_gp (List.forall_mem_cons.mpr ⟨wm717, (List.forall_mem_cons.mpr ⟨wm718, (List.forall_mem_cons.mpr ⟨wm719, (List.forall_mem_cons.mpr ⟨wm196, (fun _ h9 => nomatch h9)⟩)⟩)⟩)⟩) wm714) rfl rfl rfl (by decide +kernel) ⟨Nat.le_of_ble_eq_true rfl, Nat.le_of_ble_eq_true rfl⟩) ⟨fun a U gg mk q => by obtain ⟨q0, q1, qP, qK, qD, qF⟩ := q; exact ⟨q0, q1, qP, va_K.moved (u := U) (U := U.calling gg mk a) (Vm.Alike.refl U.vm) qK, qD, ns_same qF⟩, va_recv hK hP (ci := 6) (q0 := 1) rfl rfl, fun U hU hW => ⟨rfl, by rw [hU], by rw [hU]; exact hPc, va_K.moved hW.alike hKc, hDc.weaken (fun _ _ _ _ => trivial), ns_call hF hS hFc hU hW⟩⟩ rfl rfl hl.1 rfl (lv_room (Nat.le_of_ble_eq_true rfl)) dX11_weight_21 ⟨Nat.le_of_ble_eq_true rfl, Nat.le_of_ble_eq_true rfl⟩) hS (fun q _ h => hFc q h) hFc (fun u r9 t H1 locs ht hvm hw hB hz1 hk1 hS => ?_)
  obtain ⟨q2, hr9, hP1, hK1, hD1⟩ := hB
  obtain rfl := hr9.symm
  rw [ht] at hP1
  have hK1 := va_K.moved hvm.symm hK1
  obtain ⟨hP, hD⟩ := va_join (wr := [(h0, .inr (18, [.int 0, v0, v1, .ref h1]))]) (w1 := [(q2, .inr (5, [.int 0, .int (-1), .int 0, .ref h1])), (h1, .inr (6, [.int 0, v2, .int 0]))]) hP hD [1] [0] rfl rfl (by decide) (by decide) hk1 hFc hP1 hD1
  have hK := (hK.sub (tys' := []) [] rfl).app hK1
  generalize H1 = H at hP hS ⊢
  have hP : va_P (dC, dI) vwCl [(h0, .inr (18, [.int 0, v0, v1, .ref h1])), (q2, .inr (5, [.int 0, .int (-1), .int 0, .ref h1])), (h1, .inr (6, [.int 0, v2, .int 0]))] H := hP
  have hD : va_D A [(h0, .inr (18, [.int 0, v0, v1, .ref h1])), (q2, .inr (5, [.int 0, .int (-1), .int 0, .ref h1])), (h1, .inr (6, [.int 0, v2, .int 0]))] := hD
  have hK : va_K (dC, dI) vwCl [] s := hK
  refine W.widen (k := 1) (n := 4) (Nat.le_of_ble_eq_true rfl) (Nat.le_of_ble_eq_true rfl) ?_
  refine lv_astore_n (lv' := [(2, .ref q2), (1, .int 1), (0, .ref h0)]) hx hb dX11_weight_24 rfl hl (by decide) rfl (fun ls hl => ?_)
  refine lv_aload_n hx hb dX11_weight_25 rfl (lv_at hl 0 rfl) ?_
  have hPc := hP.sub (ws' := [(q2, .inr (5, [.int 0, .int (-1), .int 0, .ref h1])), (h1, .inr (6, [.int 0, v2, .int 0]))]) [1, 2] rfl
  have hDc := hD.sub (ws' := [(q2, .inr (5, [.int 0, .int (-1), .int 0, .ref h1])), (h1, .inr (6, [.int 0, v2, .int 0]))]) [1, 2] (by decide) rfl
  have hKc := hK.sub (tys' := []) [] rfl
  have hFc := va_free (wc := [(q2, .inr (5, [.int 0, .int (-1), .int 0, .ref h1])), (h1, .inr (6, [.int 0, v2, .int 0]))]) hD hS hA [1, 2] rfl
  refine va_callFi (va_runF (hK.1 5 _ rfl).2 (As := []) (rest := []) ⟨hx, hb, hml, hown, hts⟩ (kJx35411_hasNext_aae02 l dC dI g H.size q2 h1 (.int (-1)) (.int 0) (.int 0) v2 ) (va_cwF 0 hts (ns_gp (List.forall_mem_cons.mpr ⟨wm720, (List.forall_mem_cons.mpr ⟨wm721, (List.forall_mem_cons.mpr ⟨wm722, (List.forall_mem_cons.mpr ⟨wm705, (fun _ h9 => nomatch h9)⟩)⟩)⟩)⟩) wm716) rfl rfl rfl (ns_f52 hF) (by decide +kernel) ⟨Nat.le_of_ble_eq_true rfl, Nat.le_of_ble_eq_true rfl⟩) ⟨fun a U gg mk q => by obtain ⟨q0, q1, qP, qK, qD, qF⟩ := q; exact ⟨q0, q1, qP, va_K.moved (u := U) (U := U.calling gg mk a) (Vm.Alike.refl U.vm) qK, qD, ns_same qF⟩, va_recv hK hP (ci := 5) (q0 := 1) rfl rfl, fun U hU hW => ⟨rfl, by rw [hU], by rw [hU]; exact hPc, va_K.moved hW.alike hKc, hDc.weaken (fun _ _ _ _ => trivial), ns_call hF hS hFc hU hW⟩⟩ rfl rfl hl.1 rfl (lv_room (Nat.le_of_ble_eq_true rfl)) dX11_weight_26 ⟨Nat.le_of_ble_eq_true rfl, Nat.le_of_ble_eq_true rfl⟩) hS (fun q _ h => hFc q h) hFc (fun r9 u t H1 locs ht hvm hw hB hz1 hk1 hS => ?_)
  obtain rfl := hw.symm
  obtain ⟨hP1, hK1, hD1⟩ := hB
  rw [ht] at hP1
  have hK1 := va_K.moved hvm.symm hK1
  obtain ⟨hP, hD⟩ := va_join (wr := [(h0, .inr (18, [.int 0, v0, v1, .ref h1]))]) (w1 := [(q2, .inr (5, [.int 0, .int (-1), .int 0, .ref h1])), (h1, .inr (6, [.int 0, v2, .int 0]))]) hP hD [1, 2] [0] rfl rfl (by decide) (by decide) hk1 hFc hP1 hD1
  have hK := (hK.sub (tys' := []) [] rfl).app hK1
  generalize H1 = H at hP hS ⊢
  have hP : va_P (dC, dI) vwCl [(h0, .inr (18, [.int 0, v0, v1, .ref h1])), (q2, .inr (5, [.int 0, .int (-1), .int 0, .ref h1])), (h1, .inr (6, [.int 0, v2, .int 0]))] H := hP
  have hD : va_D A [(h0, .inr (18, [.int 0, v0, v1, .ref h1])), (q2, .inr (5, [.int 0, .int (-1), .int 0, .ref h1])), (h1, .inr (6, [.int 0, v2, .int 0]))] := hD
  have hK : va_K (dC, dI) vwCl [] s := hK
  refine W.widen (k := 1) (n := 4) (Nat.le_of_ble_eq_true rfl) (Nat.le_of_ble_eq_true rfl) ?_
  refine lv_if_eq (tgt := 54) hx hb dX11_weight_31 (by decide) (fun c3 => ?_) (fun c3 => absurd (by decide) c3)
  refine lv_iload_n hx hb dX11_weight_54 rfl (lv_at hl 1 rfl) ?_
  have hP9 := hP.sub (ws' := [(h0, .inr (18, [.int 0, v0, v1, .ref h1])), (q2, .inr (5, [.int 0, .int (-1), .int 0, .ref h1])), (h1, .inr (6, [.int 0, v2, .int 0]))]) [0, 1, 2] rfl
  have hD9 := hD.sub (ws' := [(h0, .inr (18, [.int 0, v0, v1, .ref h1])), (q2, .inr (5, [.int 0, .int (-1), .int 0, .ref h1])), (h1, .inr (6, [.int 0, v2, .int 0]))]) [0, 1, 2] (by decide) rfl
  have hK9 := hK.sub (tys' := []) [] rfl
  refine W.widen (k := 1) (n := 4) (Nat.le_of_ble_eq_true rfl) (Nat.le_of_ble_eq_true rfl) ?_
  exact W.iret (v := 1) hx hb hr (fun t ht hW => ⟨⟨_, (), rfl, rfl, q2, by rw [ht]; exact hP9, va_K.moved hW.alike hK9, hD9⟩, hS.F ht⟩) hS.2.2 dX11_weight_55
set_option maxHeartbeats 4000000 in
set_option maxRecDepth 100000 in
theorem kX16_ofCode_2 (l : Launch) (dC : Nat → ClassId) (dI : Nat → Nat → Nat) (g : Nat → Nat) (sz : Nat) (h0 : Nat) (x0 : Int32) (v0 : Value) (v1 : Value) (v2 : Value) (v3 : Value) (v4 : Value) (v5 : Value) (v6 : Value) (v7 : Value) (ex0 : (0 : Int) ≤ x0.toInt ∧ x0.toInt ≤ (9 : Int)) : Met l yX16_ofCode wbX16_ofCode ({ frames := 2, cells := 0, slots := 0, locals := 44 }) (va_Pc [.ref h0, .int x0] (fun U => U.heap.size = sz ∧ va_P (dC, dI) vwCl [(h0, .inr (23, [v0, v1, v2, v3, v4, .null, v5, v6, v7]))] U.heap ∧ va_K (dC, dI) vwCl [] U ∧ va_D (fun _ => True) [(h0, .inr (23, [v0, v1, v2, v3, v4, .null, v5, v6, v7]))] ∧ ns_F g (va_A [(h0, .inr (23, [v0, v1, v2, v3, v4, .null, v5, v6, v7]))] sz) U U.heap)) (va_Qi (fun (r : Int32) (_ : Unit) => r = 0) (fun _ t => va_P (dC, dI) vwCl [(h0, .inr (23, [.int 0, v1, v2, v3, v4, .null, v5, v6, v7]))] t.heap ∧ va_K (dC, dI) vwCl [] t ∧ va_D (va_A [(h0, .inr (23, [v0, v1, v2, v3, v4, .null, v5, v6, v7]))] sz) [(h0, .inr (23, [.int 0, v1, v2, v3, v4, .null, v5, v6, v7]))]) (va_A [(h0, .inr (23, [v0, v1, v2, v3, v4, .null, v5, v6, v7]))] sz)) 0 0 (va_A [(h0, .inr (23, [v0, v1, v2, v3, v4, .null, v5, v6, v7]))] sz) := by
  refine Met.ofW (cc := cX16_ofCode) (maxL := 2) (ret := (some .int)) (by decide) rfl ?_
  intro p e s m args below meth c s₁ B hml hv
  obtain ⟨rfl, hsz, hP, hK, hD0, hF⟩ := hv
  have hx := B.exec
  have hb := B.bytes
  have hr := B.returns
  have hts := atoms_spec (ws := wbX16_ofCode) B.pre
  have hta : ∀ w ∈ wsALL, w.before _ s = true := fun w h => hts w (List.mem_cons_of_mem _ h)
  have hown : s.vm.findClass RX16 = some m.cls := findClass_of_methodNamed B.named
  have hlocks := B.notSynchronized
  subst hsz
  have hD := hD0.self (sz := s.heap.size)
  generalize hAe : va_A [(h0, .inr (23, [v0, v1, v2, v3, v4, .null, v5, v6, v7]))] s.heap.size = A at hD hF ⊢
  have hA : ∀ q : Nat, s.heap.size ≤ q → A q := fun q h => by rw [← hAe]; exact Or.inr h
  have hS : va_S A s.heap s.heap [] := va_S.rf
  have hP : va_P (dC, dI) vwCl [(h0, .inr (23, [v0, v1, v2, v3, v4, .null, v5, v6, v7]))] s.heap := hP
  have hl := lv_entry ([.ref h0, .int x0]) (n := 2) (Nat.le_of_ble_eq_true rfl)
  rw [lg_entry_eq]
  generalize (lg_sl ([.ref h0, .int x0]) ++ List.replicate (2 - (lg_sl ([.ref h0, .int x0])).length) Slot.unset).toArray = ls at hl ⊢
  have hl : lv_has ls 2 [(0, .ref h0), (1, .int x0)] := hl
  refine lv_aload_n hx hb dX16_ofCode_0 rfl (lv_at hl 0 rfl) ?_
  refine lv_iload_n hx hb dX16_ofCode_1 rfl (lv_at hl 1 rfl) ?_
  refine lv_iconst (v := 0) hx hb dX16_ofCode_2 (by decide) ?_
  refine lv_bipush (v := 9) hx hb dX16_ofCode_3 (by decide) ?_
  have hPc := hP.sub (ws' := []) [] rfl
  have hDc := hD.sub (ws' := []) [] (by decide) rfl
  have hKc := hK.sub (tys' := []) [] rfl
  have hFc := va_free (wc := []) hD hS hA [] rfl
  refine va_calli (va_runS (As := [.int x0, .int 0, .int 9]) (rest := [.ref h0]) ⟨hx, hb, hml, hown, hts⟩ (kX16_isIn_27 l dC dI g s.heap.size x0 ⟨by omega, by omega⟩) (va_cwS 3 hts (ns_gp (List.forall_mem_cons.mpr ⟨wm240, (List.forall_mem_cons.mpr ⟨wm241, (List.forall_mem_cons.mpr ⟨wm192, (fun _ h9 => nomatch h9)⟩)⟩)⟩) wm233) rfl rfl rfl (by decide +kernel) ⟨Nat.le_of_ble_eq_true rfl, Nat.le_of_ble_eq_true rfl⟩) ⟨fun a U gg mk q => by obtain ⟨q0, q1, qP, qK, qD, qF⟩ := q; exact ⟨q0, q1, qP, va_K.moved (u := U) (U := U.calling gg mk a) (Vm.Alike.refl U.vm) qK, qD, ns_same qF⟩, fun U hU hW => ⟨rfl, by rw [hU], by rw [hU]; exact hPc, va_K.moved hW.alike hKc, hDc.weaken (fun _ _ _ _ => trivial), ns_call hF hS hFc hU hW⟩⟩ rfl rfl hl.1 rfl (lv_room (Nat.le_of_ble_eq_true rfl)) dX16_ofCode_5 ⟨Nat.le_of_ble_eq_true rfl, Nat.le_of_ble_eq_true rfl⟩) hS (fun q _ h => hFc q h) hFc (fun r9 u t H1 locs ht hvm hw hB hz1 hk1 hS => ?_)
  obtain rfl := hw.symm
  obtain ⟨hP1, hK1, hD1⟩ := hB
  rw [ht] at hP1
  have hK1 := va_K.moved hvm.symm hK1
  obtain ⟨hP, hD⟩ := va_join (wr := [(h0, .inr (23, [v0, v1, v2, v3, v4, .null, v5, v6, v7]))]) (w1 := []) hP hD [] [0] rfl rfl (by decide) (by decide) hk1 hFc hP1 hD1
  have hK := (hK.sub (tys' := []) [] rfl).app hK1
  generalize H1 = H at hP hS ⊢
  have hP : va_P (dC, dI) vwCl [(h0, .inr (23, [v0, v1, v2, v3, v4, .null, v5, v6, v7]))] H := hP
  have hD : va_D A [(h0, .inr (23, [v0, v1, v2, v3, v4, .null, v5, v6, v7]))] := hD
  have hK : va_K (dC, dI) vwCl [] s := hK
  refine W.widen (k := 0) (n := 0) (Nat.le_of_ble_eq_true rfl) (Nat.le_of_ble_eq_true rfl) ?_
  refine lv_if_ne (tgt := 15) hx hb dX16_ofCode_8 (by decide) (fun c1 => ?_) (fun c1 => absurd c1 (by decide))
  refine lv_iconst (v := 0) hx hb dX16_ofCode_15 (by decide) ?_
  refine lv_iconst (v := 1) hx hb dX16_ofCode_16 (by decide) ?_
  have hPc := hP.sub (ws' := [(h0, .inr (23, [v0, v1, v2, v3, v4, .null, v5, v6, v7]))]) [0] rfl
  have hDc := hD.sub (ws' := [(h0, .inr (23, [v0, v1, v2, v3, v4, .null, v5, v6, v7]))]) [0] (by decide) rfl
  have hKc := hK.sub (tys' := []) [] rfl
  have hFc := va_free (wc := [(h0, .inr (23, [v0, v1, v2, v3, v4, .null, v5, v6, v7]))]) hD hS hA [0] rfl
  refine va_calli (va_runV (As := [.int 0, .int 1]) (rest := []) ⟨hx, hb, hml, hown, hts⟩ (kX16_start_2 l dC dI g H.size h0 v0 v1 v2 v3 v4 .null v5 v6 v7 ) (cwV 2 hts (ns_gp (List.forall_mem_cons.mpr ⟨wm242, (List.forall_mem_cons.mpr ⟨wm243, (List.forall_mem_cons.mpr ⟨wm244, (List.forall_mem_cons.mpr ⟨wm192, (fun _ h9 => nomatch h9)⟩)⟩)⟩)⟩) wm239) rfl rfl rfl (by decide +kernel) ⟨Nat.le_of_ble_eq_true rfl, Nat.le_of_ble_eq_true rfl⟩) ⟨fun a U gg mk q => by obtain ⟨q0, q1, qP, qK, qD, qF⟩ := q; exact ⟨q0, q1, qP, va_K.moved (u := U) (U := U.calling gg mk a) (Vm.Alike.refl U.vm) qK, qD, ns_same qF⟩, va_recv hK hP (ci := 23) (q0 := 0) rfl rfl, fun U hU hW => ⟨rfl, by rw [hU], by rw [hU]; exact hPc, va_K.moved hW.alike hKc, hDc.weaken (fun _ _ _ _ => trivial), ns_call hF hS hFc hU hW⟩⟩ rfl rfl hl.1 rfl (lv_room (Nat.le_of_ble_eq_true rfl)) dX16_ofCode_17 ⟨Nat.le_of_ble_eq_true rfl, Nat.le_of_ble_eq_true rfl⟩) hS (fun q _ h => hFc q h) hFc (fun r9 u t H1 locs ht hvm hw hB hz1 hk1 hS => ?_)
  obtain rfl := hw.symm
  obtain ⟨hP1, hK1, hD1⟩ := hB
  rw [ht] at hP1
  have hK1 := va_K.moved hvm.symm hK1
  obtain ⟨hP, hD⟩ := va_join (wr := []) (w1 := [(h0, .inr (23, [.int 0, v1, v2, v3, v4, .null, v5, v6, v7]))]) hP hD [0] [] rfl rfl (by decide) (by decide) hk1 hFc hP1 hD1
  have hK := (hK.sub (tys' := []) [] rfl).app hK1
  generalize H1 = H at hP hS ⊢
  have hP : va_P (dC, dI) vwCl [(h0, .inr (23, [.int 0, v1, v2, v3, v4, .null, v5, v6, v7]))] H := hP
  have hD : va_D A [(h0, .inr (23, [.int 0, v1, v2, v3, v4, .null, v5, v6, v7]))] := hD
  have hK : va_K (dC, dI) vwCl [] s := hK
  refine W.widen (k := 0) (n := 0) (Nat.le_of_ble_eq_true rfl) (Nat.le_of_ble_eq_true rfl) ?_
  refine lv_if_eq (tgt := 27) hx hb dX16_ofCode_20 (by decide) (fun c2 => ?_) (fun c2 => absurd (by decide) c2)
  refine lv_aload_n hx hb dX16_ofCode_27 rfl (lv_at hl 0 rfl) ?_
  refine lv_iload_n hx hb dX16_ofCode_28 rfl (lv_at hl 1 rfl) ?_
  have hPc := hP.sub (ws' := [(h0, .inr (23, [.int 0, v1, v2, v3, v4, .null, v5, v6, v7]))]) [0] rfl
  have hDc := hD.sub (ws' := [(h0, .inr (23, [.int 0, v1, v2, v3, v4, .null, v5, v6, v7]))]) [0] (by decide) rfl
  have hKc := hK.sub (tys' := []) [] rfl
  have hFc := va_free (wc := [(h0, .inr (23, [.int 0, v1, v2, v3, v4, .null, v5, v6, v7]))]) hD hS hA [0] rfl
  refine va_calli (va_runV (As := [.int x0]) (rest := []) ⟨hx, hb, hml, hown, hts⟩ (kX16_codeTold l dC dI g H.size h0 x0 (.int 0) v1 v2 v3 v4 v5 v6 v7 ⟨by omega, by omega⟩) (cwV 1 hts (ns_gp (List.forall_mem_cons.mpr ⟨wm949, (List.forall_mem_cons.mpr ⟨wm950, (List.forall_mem_cons.mpr ⟨wm951, (List.forall_mem_cons.mpr ⟨wm192, (fun _ h9 => nomatch h9)⟩)⟩)⟩)⟩) wm948) rfl rfl rfl (by decide +kernel) ⟨Nat.le_of_ble_eq_true rfl, Nat.le_of_ble_eq_true rfl⟩) ⟨fun a U gg mk q => by obtain ⟨q0, q1, qP, qK, qD, qF⟩ := q; exact ⟨q0, q1, qP, va_K.moved (u := U) (U := U.calling gg mk a) (Vm.Alike.refl U.vm) qK, qD, ns_same qF⟩, va_recv hK hP (ci := 23) (q0 := 0) rfl rfl, fun U hU hW => ⟨rfl, by rw [hU], by rw [hU]; exact hPc, va_K.moved hW.alike hKc, hDc.weaken (fun _ _ _ _ => trivial), ns_call hF hS hFc hU hW⟩⟩ rfl rfl hl.1 rfl (lv_room (Nat.le_of_ble_eq_true rfl)) dX16_ofCode_29 ⟨Nat.le_of_ble_eq_true rfl, Nat.le_of_ble_eq_true rfl⟩) hS (fun q _ h => hFc q h) hFc (fun r9 u t H1 locs ht hvm hw hB hz1 hk1 hS => ?_)
  obtain rfl := hw.symm
  obtain ⟨hP1, hK1, hD1⟩ := hB
  rw [ht] at hP1
  have hK1 := va_K.moved hvm.symm hK1
  obtain ⟨hP, hD⟩ := va_join (wr := []) (w1 := [(h0, .inr (23, [.int 0, v1, v2, v3, v4, .null, v5, v6, v7]))]) hP hD [0] [] rfl rfl (by decide) (by decide) hk1 hFc hP1 hD1
  have hK := (hK.sub (tys' := []) [] rfl).app hK1
  generalize H1 = H at hP hS ⊢
  have hP : va_P (dC, dI) vwCl [(h0, .inr (23, [.int 0, v1, v2, v3, v4, .null, v5, v6, v7]))] H := hP
  have hD : va_D A [(h0, .inr (23, [.int 0, v1, v2, v3, v4, .null, v5, v6, v7]))] := hD
  have hK : va_K (dC, dI) vwCl [] s := hK
  refine W.widen (k := 0) (n := 0) (Nat.le_of_ble_eq_true rfl) (Nat.le_of_ble_eq_true rfl) ?_
  have hP9 := hP.sub (ws' := [(h0, .inr (23, [.int 0, v1, v2, v3, v4, .null, v5, v6, v7]))]) [0] rfl
  have hD9 := hD.sub (ws' := [(h0, .inr (23, [.int 0, v1, v2, v3, v4, .null, v5, v6, v7]))]) [0] (by decide) rfl
  have hK9 := hK.sub (tys' := []) [] rfl
  refine W.widen (k := 0) (n := 0) (Nat.le_of_ble_eq_true rfl) (Nat.le_of_ble_eq_true rfl) ?_
  exact W.iret (v := 0) hx hb hr (fun t ht hW => ⟨⟨_, (), rfl, rfl, by rw [ht]; exact hP9, va_K.moved hW.alike hK9, hD9⟩, hS.F ht⟩) hS.2.2 dX16_ofCode_32
set_option maxHeartbeats 4000000 in
set_option maxRecDepth 100000 in
theorem kX16_nest (l : Launch) (dC : Nat → ClassId) (dI : Nat → Nat → Nat) (g : Nat → Nat) (sz : Nat) (h0 : Nat) (x0 : Int32) (x1 : Int32) (h1 : Nat) (v0 : Value) (v1 : Value) (v2 : Value) (v3 : Value) (v4 : Value) (v5 : Value) (v6 : Value) (v7 : Value) (v8 : Value) (v9 : Value) : Met l yX16_nest wbX16_nest ({ frames := 2, cells := 0, slots := 0, locals := 44 }) (va_Pc [.ref h0, .int x0, .int x1] (fun U => U.heap.size = sz ∧ va_P (dC, dI) vwCl [(h0, .inr (23, [v0, .ref h1, v1, v2, v3, v4, v5, v6, v7])), (h1, .inr (6, [v8, v9, .int 0]))] U.heap ∧ va_K (dC, dI) vwCl [] U ∧ va_D (fun _ => True) [(h0, .inr (23, [v0, .ref h1, v1, v2, v3, v4, v5, v6, v7])), (h1, .inr (6, [v8, v9, .int 0]))] ∧ ns_F g (va_A [(h0, .inr (23, [v0, .ref h1, v1, v2, v3, v4, v5, v6, v7])), (h1, .inr (6, [v8, v9, .int 0]))] sz) U U.heap)) (va_Qi (fun (r : Int32) (_ : Unit) => r = 0) (fun _ t => va_P (dC, dI) vwCl [(h1, .inr (6, [v8, v9, .int 0])), (h0, .inr (23, [.int 1, .ref h1, v1, v2, v3, v4, v5, v6, v7]))] t.heap ∧ va_K (dC, dI) vwCl [] t ∧ va_D (va_A [(h0, .inr (23, [v0, .ref h1, v1, v2, v3, v4, v5, v6, v7])), (h1, .inr (6, [v8, v9, .int 0]))] sz) [(h1, .inr (6, [v8, v9, .int 0])), (h0, .inr (23, [.int 1, .ref h1, v1, v2, v3, v4, v5, v6, v7]))]) (va_A [(h0, .inr (23, [v0, .ref h1, v1, v2, v3, v4, v5, v6, v7])), (h1, .inr (6, [v8, v9, .int 0]))] sz)) 0 0 (va_A [(h0, .inr (23, [v0, .ref h1, v1, v2, v3, v4, v5, v6, v7])), (h1, .inr (6, [v8, v9, .int 0]))] sz) := by
  refine Met.ofW (cc := cX16_nest) (maxL := 3) (ret := (some .int)) (by decide) rfl ?_
  intro p e s m args below meth c s₁ B hml hv
  obtain ⟨rfl, hsz, hP, hK, hD0, hF⟩ := hv
  have hx := B.exec
  have hb := B.bytes
  have hr := B.returns
  have hts := atoms_spec (ws := wbX16_nest) B.pre
  have hta : ∀ w ∈ wsALL, w.before _ s = true := fun w h => hts w (List.mem_cons_of_mem _ h)
  have hown : s.vm.findClass RX16 = some m.cls := findClass_of_methodNamed B.named
  have hlocks := B.notSynchronized
  subst hsz
  have hD := hD0.self (sz := s.heap.size)
  generalize hAe : va_A [(h0, .inr (23, [v0, .ref h1, v1, v2, v3, v4, v5, v6, v7])), (h1, .inr (6, [v8, v9, .int 0]))] s.heap.size = A at hD hF ⊢
  have hA : ∀ q : Nat, s.heap.size ≤ q → A q := fun q h => by rw [← hAe]; exact Or.inr h
  have hS : va_S A s.heap s.heap [] := va_S.rf
  have hP : va_P (dC, dI) vwCl [(h0, .inr (23, [v0, .ref h1, v1, v2, v3, v4, v5, v6, v7])), (h1, .inr (6, [v8, v9, .int 0]))] s.heap := hP
  have hl := lv_entry ([.ref h0, .int x0, .int x1]) (n := 3) (Nat.le_of_ble_eq_true rfl)
  rw [lg_entry_eq]
  generalize (lg_sl ([.ref h0, .int x0, .int x1]) ++ List.replicate (3 - (lg_sl ([.ref h0, .int x0, .int x1])).length) Slot.unset).toArray = ls at hl ⊢
  have hl : lv_has ls 3 [(0, .ref h0), (1, .int x0), (2, .int x1)] := hl
  refine lv_aload_n hx hb dX16_nest_0 rfl (lv_at hl 0 rfl) ?_
  refine lv_aload_n hx hb dX16_nest_1 rfl (lv_at hl 0 rfl) ?_
  refine lv_iload_n hx hb dX16_nest_2 rfl (lv_at hl 1 rfl) ?_
  have hPc := hP.sub (ws' := [(h0, .inr (23, [v0, .ref h1, v1, v2, v3, v4, v5, v6, v7])), (h1, .inr (6, [v8, v9, .int 0]))]) [0, 1] rfl
  have hDc := hD.sub (ws' := [(h0, .inr (23, [v0, .ref h1, v1, v2, v3, v4, v5, v6, v7])), (h1, .inr (6, [v8, v9, .int 0]))]) [0, 1] (by decide) rfl
  have hKc := hK.sub (tys' := []) [] rfl
  have hFc := va_free (wc := [(h0, .inr (23, [v0, .ref h1, v1, v2, v3, v4, v5, v6, v7])), (h1, .inr (6, [v8, v9, .int 0]))]) hD hS hA [0, 1] rfl
  refine va_calli (va_runV (As := [.int x0]) (rest := [.ref h0]) ⟨hx, hb, hml, hown, hts⟩ (kX16_isNoNode l dC dI g s.heap.size h0 x0 h1 v0 v1 v2 v3 v4 v5 v6 v7 v8 v9 ) (cwV 1 hts (ns_gp (List.forall_mem_cons.mpr ⟨wm449, (List.forall_mem_cons.mpr ⟨wm450, (List.forall_mem_cons.mpr ⟨wm451, (List.forall_mem_cons.mpr ⟨wm192, (fun _ h9 => nomatch h9)⟩)⟩)⟩)⟩) wm448) rfl rfl rfl (by decide +kernel) ⟨Nat.le_of_ble_eq_true rfl, Nat.le_of_ble_eq_true rfl⟩) ⟨fun a U gg mk q => by obtain ⟨q0, q1, qP, qK, qD, qF⟩ := q; exact ⟨q0, q1, qP, va_K.moved (u := U) (U := U.calling gg mk a) (Vm.Alike.refl U.vm) qK, qD, ns_same qF⟩, va_recv hK hP (ci := 23) (q0 := 0) rfl rfl, fun U hU hW => ⟨rfl, by rw [hU], by rw [hU]; exact hPc, va_K.moved hW.alike hKc, hDc.weaken (fun _ _ _ _ => trivial), ns_call hF hS hFc hU hW⟩⟩ rfl rfl hl.1 rfl (lv_room (Nat.le_of_ble_eq_true rfl)) dX16_nest_3 ⟨Nat.le_of_ble_eq_true rfl, Nat.le_of_ble_eq_true rfl⟩) hS (fun q _ h => hFc q h) hFc (fun r9 u t H1 locs ht hvm hw hB hz1 hk1 hS => ?_)
  obtain rfl := hw.symm
  obtain ⟨hP1, hK1, hD1⟩ := hB
  rw [ht] at hP1
  have hK1 := va_K.moved hvm.symm hK1
  obtain ⟨hP, hD⟩ := va_join (wr := []) (w1 := [(h0, .inr (23, [v0, .ref h1, v1, v2, v3, v4, v5, v6, v7])), (h1, .inr (6, [v8, v9, .int 0]))]) hP hD [0, 1] [] rfl rfl (by decide) (by decide) hk1 hFc hP1 hD1
  have hK := (hK.sub (tys' := []) [] rfl).app hK1
  generalize H1 = H at hP hS ⊢
  have hP : va_P (dC, dI) vwCl [(h0, .inr (23, [v0, .ref h1, v1, v2, v3, v4, v5, v6, v7])), (h1, .inr (6, [v8, v9, .int 0]))] H := hP
  have hD : va_D A [(h0, .inr (23, [v0, .ref h1, v1, v2, v3, v4, v5, v6, v7])), (h1, .inr (6, [v8, v9, .int 0]))] := hD
  have hK : va_K (dC, dI) vwCl [] s := hK
  refine W.widen (k := 0) (n := 0) (Nat.le_of_ble_eq_true rfl) (Nat.le_of_ble_eq_true rfl) ?_
  refine lv_iconst (v := 1) hx hb dX16_nest_6 (by decide) ?_
  have hPc := hP.sub (ws' := [(h0, .inr (23, [v0, .ref h1, v1, v2, v3, v4, v5, v6, v7]))]) [0] rfl
  have hDc := hD.sub (ws' := [(h0, .inr (23, [v0, .ref h1, v1, v2, v3, v4, v5, v6, v7]))]) [0] (by decide) rfl
  have hKc := hK.sub (tys' := []) [] rfl
  have hFc := va_free (wc := [(h0, .inr (23, [v0, .ref h1, v1, v2, v3, v4, v5, v6, v7]))]) hD hS hA [0] rfl
  refine va_calli (va_runV (As := [.int 1, .int 1]) (rest := []) ⟨hx, hb, hml, hown, hts⟩ (kX16_start l dC dI g H.size h0 v0 (.ref h1) v1 v2 v3 v4 v5 v6 v7 ) (cwV 2 hts (ns_gp (List.forall_mem_cons.mpr ⟨wm242, (List.forall_mem_cons.mpr ⟨wm243, (List.forall_mem_cons.mpr ⟨wm244, (List.forall_mem_cons.mpr ⟨wm192, (fun _ h9 => nomatch h9)⟩)⟩)⟩)⟩) wm239) rfl rfl rfl (by decide +kernel) ⟨Nat.le_of_ble_eq_true rfl, Nat.le_of_ble_eq_true rfl⟩) ⟨fun a U gg mk q => by obtain ⟨q0, q1, qP, qK, qD, qF⟩ := q; exact ⟨q0, q1, qP, va_K.moved (u := U) (U := U.calling gg mk a) (Vm.Alike.refl U.vm) qK, qD, ns_same qF⟩, va_recv hK hP (ci := 23) (q0 := 0) rfl rfl, fun U hU hW => ⟨rfl, by rw [hU], by rw [hU]; exact hPc, va_K.moved hW.alike hKc, hDc.weaken (fun _ _ _ _ => trivial), ns_call hF hS hFc hU hW⟩⟩ rfl rfl hl.1 rfl (lv_room (Nat.le_of_ble_eq_true rfl)) dX16_nest_7 ⟨Nat.le_of_ble_eq_true rfl, Nat.le_of_ble_eq_true rfl⟩) hS (fun q _ h => hFc q h) hFc (fun r9 u t H1 locs ht hvm hw hB hz1 hk1 hS => ?_)
  obtain rfl := hw.symm
  obtain ⟨hP1, hK1, hD1⟩ := hB
  rw [ht] at hP1
  have hK1 := va_K.moved hvm.symm hK1
  obtain ⟨hP, hD⟩ := va_join (wr := [(h1, .inr (6, [v8, v9, .int 0]))]) (w1 := [(h0, .inr (23, [.int 1, .ref h1, v1, v2, v3, v4, v5, v6, v7]))]) hP hD [0] [1] rfl rfl (by decide) (by decide) hk1 hFc hP1 hD1
  have hK := (hK.sub (tys' := []) [] rfl).app hK1
  generalize H1 = H at hP hS ⊢
  have hP : va_P (dC, dI) vwCl [(h1, .inr (6, [v8, v9, .int 0])), (h0, .inr (23, [.int 1, .ref h1, v1, v2, v3, v4, v5, v6, v7]))] H := hP
  have hD : va_D A [(h1, .inr (6, [v8, v9, .int 0])), (h0, .inr (23, [.int 1, .ref h1, v1, v2, v3, v4, v5, v6, v7]))] := hD
  have hK : va_K (dC, dI) vwCl [] s := hK
  refine W.widen (k := 0) (n := 0) (Nat.le_of_ble_eq_true rfl) (Nat.le_of_ble_eq_true rfl) ?_
  refine lv_if_ne (tgt := 36) hx hb dX16_nest_10 (by decide) (fun c1 => ?_) (fun c1 => absurd c1 (by decide))
  refine lv_iconst (v := 0) hx hb dX16_nest_36 (by decide) ?_
  refine lv_goto (tgt := 71) hx hb dX16_nest_37 (by decide) ?_
  have hP9 := hP.sub (ws' := [(h1, .inr (6, [v8, v9, .int 0])), (h0, .inr (23, [.int 1, .ref h1, v1, v2, v3, v4, v5, v6, v7]))]) [0, 1] rfl
  have hD9 := hD.sub (ws' := [(h1, .inr (6, [v8, v9, .int 0])), (h0, .inr (23, [.int 1, .ref h1, v1, v2, v3, v4, v5, v6, v7]))]) [0, 1] (by decide) rfl
  have hK9 := hK.sub (tys' := []) [] rfl
  refine W.widen (k := 0) (n := 0) (Nat.le_of_ble_eq_true rfl) (Nat.le_of_ble_eq_true rfl) ?_
  exact W.iret (v := 0) hx hb hr (fun t ht hW => ⟨⟨_, (), rfl, rfl, by rw [ht]; exact hP9, va_K.moved hW.alike hK9, hD9⟩, hS.F ht⟩) hS.2.2 dX16_nest_71
set_option maxHeartbeats 4000000 in
set_option maxRecDepth 100000 in
theorem kX9_stateOf_8 (l : Launch) (dC : Nat → ClassId) (dI : Nat → Nat → Nat) (g : Nat → Nat) (sz : Nat) (h0 : Nat) (h1 : Nat) (h2 : Nat) (v0 : Value) (v1 : Value) (v2 : Value) (v3 : Value) (v4 : Value) (v5 : Value) (v6 : Value) (v7 : Value) (v8 : Value) (v9 : Value) (v10 : Value) (v11 : Value) (v12 : Value) (v13 : Value) (v14 : Value) (v15 : Value) (v16 : Value) (v17 : Value) (v18 : Value) (v19 : Value) (v20 : Value) (v21 : Value) (v22 : Value) (v23 : Value) : Met l yX9_stateOf wbX9_stateOf ({ frames := 2, cells := 0, slots := 0, locals := 42 }) (va_Pc [.ref h0, .int 7] (fun U => U.heap.size = sz ∧ va_P (dC, dI) vwCl [(h0, .inr (16, [.ref h1, v0, v1, v2, v3, v4, v5, v6, v7, v8, v9, v10, v11, v12, v13, v14])), (h1, .inr (10, [.ref h2, v15, v16, v17, v18, v19, v20, v21, v22])), (h2, .inr (11, [v23, .int 0]))] U.heap ∧ va_K (dC, dI) vwCl [] U ∧ va_D (fun _ => True) [(h0, .inr (16, [.ref h1, v0, v1, v2, v3, v4, v5, v6, v7, v8, v9, v10, v11, v12, v13, v14])), (h1, .inr (10, [.ref h2, v15, v16, v17, v18, v19, v20, v21, v22])), (h2, .inr (11, [v23, .int 0]))] ∧ ns_F g (va_A [(h0, .inr (16, [.ref h1, v0, v1, v2, v3, v4, v5, v6, v7, v8, v9, v10, v11, v12, v13, v14])), (h1, .inr (10, [.ref h2, v15, v16, v17, v18, v19, v20, v21, v22])), (h2, .inr (11, [v23, .int 0]))] sz) U U.heap)) (va_Qi (fun (r : Int32) (_ : Unit) => r = 0) (fun _ t => va_P (dC, dI) vwCl [(h0, .inr (16, [.ref h1, v0, v1, v2, v3, v4, v5, v6, v7, v8, v9, v10, v11, v12, v13, v14])), (h1, .inr (10, [.ref h2, v15, v16, v17, v18, v19, v20, v21, v22])), (h2, .inr (11, [v23, .int 0]))] t.heap ∧ va_K (dC, dI) vwCl [] t ∧ va_D (va_A [(h0, .inr (16, [.ref h1, v0, v1, v2, v3, v4, v5, v6, v7, v8, v9, v10, v11, v12, v13, v14])), (h1, .inr (10, [.ref h2, v15, v16, v17, v18, v19, v20, v21, v22])), (h2, .inr (11, [v23, .int 0]))] sz) [(h0, .inr (16, [.ref h1, v0, v1, v2, v3, v4, v5, v6, v7, v8, v9, v10, v11, v12, v13, v14])), (h1, .inr (10, [.ref h2, v15, v16, v17, v18, v19, v20, v21, v22])), (h2, .inr (11, [v23, .int 0]))]) (va_A [(h0, .inr (16, [.ref h1, v0, v1, v2, v3, v4, v5, v6, v7, v8, v9, v10, v11, v12, v13, v14])), (h1, .inr (10, [.ref h2, v15, v16, v17, v18, v19, v20, v21, v22])), (h2, .inr (11, [v23, .int 0]))] sz)) 0 0 (va_A [(h0, .inr (16, [.ref h1, v0, v1, v2, v3, v4, v5, v6, v7, v8, v9, v10, v11, v12, v13, v14])), (h1, .inr (10, [.ref h2, v15, v16, v17, v18, v19, v20, v21, v22])), (h2, .inr (11, [v23, .int 0]))] sz) := by
  refine Met.ofW (cc := cX9_stateOf) (maxL := 2) (ret := (some .int)) (by decide) rfl ?_
  intro p e s m args below meth c s₁ B hml hv
  obtain ⟨rfl, hsz, hP, hK, hD0, hF⟩ := hv
  have hx := B.exec
  have hb := B.bytes
  have hr := B.returns
  have hts := atoms_spec (ws := wbX9_stateOf) B.pre
  have hta : ∀ w ∈ wsALL, w.before _ s = true := fun w h => hts w (List.mem_cons_of_mem _ h)
  have hown : s.vm.findClass RX9 = some m.cls := findClass_of_methodNamed B.named
  have hlocks := B.notSynchronized
  subst hsz
  have hD := hD0.self (sz := s.heap.size)
  generalize hAe : va_A [(h0, .inr (16, [.ref h1, v0, v1, v2, v3, v4, v5, v6, v7, v8, v9, v10, v11, v12, v13, v14])), (h1, .inr (10, [.ref h2, v15, v16, v17, v18, v19, v20, v21, v22])), (h2, .inr (11, [v23, .int 0]))] s.heap.size = A at hD hF ⊢
  have hA : ∀ q : Nat, s.heap.size ≤ q → A q := fun q h => by rw [← hAe]; exact Or.inr h
  have hS : va_S A s.heap s.heap [] := va_S.rf
  have hP : va_P (dC, dI) vwCl [(h0, .inr (16, [.ref h1, v0, v1, v2, v3, v4, v5, v6, v7, v8, v9, v10, v11, v12, v13, v14])), (h1, .inr (10, [.ref h2, v15, v16, v17, v18, v19, v20, v21, v22])), (h2, .inr (11, [v23, .int 0]))] s.heap := hP
  have hl := lv_entry ([.ref h0, .int 7]) (n := 2) (Nat.le_of_ble_eq_true rfl)
  rw [lg_entry_eq]
  generalize (lg_sl ([.ref h0, .int 7]) ++ List.replicate (2 - (lg_sl ([.ref h0, .int 7])).length) Slot.unset).toArray = ls at hl ⊢
  have hl : lv_has ls 2 [(0, .ref h0), (1, .int 7)] := hl
  refine lv_iload_n hx hb dX9_stateOf_0 rfl (lv_at hl 1 rfl) ?_
  refine lv_tableOut (tgt := 85) hx hb dX9_stateOf_1 (by decide) (by decide) ?_
  refine lv_aload_n hx hb dX9_stateOf_85 rfl (lv_at hl 0 rfl) ?_
  refine va_get (D := (dC, dI)) (ci := 16) (v := .ref h1) (C := RX9) (T := TX9) (N := 16) hx hb hta naX9 hown hK hP 0 rfl rfl 0 (by decide) (hta _ wm30) (fun _ h9 => h9) rfl dX9_stateOf_86 ?_
  have hPc := hP.sub (ws' := [(h1, .inr (10, [.ref h2, v15, v16, v17, v18, v19, v20, v21, v22])), (h2, .inr (11, [v23, .int 0]))]) [1, 2] rfl
  have hDc := hD.sub (ws' := [(h1, .inr (10, [.ref h2, v15, v16, v17, v18, v19, v20, v21, v22])), (h2, .inr (11, [v23, .int 0]))]) [1, 2] (by decide) rfl
  have hKc := hK.sub (tys' := []) [] rfl
  have hFc := va_free (wc := [(h1, .inr (10, [.ref h2, v15, v16, v17, v18, v19, v20, v21, v22])), (h2, .inr (11, [v23, .int 0]))]) hD hS hA [1, 2] rfl
  refine va_calli (va_runV (As := []) (rest := []) ⟨hx, hb, hml, hown, hts⟩ (kX3_weightOfAll l dC dI g s.heap.size h1 h2 v15 v16 v17 v18 v19 v20 v21 v22 v23 ) (cwV 0 hts (ns_gp (List.forall_mem_cons.mpr ⟨wm1001, (List.forall_mem_cons.mpr ⟨wm1002, (List.forall_mem_cons.mpr ⟨wm1003, (List.forall_mem_cons.mpr ⟨wm8, (fun _ h9 => nomatch h9)⟩)⟩)⟩)⟩) wm1000) rfl rfl rfl (by decide +kernel) ⟨Nat.le_of_ble_eq_true rfl, Nat.le_of_ble_eq_true rfl⟩) ⟨fun a U gg mk q => by obtain ⟨q0, q1, qP, qK, qD, qF⟩ := q; exact ⟨q0, q1, qP, va_K.moved (u := U) (U := U.calling gg mk a) (Vm.Alike.refl U.vm) qK, qD, ns_same qF⟩, va_recv hK hP (ci := 10) (q0 := 1) rfl rfl, fun U hU hW => ⟨rfl, by rw [hU], by rw [hU]; exact hPc, va_K.moved hW.alike hKc, hDc.weaken (fun _ _ _ _ => trivial), ns_call hF hS hFc hU hW⟩⟩ rfl rfl hl.1 rfl (lv_room (Nat.le_of_ble_eq_true rfl)) dX9_stateOf_89 ⟨Nat.le_of_ble_eq_true rfl, Nat.le_of_ble_eq_true rfl⟩) hS (fun q _ h => hFc q h) hFc (fun r9 u t H1 locs ht hvm hw hB hz1 hk1 hS => ?_)
  obtain rfl := hw.symm
  obtain ⟨hP1, hK1, hD1⟩ := hB
  rw [ht] at hP1
  have hK1 := va_K.moved hvm.symm hK1
  obtain ⟨hP, hD⟩ := va_join (wr := [(h0, .inr (16, [.ref h1, v0, v1, v2, v3, v4, v5, v6, v7, v8, v9, v10, v11, v12, v13, v14]))]) (w1 := [(h1, .inr (10, [.ref h2, v15, v16, v17, v18, v19, v20, v21, v22])), (h2, .inr (11, [v23, .int 0]))]) hP hD [1, 2] [0] rfl rfl (by decide) (by decide) hk1 hFc hP1 hD1
  have hK := (hK.sub (tys' := []) [] rfl).app hK1
  generalize H1 = H at hP hS ⊢
  have hP : va_P (dC, dI) vwCl [(h0, .inr (16, [.ref h1, v0, v1, v2, v3, v4, v5, v6, v7, v8, v9, v10, v11, v12, v13, v14])), (h1, .inr (10, [.ref h2, v15, v16, v17, v18, v19, v20, v21, v22])), (h2, .inr (11, [v23, .int 0]))] H := hP
  have hD : va_D A [(h0, .inr (16, [.ref h1, v0, v1, v2, v3, v4, v5, v6, v7, v8, v9, v10, v11, v12, v13, v14])), (h1, .inr (10, [.ref h2, v15, v16, v17, v18, v19, v20, v21, v22])), (h2, .inr (11, [v23, .int 0]))] := hD
  have hK : va_K (dC, dI) vwCl [] s := hK
  refine W.widen (k := 0) (n := 0) (Nat.le_of_ble_eq_true rfl) (Nat.le_of_ble_eq_true rfl) ?_
  have hP9 := hP.sub (ws' := [(h0, .inr (16, [.ref h1, v0, v1, v2, v3, v4, v5, v6, v7, v8, v9, v10, v11, v12, v13, v14])), (h1, .inr (10, [.ref h2, v15, v16, v17, v18, v19, v20, v21, v22])), (h2, .inr (11, [v23, .int 0]))]) [0, 1, 2] rfl
  have hD9 := hD.sub (ws' := [(h0, .inr (16, [.ref h1, v0, v1, v2, v3, v4, v5, v6, v7, v8, v9, v10, v11, v12, v13, v14])), (h1, .inr (10, [.ref h2, v15, v16, v17, v18, v19, v20, v21, v22])), (h2, .inr (11, [v23, .int 0]))]) [0, 1, 2] (by decide) rfl
  have hK9 := hK.sub (tys' := []) [] rfl
  refine W.widen (k := 0) (n := 0) (Nat.le_of_ble_eq_true rfl) (Nat.le_of_ble_eq_true rfl) ?_
  exact W.iret (v := 0) hx hb hr (fun t ht hW => ⟨⟨_, (), rfl, rfl, by rw [ht]; exact hP9, va_K.moved hW.alike hK9, hD9⟩, hS.F ht⟩) hS.2.2 dX9_stateOf_92
set_option maxHeartbeats 4000000 in
set_option maxRecDepth 100000 in
theorem kX16_word_28 (l : Launch) (dC : Nat → ClassId) (dI : Nat → Nat → Nat) (g : Nat → Nat) (sz : Nat) (h0 : Nat) (x0 : Int32) (v0 : Value) (v1 : Value) (v2 : Value) (v3 : Value) (v4 : Value) (v5 : Value) (v6 : Value) (v7 : Value) (v8 : Value) (ex0 : (26 : Int) ≤ x0.toInt ∧ x0.toInt ≤ (2147483647 : Int)) : Met l yX16_word wbX16_word ({ frames := 2, cells := 0, slots := 0, locals := 44 }) (va_Pc [.ref h0, .int x0, .int 5] (fun U => U.heap.size = sz ∧ va_P (dC, dI) vwCl [(h0, .inr (23, [v0, v1, v2, v3, v4, v5, v6, v7, v8]))] U.heap ∧ va_K (dC, dI) vwCl [] U ∧ va_D (fun _ => True) [(h0, .inr (23, [v0, v1, v2, v3, v4, v5, v6, v7, v8]))] ∧ ns_F g (va_A [(h0, .inr (23, [v0, v1, v2, v3, v4, v5, v6, v7, v8]))] sz) U U.heap)) (va_Qi (fun (r : Int32) (_ : Unit) => r = 0) (fun _ t => va_P (dC, dI) vwCl [(h0, .inr (23, [.int 1, v1, v2, v3, v4, v5, v6, v7, v8]))] t.heap ∧ va_K (dC, dI) vwCl [] t ∧ va_D (va_A [(h0, .inr (23, [v0, v1, v2, v3, v4, v5, v6, v7, v8]))] sz) [(h0, .inr (23, [.int 1, v1, v2, v3, v4, v5, v6, v7, v8]))]) (va_A [(h0, .inr (23, [v0, v1, v2, v3, v4, v5, v6, v7, v8]))] sz)) 0 0 (va_A [(h0, .inr (23, [v0, v1, v2, v3, v4, v5, v6, v7, v8]))] sz) := by
  refine Met.ofW (cc := cX16_word) (maxL := 5) (ret := (some .int)) (by decide) rfl ?_
  intro p e s m args below meth c s₁ B hml hv
  obtain ⟨rfl, hsz, hP, hK, hD0, hF⟩ := hv
  have hx := B.exec
  have hb := B.bytes
  have hr := B.returns
  have hts := atoms_spec (ws := wbX16_word) B.pre
  have hta : ∀ w ∈ wsALL, w.before _ s = true := fun w h => hts w (List.mem_cons_of_mem _ h)
  have hown : s.vm.findClass RX16 = some m.cls := findClass_of_methodNamed B.named
  have hlocks := B.notSynchronized
  subst hsz
  have hD := hD0.self (sz := s.heap.size)
  generalize hAe : va_A [(h0, .inr (23, [v0, v1, v2, v3, v4, v5, v6, v7, v8]))] s.heap.size = A at hD hF ⊢
  have hA : ∀ q : Nat, s.heap.size ≤ q → A q := fun q h => by rw [← hAe]; exact Or.inr h
  have hS : va_S A s.heap s.heap [] := va_S.rf
  have hP : va_P (dC, dI) vwCl [(h0, .inr (23, [v0, v1, v2, v3, v4, v5, v6, v7, v8]))] s.heap := hP
  have hl := lv_entry ([.ref h0, .int x0, .int 5]) (n := 5) (Nat.le_of_ble_eq_true rfl)
  rw [lg_entry_eq]
  generalize (lg_sl ([.ref h0, .int x0, .int 5]) ++ List.replicate (5 - (lg_sl ([.ref h0, .int x0, .int 5])).length) Slot.unset).toArray = ls at hl ⊢
  have hl : lv_has ls 5 [(0, .ref h0), (1, .int x0), (2, .int 5)] := hl
  refine lv_aload_n hx hb dX16_word_0 rfl (lv_at hl 0 rfl) ?_
  refine lv_iload_n hx hb dX16_word_1 rfl (lv_at hl 1 rfl) ?_
  refine lv_iconst (v := 0) hx hb dX16_word_2 (by decide) ?_
  refine lv_bipush (v := 25) hx hb dX16_word_3 (by decide) ?_
  have hPc := hP.sub (ws' := []) [] rfl
  have hDc := hD.sub (ws' := []) [] (by decide) rfl
  have hKc := hK.sub (tys' := []) [] rfl
  have hFc := va_free (wc := []) hD hS hA [] rfl
  refine va_calli (va_runS (As := [.int x0, .int 0, .int 25]) (rest := [.ref h0]) ⟨hx, hb, hml, hown, hts⟩ (kX16_isIn_14 l dC dI g s.heap.size x0 ⟨by omega, by omega⟩) (va_cwS 3 hts (ns_gp (List.forall_mem_cons.mpr ⟨wm240, (List.forall_mem_cons.mpr ⟨wm241, (List.forall_mem_cons.mpr ⟨wm192, (fun _ h9 => nomatch h9)⟩)⟩)⟩) wm233) rfl rfl rfl (by decide +kernel) ⟨Nat.le_of_ble_eq_true rfl, Nat.le_of_ble_eq_true rfl⟩) ⟨fun a U gg mk q => by obtain ⟨q0, q1, qP, qK, qD, qF⟩ := q; exact ⟨q0, q1, qP, va_K.moved (u := U) (U := U.calling gg mk a) (Vm.Alike.refl U.vm) qK, qD, ns_same qF⟩, fun U hU hW => ⟨rfl, by rw [hU], by rw [hU]; exact hPc, va_K.moved hW.alike hKc, hDc.weaken (fun _ _ _ _ => trivial), ns_call hF hS hFc hU hW⟩⟩ rfl rfl hl.1 rfl (lv_room (Nat.le_of_ble_eq_true rfl)) dX16_word_5 ⟨Nat.le_of_ble_eq_true rfl, Nat.le_of_ble_eq_true rfl⟩) hS (fun q _ h => hFc q h) hFc (fun r9 u t H1 locs ht hvm hw hB hz1 hk1 hS => ?_)
  obtain rfl := hw.symm
  obtain ⟨hP1, hK1, hD1⟩ := hB
  rw [ht] at hP1
  have hK1 := va_K.moved hvm.symm hK1
  obtain ⟨hP, hD⟩ := va_join (wr := [(h0, .inr (23, [v0, v1, v2, v3, v4, v5, v6, v7, v8]))]) (w1 := []) hP hD [] [0] rfl rfl (by decide) (by decide) hk1 hFc hP1 hD1
  have hK := (hK.sub (tys' := []) [] rfl).app hK1
  generalize H1 = H at hP hS ⊢
  have hP : va_P (dC, dI) vwCl [(h0, .inr (23, [v0, v1, v2, v3, v4, v5, v6, v7, v8]))] H := hP
  have hD : va_D A [(h0, .inr (23, [v0, v1, v2, v3, v4, v5, v6, v7, v8]))] := hD
  have hK : va_K (dC, dI) vwCl [] s := hK
  refine W.widen (k := 0) (n := 0) (Nat.le_of_ble_eq_true rfl) (Nat.le_of_ble_eq_true rfl) ?_
  refine lv_if_eq (tgt := 21) hx hb dX16_word_8 (by decide) (fun c1 => ?_) (fun c1 => absurd (by decide) c1)
  refine lv_iconst (v := 1) hx hb dX16_word_21 (by decide) ?_
  refine lv_goto (tgt := 26) hx hb dX16_word_22 (by decide) ?_
  refine lv_iconst (v := 1) hx hb dX16_word_26 (by decide) ?_
  have hPc := hP.sub (ws' := [(h0, .inr (23, [v0, v1, v2, v3, v4, v5, v6, v7, v8]))]) [0] rfl
  have hDc := hD.sub (ws' := [(h0, .inr (23, [v0, v1, v2, v3, v4, v5, v6, v7, v8]))]) [0] (by decide) rfl
  have hKc := hK.sub (tys' := []) [] rfl
  have hFc := va_free (wc := [(h0, .inr (23, [v0, v1, v2, v3, v4, v5, v6, v7, v8]))]) hD hS hA [0] rfl
  refine va_calli (va_runV (As := [.int 1, .int 1]) (rest := []) ⟨hx, hb, hml, hown, hts⟩ (kX16_start l dC dI g H.size h0 v0 v1 v2 v3 v4 v5 v6 v7 v8 ) (cwV 2 hts (ns_gp (List.forall_mem_cons.mpr ⟨wm242, (List.forall_mem_cons.mpr ⟨wm243, (List.forall_mem_cons.mpr ⟨wm244, (List.forall_mem_cons.mpr ⟨wm192, (fun _ h9 => nomatch h9)⟩)⟩)⟩)⟩) wm239) rfl rfl rfl (by decide +kernel) ⟨Nat.le_of_ble_eq_true rfl, Nat.le_of_ble_eq_true rfl⟩) ⟨fun a U gg mk q => by obtain ⟨q0, q1, qP, qK, qD, qF⟩ := q; exact ⟨q0, q1, qP, va_K.moved (u := U) (U := U.calling gg mk a) (Vm.Alike.refl U.vm) qK, qD, ns_same qF⟩, va_recv hK hP (ci := 23) (q0 := 0) rfl rfl, fun U hU hW => ⟨rfl, by rw [hU], by rw [hU]; exact hPc, va_K.moved hW.alike hKc, hDc.weaken (fun _ _ _ _ => trivial), ns_call hF hS hFc hU hW⟩⟩ rfl rfl hl.1 rfl (lv_room (Nat.le_of_ble_eq_true rfl)) dX16_word_27 ⟨Nat.le_of_ble_eq_true rfl, Nat.le_of_ble_eq_true rfl⟩) hS (fun q _ h => hFc q h) hFc (fun r9 u t H1 locs ht hvm hw hB hz1 hk1 hS => ?_)
  obtain rfl := hw.symm
  obtain ⟨hP1, hK1, hD1⟩ := hB
  rw [ht] at hP1
  have hK1 := va_K.moved hvm.symm hK1
  obtain ⟨hP, hD⟩ := va_join (wr := []) (w1 := [(h0, .inr (23, [.int 1, v1, v2, v3, v4, v5, v6, v7, v8]))]) hP hD [0] [] rfl rfl (by decide) (by decide) hk1 hFc hP1 hD1
  have hK := (hK.sub (tys' := []) [] rfl).app hK1
  generalize H1 = H at hP hS ⊢
  have hP : va_P (dC, dI) vwCl [(h0, .inr (23, [.int 1, v1, v2, v3, v4, v5, v6, v7, v8]))] H := hP
  have hD : va_D A [(h0, .inr (23, [.int 1, v1, v2, v3, v4, v5, v6, v7, v8]))] := hD
  have hK : va_K (dC, dI) vwCl [] s := hK
  refine W.widen (k := 0) (n := 0) (Nat.le_of_ble_eq_true rfl) (Nat.le_of_ble_eq_true rfl) ?_
  refine lv_if_ne (tgt := 45) hx hb dX16_word_30 (by decide) (fun c2 => ?_) (fun c2 => absurd c2 (by decide))
  refine lv_iconst (v := 0) hx hb dX16_word_45 (by decide) ?_
  have hP9 := hP.sub (ws' := [(h0, .inr (23, [.int 1, v1, v2, v3, v4, v5, v6, v7, v8]))]) [0] rfl
  have hD9 := hD.sub (ws' := [(h0, .inr (23, [.int 1, v1, v2, v3, v4, v5, v6, v7, v8]))]) [0] (by decide) rfl
  have hK9 := hK.sub (tys' := []) [] rfl
  refine W.widen (k := 0) (n := 0) (Nat.le_of_ble_eq_true rfl) (Nat.le_of_ble_eq_true rfl) ?_
  exact W.iret (v := 0) hx hb hr (fun t ht hW => ⟨⟨_, (), rfl, rfl, by rw [ht]; exact hP9, va_K.moved hW.alike hK9, hD9⟩, hS.F ht⟩) hS.2.2 dX16_word_46
set_option maxHeartbeats 4000000 in
set_option maxRecDepth 100000 in
theorem kX16_ribbon_3 (l : Launch) (dC : Nat → ClassId) (dI : Nat → Nat → Nat) (g : Nat → Nat) (sz : Nat) (h0 : Nat) (x0 : Int32) (v0 : Value) (v1 : Value) (v2 : Value) (v3 : Value) (v4 : Value) (v5 : Value) (v6 : Value) (v7 : Value) (v8 : Value) (ex0 : (61 : Int) ≤ x0.toInt ∧ x0.toInt ≤ (2147483647 : Int)) : Met l yX16_ribbon wbX16_ribbon ({ frames := 2, cells := 0, slots := 0, locals := 44 }) (va_Pc [.ref h0, .int x0] (fun U => U.heap.size = sz ∧ va_P (dC, dI) vwCl [(h0, .inr (23, [v0, v1, v2, v3, v4, v5, v6, v7, v8]))] U.heap ∧ va_K (dC, dI) vwCl [] U ∧ va_D (fun _ => True) [(h0, .inr (23, [v0, v1, v2, v3, v4, v5, v6, v7, v8]))] ∧ ns_F g (va_A [(h0, .inr (23, [v0, v1, v2, v3, v4, v5, v6, v7, v8]))] sz) U U.heap)) (va_Qi (fun (r : Int32) (_ : Unit) => r = 0) (fun _ t => va_P (dC, dI) vwCl [(h0, .inr (23, [.int 1, v1, v2, v3, v4, v5, v6, v7, v8]))] t.heap ∧ va_K (dC, dI) vwCl [] t ∧ va_D (va_A [(h0, .inr (23, [v0, v1, v2, v3, v4, v5, v6, v7, v8]))] sz) [(h0, .inr (23, [.int 1, v1, v2, v3, v4, v5, v6, v7, v8]))]) (va_A [(h0, .inr (23, [v0, v1, v2, v3, v4, v5, v6, v7, v8]))] sz)) 0 0 (va_A [(h0, .inr (23, [v0, v1, v2, v3, v4, v5, v6, v7, v8]))] sz) := by
  refine Met.ofW (cc := cX16_ribbon) (maxL := 3) (ret := (some .int)) (by decide) rfl ?_
  intro p e s m args below meth c s₁ B hml hv
  obtain ⟨rfl, hsz, hP, hK, hD0, hF⟩ := hv
  have hx := B.exec
  have hb := B.bytes
  have hr := B.returns
  have hts := atoms_spec (ws := wbX16_ribbon) B.pre
  have hta : ∀ w ∈ wsALL, w.before _ s = true := fun w h => hts w (List.mem_cons_of_mem _ h)
  have hown : s.vm.findClass RX16 = some m.cls := findClass_of_methodNamed B.named
  have hlocks := B.notSynchronized
  subst hsz
  have hD := hD0.self (sz := s.heap.size)
  generalize hAe : va_A [(h0, .inr (23, [v0, v1, v2, v3, v4, v5, v6, v7, v8]))] s.heap.size = A at hD hF ⊢
  have hA : ∀ q : Nat, s.heap.size ≤ q → A q := fun q h => by rw [← hAe]; exact Or.inr h
  have hS : va_S A s.heap s.heap [] := va_S.rf
  have hP : va_P (dC, dI) vwCl [(h0, .inr (23, [v0, v1, v2, v3, v4, v5, v6, v7, v8]))] s.heap := hP
  have hl := lv_entry ([.ref h0, .int x0]) (n := 3) (Nat.le_of_ble_eq_true rfl)
  rw [lg_entry_eq]
  generalize (lg_sl ([.ref h0, .int x0]) ++ List.replicate (3 - (lg_sl ([.ref h0, .int x0])).length) Slot.unset).toArray = ls at hl ⊢
  have hl : lv_has ls 3 [(0, .ref h0), (1, .int x0)] := hl
  refine lv_aload_n hx hb dX16_ribbon_0 rfl (lv_at hl 0 rfl) ?_
  refine lv_iload_n hx hb dX16_ribbon_1 rfl (lv_at hl 1 rfl) ?_
  refine lv_iconst (v := 1) hx hb dX16_ribbon_2 (by decide) ?_
  refine lv_bipush (v := 60) hx hb dX16_ribbon_3 (by decide) ?_
  have hPc := hP.sub (ws' := []) [] rfl
  have hDc := hD.sub (ws' := []) [] (by decide) rfl
  have hKc := hK.sub (tys' := []) [] rfl
  have hFc := va_free (wc := []) hD hS hA [] rfl
  refine va_calli (va_runS (As := [.int x0, .int 1, .int 60]) (rest := [.ref h0]) ⟨hx, hb, hml, hown, hts⟩ (kX16_isIn_21 l dC dI g s.heap.size x0 ⟨by omega, by omega⟩) (va_cwS 3 hts (ns_gp (List.forall_mem_cons.mpr ⟨wm240, (List.forall_mem_cons.mpr ⟨wm241, (List.forall_mem_cons.mpr ⟨wm192, (fun _ h9 => nomatch h9)⟩)⟩)⟩) wm233) rfl rfl rfl (by decide +kernel) ⟨Nat.le_of_ble_eq_true rfl, Nat.le_of_ble_eq_true rfl⟩) ⟨fun a U gg mk q => by obtain ⟨q0, q1, qP, qK, qD, qF⟩ := q; exact ⟨q0, q1, qP, va_K.moved (u := U) (U := U.calling gg mk a) (Vm.Alike.refl U.vm) qK, qD, ns_same qF⟩, fun U hU hW => ⟨rfl, by rw [hU], by rw [hU]; exact hPc, va_K.moved hW.alike hKc, hDc.weaken (fun _ _ _ _ => trivial), ns_call hF hS hFc hU hW⟩⟩ rfl rfl hl.1 rfl (lv_room (Nat.le_of_ble_eq_true rfl)) dX16_ribbon_5 ⟨Nat.le_of_ble_eq_true rfl, Nat.le_of_ble_eq_true rfl⟩) hS (fun q _ h => hFc q h) hFc (fun r9 u t H1 locs ht hvm hw hB hz1 hk1 hS => ?_)
  obtain rfl := hw.symm
  obtain ⟨hP1, hK1, hD1⟩ := hB
  rw [ht] at hP1
  have hK1 := va_K.moved hvm.symm hK1
  obtain ⟨hP, hD⟩ := va_join (wr := [(h0, .inr (23, [v0, v1, v2, v3, v4, v5, v6, v7, v8]))]) (w1 := []) hP hD [] [0] rfl rfl (by decide) (by decide) hk1 hFc hP1 hD1
  have hK := (hK.sub (tys' := []) [] rfl).app hK1
  generalize H1 = H at hP hS ⊢
  have hP : va_P (dC, dI) vwCl [(h0, .inr (23, [v0, v1, v2, v3, v4, v5, v6, v7, v8]))] H := hP
  have hD : va_D A [(h0, .inr (23, [v0, v1, v2, v3, v4, v5, v6, v7, v8]))] := hD
  have hK : va_K (dC, dI) vwCl [] s := hK
  refine W.widen (k := 0) (n := 0) (Nat.le_of_ble_eq_true rfl) (Nat.le_of_ble_eq_true rfl) ?_
  refine lv_if_ne (tgt := 15) hx hb dX16_ribbon_8 (by decide) (fun c1 => absurd (by decide) c1) (fun c1 => ?_)
  refine lv_iconst (v := 1) hx hb dX16_ribbon_11 (by decide) ?_
  refine lv_goto (tgt := 16) hx hb dX16_ribbon_12 (by decide) ?_
  refine lv_iconst (v := 1) hx hb dX16_ribbon_16 (by decide) ?_
  have hPc := hP.sub (ws' := [(h0, .inr (23, [v0, v1, v2, v3, v4, v5, v6, v7, v8]))]) [0] rfl
  have hDc := hD.sub (ws' := [(h0, .inr (23, [v0, v1, v2, v3, v4, v5, v6, v7, v8]))]) [0] (by decide) rfl
  have hKc := hK.sub (tys' := []) [] rfl
  have hFc := va_free (wc := [(h0, .inr (23, [v0, v1, v2, v3, v4, v5, v6, v7, v8]))]) hD hS hA [0] rfl
  refine va_calli (va_runV (As := [.int 1, .int 1]) (rest := []) ⟨hx, hb, hml, hown, hts⟩ (kX16_start l dC dI g H.size h0 v0 v1 v2 v3 v4 v5 v6 v7 v8 ) (cwV 2 hts (ns_gp (List.forall_mem_cons.mpr ⟨wm242, (List.forall_mem_cons.mpr ⟨wm243, (List.forall_mem_cons.mpr ⟨wm244, (List.forall_mem_cons.mpr ⟨wm192, (fun _ h9 => nomatch h9)⟩)⟩)⟩)⟩) wm239) rfl rfl rfl (by decide +kernel) ⟨Nat.le_of_ble_eq_true rfl, Nat.le_of_ble_eq_true rfl⟩) ⟨fun a U gg mk q => by obtain ⟨q0, q1, qP, qK, qD, qF⟩ := q; exact ⟨q0, q1, qP, va_K.moved (u := U) (U := U.calling gg mk a) (Vm.Alike.refl U.vm) qK, qD, ns_same qF⟩, va_recv hK hP (ci := 23) (q0 := 0) rfl rfl, fun U hU hW => ⟨rfl, by rw [hU], by rw [hU]; exact hPc, va_K.moved hW.alike hKc, hDc.weaken (fun _ _ _ _ => trivial), ns_call hF hS hFc hU hW⟩⟩ rfl rfl hl.1 rfl (lv_room (Nat.le_of_ble_eq_true rfl)) dX16_ribbon_17 ⟨Nat.le_of_ble_eq_true rfl, Nat.le_of_ble_eq_true rfl⟩) hS (fun q _ h => hFc q h) hFc (fun r9 u t H1 locs ht hvm hw hB hz1 hk1 hS => ?_)
  obtain rfl := hw.symm
  obtain ⟨hP1, hK1, hD1⟩ := hB
  rw [ht] at hP1
  have hK1 := va_K.moved hvm.symm hK1
  obtain ⟨hP, hD⟩ := va_join (wr := []) (w1 := [(h0, .inr (23, [.int 1, v1, v2, v3, v4, v5, v6, v7, v8]))]) hP hD [0] [] rfl rfl (by decide) (by decide) hk1 hFc hP1 hD1
  have hK := (hK.sub (tys' := []) [] rfl).app hK1
  generalize H1 = H at hP hS ⊢
  have hP : va_P (dC, dI) vwCl [(h0, .inr (23, [.int 1, v1, v2, v3, v4, v5, v6, v7, v8]))] H := hP
  have hD : va_D A [(h0, .inr (23, [.int 1, v1, v2, v3, v4, v5, v6, v7, v8]))] := hD
  have hK : va_K (dC, dI) vwCl [] s := hK
  refine W.widen (k := 0) (n := 0) (Nat.le_of_ble_eq_true rfl) (Nat.le_of_ble_eq_true rfl) ?_
  refine lv_if_eq (tgt := 25) hx hb dX16_ribbon_20 (by decide) (fun c2 => absurd c2 (by decide)) (fun c2 => ?_)
  refine lv_iconst (v := 0) hx hb dX16_ribbon_23 (by decide) ?_
  have hP9 := hP.sub (ws' := [(h0, .inr (23, [.int 1, v1, v2, v3, v4, v5, v6, v7, v8]))]) [0] rfl
  have hD9 := hD.sub (ws' := [(h0, .inr (23, [.int 1, v1, v2, v3, v4, v5, v6, v7, v8]))]) [0] (by decide) rfl
  have hK9 := hK.sub (tys' := []) [] rfl
  refine W.widen (k := 0) (n := 0) (Nat.le_of_ble_eq_true rfl) (Nat.le_of_ble_eq_true rfl) ?_
  exact W.iret (v := 0) hx hb hr (fun t ht hW => ⟨⟨_, (), rfl, rfl, by rw [ht]; exact hP9, va_K.moved hW.alike hK9, hD9⟩, hS.F ht⟩) hS.2.2 dX16_ribbon_24
set_option maxHeartbeats 4000000 in
set_option maxRecDepth 100000 in
theorem kJ4_append_cf468_12 (l : Launch) (dC : Nat → ClassId) (dI : Nat → Nat → Nat) (g : Nat → Nat) (sz : Nat) (h0 : Nat) (x0 : Int32) (h1 : Nat) (v0 : Value) (cc0 : ClassId) (f0 : Nat → Int32) (hf0 : sb_Fit f0) (ex0 : (0 : Int) ≤ x0.toInt ∧ x0.toInt ≤ (127 : Int)) : Met l yJ4_append_cf468 wbJ4_append_cf468 ({ frames := 2, cells := 0, slots := 0, locals := 43 }) (va_Pc [.ref h0, .int x0] (fun U => U.heap.size = sz ∧ va_P (dC, dI) vwCl [(h0, .inr (1, [.ref h1, .int 0, v0, .int 2])), (h1, .inl (cc0, 16, .inl f0))] U.heap ∧ va_K (dC, dI) vwCl [(cc0, .byte)] U ∧ va_D (fun _ => True) [(h0, .inr (1, [.ref h1, .int 0, v0, .int 2])), (h1, .inl (cc0, 16, .inl f0))] ∧ ns_F g (va_A [(h0, .inr (1, [.ref h1, .int 0, v0, .int 2])), (h1, .inl (cc0, 16, .inl f0))] sz) U U.heap)) (va_Qr (fun _ : Unit => True) (fun _ r t => r = h0 ∧ va_P (dC, dI) vwCl [(h1, .inl (cc0, 16, .inl (upd (f0) 2 (vp_nar .byte x0.toInt8.toInt32)))), (h0, .inr (1, [.ref h1, .int 0, v0, .int 3]))] t.heap ∧ va_K (dC, dI) vwCl [(cc0, .byte)] t ∧ va_D (va_A [(h0, .inr (1, [.ref h1, .int 0, v0, .int 2])), (h1, .inl (cc0, 16, .inl f0))] sz) [(h1, .inl (cc0, 16, .inl (upd (f0) 2 (vp_nar .byte x0.toInt8.toInt32)))), (h0, .inr (1, [.ref h1, .int 0, v0, .int 3]))]) (va_A [(h0, .inr (1, [.ref h1, .int 0, v0, .int 2])), (h1, .inl (cc0, 16, .inl f0))] sz)) 0 0 (va_A [(h0, .inr (1, [.ref h1, .int 0, v0, .int 2])), (h1, .inl (cc0, 16, .inl f0))] sz) := by
  refine Met.ofW (cc := cJ4_append_cf468) (maxL := 2) (ret := (some (.object "java/lang/StringBuilder"))) (by decide) rfl ?_
  intro p e s m args below meth c s₁ B hml hv
  obtain ⟨rfl, hsz, hP, hK, hD0, hF⟩ := hv
  have hx := B.exec
  have hb := B.bytes
  have hr := B.returns
  have hts := atoms_spec (ws := wbJ4_append_cf468) B.pre
  have hta : ∀ w ∈ wsALL, w.before _ s = true := fun w h => hts w (List.mem_cons_of_mem _ h)
  have hown : s.vm.findClass RJ4 = some m.cls := findClass_of_methodNamed B.named
  have hlocks := B.notSynchronized
  subst hsz
  have hD := hD0.self (sz := s.heap.size)
  generalize hAe : va_A [(h0, .inr (1, [.ref h1, .int 0, v0, .int 2])), (h1, .inl (cc0, 16, .inl f0))] s.heap.size = A at hD hF ⊢
  have hA : ∀ q : Nat, s.heap.size ≤ q → A q := fun q h => by rw [← hAe]; exact Or.inr h
  have hS : va_S A s.heap s.heap [] := va_S.rf
  have hP : va_P (dC, dI) vwCl [(h0, .inr (1, [.ref h1, .int 0, v0, .int 2])), (h1, .inl (cc0, 16, .inl f0))] s.heap := hP
  have hl := lv_entry ([.ref h0, .int x0]) (n := 2) (Nat.le_of_ble_eq_true rfl)
  rw [lg_entry_eq]
  generalize (lg_sl ([.ref h0, .int x0]) ++ List.replicate (2 - (lg_sl ([.ref h0, .int x0])).length) Slot.unset).toArray = ls at hl ⊢
  have hl : lv_has ls 2 [(0, .ref h0), (1, .int x0)] := hl
  refine lv_aload_n hx hb dJ4_append_cf468_0 rfl (lv_at hl 0 rfl) ?_
  refine lv_iload_n hx hb dJ4_append_cf468_1 rfl (lv_at hl 1 rfl) ?_
  have hPc := hP.sub (ws' := [(h0, .inr (1, [.ref h1, .int 0, v0, .int 2])), (h1, .inl (cc0, 16, .inl f0))]) [0, 1] rfl
  have hDc := hD.sub (ws' := [(h0, .inr (1, [.ref h1, .int 0, v0, .int 2])), (h1, .inl (cc0, 16, .inl f0))]) [0, 1] (by decide) rfl
  have hKc := hK.sub (tys' := [(cc0, .byte)]) [0] rfl
  have hFc := va_free (wc := [(h0, .inr (1, [.ref h1, .int 0, v0, .int 2])), (h1, .inl (cc0, 16, .inl f0))]) hD hS hA [0, 1] rfl
  refine va_callr (va_runSU (hK.1 1 _ rfl).2 (As := [.int x0]) (rest := []) ⟨hx, hb, hml, hown, hts⟩ (kJ5_append_3fe6f_12 l dC dI g s.heap.size h0 x0 h1 v0 cc0 f0 hf0 ⟨by omega, by omega⟩) (va_cwSU 1 hts (ns_gp (List.forall_mem_cons.mpr ⟨wm306, (List.forall_mem_cons.mpr ⟨wm307, (List.forall_mem_cons.mpr ⟨wm308, (List.forall_mem_cons.mpr ⟨wm309, (List.forall_mem_cons.mpr ⟨wm144, (fun _ h9 => nomatch h9)⟩)⟩)⟩)⟩)⟩) wm305) rfl rfl rfl (by decide +kernel) ⟨Nat.le_of_ble_eq_true rfl, Nat.le_of_ble_eq_true rfl⟩) ⟨fun a U gg mk q => by obtain ⟨q0, q1, qP, qK, qD, qF⟩ := q; exact ⟨q0, q1, qP, va_K.moved (u := U) (U := U.calling gg mk a) (Vm.Alike.refl U.vm) qK, qD, ns_same qF⟩, va_recv hK hP (ci := 1) (q0 := 0) rfl rfl, fun U hU hW => ⟨rfl, by rw [hU], by rw [hU]; exact hPc, va_K.moved hW.alike hKc, hDc.weaken (fun _ _ _ _ => trivial), ns_call hF hS hFc hU hW⟩⟩ rfl rfl hl.1 rfl (lv_room (Nat.le_of_ble_eq_true rfl)) dJ4_append_cf468_2 ⟨Nat.le_of_ble_eq_true rfl, Nat.le_of_ble_eq_true rfl⟩) hS (fun q _ h => hFc q h) hFc (fun u r9 t H1 locs ht hvm hw hB hz1 hk1 hS => ?_)
  obtain ⟨hr9, hP1, hK1, hD1⟩ := hB
  obtain rfl := hr9.symm
  rw [ht] at hP1
  have hK1 := va_K.moved hvm.symm hK1
  obtain ⟨hP, hD⟩ := va_join (wr := []) (w1 := [(h1, .inl (cc0, 16, .inl (upd (f0) 2 (vp_nar .byte x0.toInt8.toInt32)))), (h0, .inr (1, [.ref h1, .int 0, v0, .int 3]))]) hP hD [0, 1] [] rfl rfl (by decide) (by decide) hk1 hFc hP1 hD1
  have hK := (hK.sub (tys' := []) [] rfl).app hK1
  generalize H1 = H at hP hS ⊢
  have hP : va_P (dC, dI) vwCl [(h1, .inl (cc0, 16, .inl (upd (f0) 2 (vp_nar .byte x0.toInt8.toInt32)))), (h0, .inr (1, [.ref h1, .int 0, v0, .int 3]))] H := hP
  have hD : va_D A [(h1, .inl (cc0, 16, .inl (upd (f0) 2 (vp_nar .byte x0.toInt8.toInt32)))), (h0, .inr (1, [.ref h1, .int 0, v0, .int 3]))] := hD
  have hK : va_K (dC, dI) vwCl [(cc0, .byte)] s := hK
  refine W.widen (k := 0) (n := 0) (Nat.le_of_ble_eq_true rfl) (Nat.le_of_ble_eq_true rfl) ?_
  refine lv_pop hx hb dJ4_append_cf468_5 rfl ?_
  refine lv_aload_n hx hb dJ4_append_cf468_6 rfl (lv_at hl 0 rfl) ?_
  have hP9 := hP.sub (ws' := [(h1, .inl (cc0, 16, .inl (upd (f0) 2 (vp_nar .byte x0.toInt8.toInt32)))), (h0, .inr (1, [.ref h1, .int 0, v0, .int 3]))]) [0, 1] rfl
  have hD9 := hD.sub (ws' := [(h1, .inl (cc0, 16, .inl (upd (f0) 2 (vp_nar .byte x0.toInt8.toInt32)))), (h0, .inr (1, [.ref h1, .int 0, v0, .int 3]))]) [0, 1] (by decide) rfl
  have hK9 := hK.sub (tys' := [(cc0, .byte)]) [0] rfl
  refine W.widen (k := 0) (n := 0) (Nat.le_of_ble_eq_true rfl) (Nat.le_of_ble_eq_true rfl) ?_
  exact W.aret (v := .ref h0) hx hb hr (by first | exact Or.inl ⟨_, rfl⟩ | exact Or.inr ⟨_, rfl⟩) (Or.inr ⟨_, rfl⟩) (fun t ht hW => ⟨⟨(), _, rfl, trivial, rfl, by rw [ht]; exact hP9, va_K.moved hW.alike hK9, hD9⟩, hS.F ht⟩) hS.2.2 dJ4_append_cf468_7
set_option maxHeartbeats 4000000 in
set_option maxRecDepth 100000 in
theorem kJ4_append_cf468_6 (l : Launch) (dC : Nat → ClassId) (dI : Nat → Nat → Nat) (g : Nat → Nat) (sz : Nat) (h0 : Nat) (x0 : Int32) (h1 : Nat) (v0 : Value) (cc0 : ClassId) (f0 : Nat → Int32) (hf0 : sb_Fit f0) (ex0 : (97 : Int) ≤ x0.toInt ∧ x0.toInt ≤ (122 : Int)) : Met l yJ4_append_cf468 wbJ4_append_cf468 ({ frames := 2, cells := 0, slots := 0, locals := 43 }) (va_Pc [.ref h0, .int x0] (fun U => U.heap.size = sz ∧ va_P (dC, dI) vwCl [(h0, .inr (1, [.ref h1, .int 0, v0, .int 5])), (h1, .inl (cc0, 16, .inl f0))] U.heap ∧ va_K (dC, dI) vwCl [(cc0, .byte)] U ∧ va_D (fun _ => True) [(h0, .inr (1, [.ref h1, .int 0, v0, .int 5])), (h1, .inl (cc0, 16, .inl f0))] ∧ ns_F g (va_A [(h0, .inr (1, [.ref h1, .int 0, v0, .int 5])), (h1, .inl (cc0, 16, .inl f0))] sz) U U.heap)) (va_Qr (fun _ : Unit => True) (fun _ r t => r = h0 ∧ va_P (dC, dI) vwCl [(h1, .inl (cc0, 16, .inl (upd (f0) 5 (vp_nar .byte x0.toInt8.toInt32)))), (h0, .inr (1, [.ref h1, .int 0, v0, .int 6]))] t.heap ∧ va_K (dC, dI) vwCl [(cc0, .byte)] t ∧ va_D (va_A [(h0, .inr (1, [.ref h1, .int 0, v0, .int 5])), (h1, .inl (cc0, 16, .inl f0))] sz) [(h1, .inl (cc0, 16, .inl (upd (f0) 5 (vp_nar .byte x0.toInt8.toInt32)))), (h0, .inr (1, [.ref h1, .int 0, v0, .int 6]))]) (va_A [(h0, .inr (1, [.ref h1, .int 0, v0, .int 5])), (h1, .inl (cc0, 16, .inl f0))] sz)) 0 0 (va_A [(h0, .inr (1, [.ref h1, .int 0, v0, .int 5])), (h1, .inl (cc0, 16, .inl f0))] sz) := by
  refine Met.ofW (cc := cJ4_append_cf468) (maxL := 2) (ret := (some (.object "java/lang/StringBuilder"))) (by decide) rfl ?_
  intro p e s m args below meth c s₁ B hml hv
  obtain ⟨rfl, hsz, hP, hK, hD0, hF⟩ := hv
  have hx := B.exec
  have hb := B.bytes
  have hr := B.returns
  have hts := atoms_spec (ws := wbJ4_append_cf468) B.pre
  have hta : ∀ w ∈ wsALL, w.before _ s = true := fun w h => hts w (List.mem_cons_of_mem _ h)
  have hown : s.vm.findClass RJ4 = some m.cls := findClass_of_methodNamed B.named
  have hlocks := B.notSynchronized
  subst hsz
  have hD := hD0.self (sz := s.heap.size)
  generalize hAe : va_A [(h0, .inr (1, [.ref h1, .int 0, v0, .int 5])), (h1, .inl (cc0, 16, .inl f0))] s.heap.size = A at hD hF ⊢
  have hA : ∀ q : Nat, s.heap.size ≤ q → A q := fun q h => by rw [← hAe]; exact Or.inr h
  have hS : va_S A s.heap s.heap [] := va_S.rf
  have hP : va_P (dC, dI) vwCl [(h0, .inr (1, [.ref h1, .int 0, v0, .int 5])), (h1, .inl (cc0, 16, .inl f0))] s.heap := hP
  have hl := lv_entry ([.ref h0, .int x0]) (n := 2) (Nat.le_of_ble_eq_true rfl)
  rw [lg_entry_eq]
  generalize (lg_sl ([.ref h0, .int x0]) ++ List.replicate (2 - (lg_sl ([.ref h0, .int x0])).length) Slot.unset).toArray = ls at hl ⊢
  have hl : lv_has ls 2 [(0, .ref h0), (1, .int x0)] := hl
  refine lv_aload_n hx hb dJ4_append_cf468_0 rfl (lv_at hl 0 rfl) ?_
  refine lv_iload_n hx hb dJ4_append_cf468_1 rfl (lv_at hl 1 rfl) ?_
  have hPc := hP.sub (ws' := [(h0, .inr (1, [.ref h1, .int 0, v0, .int 5])), (h1, .inl (cc0, 16, .inl f0))]) [0, 1] rfl
  have hDc := hD.sub (ws' := [(h0, .inr (1, [.ref h1, .int 0, v0, .int 5])), (h1, .inl (cc0, 16, .inl f0))]) [0, 1] (by decide) rfl
  have hKc := hK.sub (tys' := [(cc0, .byte)]) [0] rfl
  have hFc := va_free (wc := [(h0, .inr (1, [.ref h1, .int 0, v0, .int 5])), (h1, .inl (cc0, 16, .inl f0))]) hD hS hA [0, 1] rfl
  refine va_callr (va_runSU (hK.1 1 _ rfl).2 (As := [.int x0]) (rest := []) ⟨hx, hb, hml, hown, hts⟩ (kJ5_append_3fe6f_6 l dC dI g s.heap.size h0 x0 h1 v0 cc0 f0 hf0 ⟨by omega, by omega⟩) (va_cwSU 1 hts (ns_gp (List.forall_mem_cons.mpr ⟨wm306, (List.forall_mem_cons.mpr ⟨wm307, (List.forall_mem_cons.mpr ⟨wm308, (List.forall_mem_cons.mpr ⟨wm309, (List.forall_mem_cons.mpr ⟨wm144, (fun _ h9 => nomatch h9)⟩)⟩)⟩)⟩)⟩) wm305) rfl rfl rfl (by decide +kernel) ⟨Nat.le_of_ble_eq_true rfl, Nat.le_of_ble_eq_true rfl⟩) ⟨fun a U gg mk q => by obtain ⟨q0, q1, qP, qK, qD, qF⟩ := q; exact ⟨q0, q1, qP, va_K.moved (u := U) (U := U.calling gg mk a) (Vm.Alike.refl U.vm) qK, qD, ns_same qF⟩, va_recv hK hP (ci := 1) (q0 := 0) rfl rfl, fun U hU hW => ⟨rfl, by rw [hU], by rw [hU]; exact hPc, va_K.moved hW.alike hKc, hDc.weaken (fun _ _ _ _ => trivial), ns_call hF hS hFc hU hW⟩⟩ rfl rfl hl.1 rfl (lv_room (Nat.le_of_ble_eq_true rfl)) dJ4_append_cf468_2 ⟨Nat.le_of_ble_eq_true rfl, Nat.le_of_ble_eq_true rfl⟩) hS (fun q _ h => hFc q h) hFc (fun u r9 t H1 locs ht hvm hw hB hz1 hk1 hS => ?_)
  obtain ⟨hr9, hP1, hK1, hD1⟩ := hB
  obtain rfl := hr9.symm
  rw [ht] at hP1
  have hK1 := va_K.moved hvm.symm hK1
  obtain ⟨hP, hD⟩ := va_join (wr := []) (w1 := [(h1, .inl (cc0, 16, .inl (upd (f0) 5 (vp_nar .byte x0.toInt8.toInt32)))), (h0, .inr (1, [.ref h1, .int 0, v0, .int 6]))]) hP hD [0, 1] [] rfl rfl (by decide) (by decide) hk1 hFc hP1 hD1
  have hK := (hK.sub (tys' := []) [] rfl).app hK1
  generalize H1 = H at hP hS ⊢
  have hP : va_P (dC, dI) vwCl [(h1, .inl (cc0, 16, .inl (upd (f0) 5 (vp_nar .byte x0.toInt8.toInt32)))), (h0, .inr (1, [.ref h1, .int 0, v0, .int 6]))] H := hP
  have hD : va_D A [(h1, .inl (cc0, 16, .inl (upd (f0) 5 (vp_nar .byte x0.toInt8.toInt32)))), (h0, .inr (1, [.ref h1, .int 0, v0, .int 6]))] := hD
  have hK : va_K (dC, dI) vwCl [(cc0, .byte)] s := hK
  refine W.widen (k := 0) (n := 0) (Nat.le_of_ble_eq_true rfl) (Nat.le_of_ble_eq_true rfl) ?_
  refine lv_pop hx hb dJ4_append_cf468_5 rfl ?_
  refine lv_aload_n hx hb dJ4_append_cf468_6 rfl (lv_at hl 0 rfl) ?_
  have hP9 := hP.sub (ws' := [(h1, .inl (cc0, 16, .inl (upd (f0) 5 (vp_nar .byte x0.toInt8.toInt32)))), (h0, .inr (1, [.ref h1, .int 0, v0, .int 6]))]) [0, 1] rfl
  have hD9 := hD.sub (ws' := [(h1, .inl (cc0, 16, .inl (upd (f0) 5 (vp_nar .byte x0.toInt8.toInt32)))), (h0, .inr (1, [.ref h1, .int 0, v0, .int 6]))]) [0, 1] (by decide) rfl
  have hK9 := hK.sub (tys' := [(cc0, .byte)]) [0] rfl
  refine W.widen (k := 0) (n := 0) (Nat.le_of_ble_eq_true rfl) (Nat.le_of_ble_eq_true rfl) ?_
  exact W.aret (v := .ref h0) hx hb hr (by first | exact Or.inl ⟨_, rfl⟩ | exact Or.inr ⟨_, rfl⟩) (Or.inr ⟨_, rfl⟩) (fun t ht hW => ⟨⟨(), _, rfl, trivial, rfl, by rw [ht]; exact hP9, va_K.moved hW.alike hK9, hD9⟩, hS.F ht⟩) hS.2.2 dJ4_append_cf468_7
set_option maxHeartbeats 4000000 in
set_option maxRecDepth 100000 in
theorem kJ7_copyOfRange_39247_6 (l : Launch) (dC : Nat → ClassId) (dI : Nat → Nat → Nat) (g : Nat → Nat) (sz : Nat) (h0 : Nat) (cc0 : ClassId) (f0 : Nat → Int32) (hf0 : sb_Fit f0) : Met l yJ7_copyOfRange_39247 wbJ7_copyOfRange_39247 ({ frames := 2, cells := 1, slots := 6, locals := 64 }) (va_Pc [.ref h0, .int 0, .int 6] (fun U => U.heap.size = sz ∧ va_P (dC, dI) vwCl [(h0, .inl (cc0, 16, .inl f0))] U.heap ∧ va_K (dC, dI) vwCl [(cc0, .byte)] U ∧ va_D (fun _ => True) [(h0, .inl (cc0, 16, .inl f0))] ∧ ns_F g (va_A [(h0, .inl (cc0, 16, .inl f0))] sz) U U.heap)) (va_Qr (fun _ : Unit => True) (fun _ r t => ∃ k0 : Nat, ∃ kc1 : ClassId, r = k0 ∧ va_P (dC, dI) vwCl [(h0, .inl (cc0, 16, .inl f0)), (k0, .inl (kc1, 6, .inl (va_cpy (f0) (fun _ => 0) 0 0 6)))] t.heap ∧ va_K (dC, dI) vwCl [(cc0, .byte), (kc1, .byte)] t ∧ va_D (va_A [(h0, .inl (cc0, 16, .inl f0))] sz) [(h0, .inl (cc0, 16, .inl f0)), (k0, .inl (kc1, 6, .inl (va_cpy (f0) (fun _ => 0) 0 0 6)))]) (va_A [(h0, .inl (cc0, 16, .inl f0))] sz)) 1 6 (va_A [(h0, .inl (cc0, 16, .inl f0))] sz) := by
  refine Met.ofW (cc := cJ7_copyOfRange_39247) (maxL := 3) (ret := (some (.array .byte))) (by decide) rfl ?_
  intro p e s m args below meth c s₁ B hml hv
  obtain ⟨rfl, hsz, hP, hK, hD0, hF⟩ := hv
  have hx := B.exec
  have hb := B.bytes
  have hr := B.returns
  have hts := atoms_spec (ws := wbJ7_copyOfRange_39247) B.pre
  have hta : ∀ w ∈ wsALL, w.before _ s = true := fun w h => hts w (List.mem_cons_of_mem _ h)
  have hown : s.vm.findClass RJ7 = some m.cls := findClass_of_methodNamed B.named
  have hlocks := B.notSynchronized
  subst hsz
  have hD := hD0.self (sz := s.heap.size)
  generalize hAe : va_A [(h0, .inl (cc0, 16, .inl f0))] s.heap.size = A at hD hF ⊢
  have hA : ∀ q : Nat, s.heap.size ≤ q → A q := fun q h => by rw [← hAe]; exact Or.inr h
  have hS : va_S A s.heap s.heap [] := va_S.rf
  have hP : va_P (dC, dI) vwCl [(h0, .inl (cc0, 16, .inl f0))] s.heap := hP
  have hl := lv_entry ([.ref h0, .int 0, .int 6]) (n := 3) (Nat.le_of_ble_eq_true rfl)
  rw [lg_entry_eq]
  generalize (lg_sl ([.ref h0, .int 0, .int 6]) ++ List.replicate (3 - (lg_sl ([.ref h0, .int 0, .int 6])).length) Slot.unset).toArray = ls at hl ⊢
  have hl : lv_has ls 3 [(0, .ref h0), (1, .int 0), (2, .int 6)] := hl
  refine lv_iload_n hx hb dJ7_copyOfRange_39247_0 rfl (lv_at hl 1 rfl) ?_
  refine lv_if_ne (tgt := 10) hx hb dJ7_copyOfRange_39247_1 (by decide) (fun c1 => absurd (by decide) c1) (fun c1 => ?_)
  refine lv_iload_n hx hb dJ7_copyOfRange_39247_4 rfl (lv_at hl 2 rfl) ?_
  refine lv_aload_n hx hb dJ7_copyOfRange_39247_5 rfl (lv_at hl 0 rfl) ?_
  refine va_alen (v := 16) hx hb hK hP 0 0 rfl rfl (show Int32.ofNat 16 = 16 by decide) dJ7_copyOfRange_39247_6 ?_
  refine lv_icmp_eq (tgt := 17) hx hb dJ7_copyOfRange_39247_7 (by decide) (fun c2 => absurd c2 (by decide)) (fun c2 => ?_)
  refine lv_aload_n hx hb dJ7_copyOfRange_39247_10 rfl (lv_at hl 0 rfl) ?_
  refine lv_iload_n hx hb dJ7_copyOfRange_39247_11 rfl (lv_at hl 1 rfl) ?_
  refine lv_iload_n hx hb dJ7_copyOfRange_39247_12 rfl (lv_at hl 2 rfl) ?_
  have hPc := hP.sub (ws' := [(h0, .inl (cc0, 16, .inl f0))]) [0] rfl
  have hDc := hD.sub (ws' := [(h0, .inl (cc0, 16, .inl f0))]) [0] (by decide) rfl
  have hKc := hK.sub (tys' := [(cc0, .byte)]) [0] rfl
  have hFc := va_free (wc := [(h0, .inl (cc0, 16, .inl f0))]) hD hS hA [0] rfl
  refine va_callr (va_runS (As := [.ref h0, .int 0, .int 6]) (rest := []) ⟨hx, hb, hml, hown, hts⟩ (kJ7_copyOfRangeByte_39247_6 l dC dI g s.heap.size h0 cc0 f0 hf0 ) (va_cwS 3 hts (ns_gp (List.forall_mem_cons.mpr ⟨wm338, (List.forall_mem_cons.mpr ⟨wm339, (List.forall_mem_cons.mpr ⟨wm334, (fun _ h9 => nomatch h9)⟩)⟩)⟩) wm337) rfl rfl rfl (by decide +kernel) ⟨Nat.le_of_ble_eq_true rfl, Nat.le_of_ble_eq_true rfl⟩) ⟨fun a U gg mk q => by obtain ⟨q0, q1, qP, qK, qD, qF⟩ := q; exact ⟨q0, q1, qP, va_K.moved (u := U) (U := U.calling gg mk a) (Vm.Alike.refl U.vm) qK, qD, ns_same qF⟩, fun U hU hW => ⟨rfl, by rw [hU], by rw [hU]; exact hPc, va_K.moved hW.alike hKc, hDc.weaken (fun _ _ _ _ => trivial), ns_call hF hS hFc hU hW⟩⟩ rfl rfl hl.1 rfl (lv_room (Nat.le_of_ble_eq_true rfl)) dJ7_copyOfRange_39247_13 ⟨Nat.le_of_ble_eq_true rfl, Nat.le_of_ble_eq_true rfl⟩) hS (fun q _ h => hFc q h) hFc (fun u r9 t H1 locs ht hvm hw hB hz1 hk1 hS => ?_)
  obtain ⟨q3, cy4, hr9, hP1, hK1, hD1⟩ := hB
  obtain rfl := hr9.symm
  rw [ht] at hP1
  have hK1 := va_K.moved hvm.symm hK1
  obtain ⟨hP, hD⟩ := va_join (wr := []) (w1 := [(h0, .inl (cc0, 16, .inl f0)), (q3, .inl (cy4, 6, .inl (va_cpy (f0) (fun _ => 0) 0 0 6)))]) hP hD [0] [] rfl rfl (by decide) (by decide) hk1 hFc hP1 hD1
  have hK := (hK.sub (tys' := []) [] rfl).app hK1
  generalize H1 = H at hP hS ⊢
  have hP : va_P (dC, dI) vwCl [(h0, .inl (cc0, 16, .inl f0)), (q3, .inl (cy4, 6, .inl (va_cpy (f0) (fun _ => 0) 0 0 6)))] H := hP
  have hD : va_D A [(h0, .inl (cc0, 16, .inl f0)), (q3, .inl (cy4, 6, .inl (va_cpy (f0) (fun _ => 0) 0 0 6)))] := hD
  have hK : va_K (dC, dI) vwCl [(cc0, .byte), (cy4, .byte)] s := hK
  refine W.widen (k := 1) (n := 6) (Nat.le_of_ble_eq_true rfl) (Nat.le_of_ble_eq_true rfl) ?_
  have hP9 := hP.sub (ws' := [(h0, .inl (cc0, 16, .inl f0)), (q3, .inl (cy4, 6, .inl (va_cpy (f0) (fun _ => 0) 0 0 6)))]) [0, 1] rfl
  have hD9 := hD.sub (ws' := [(h0, .inl (cc0, 16, .inl f0)), (q3, .inl (cy4, 6, .inl (va_cpy (f0) (fun _ => 0) 0 0 6)))]) [0, 1] (by decide) rfl
  have hK9 := hK.sub (tys' := [(cc0, .byte), (cy4, .byte)]) [0, 1] rfl
  refine W.widen (k := 1) (n := 6) (Nat.le_of_ble_eq_true rfl) (Nat.le_of_ble_eq_true rfl) ?_
  exact W.aret (v := .ref q3) hx hb hr (by first | exact Or.inl ⟨_, rfl⟩ | exact Or.inr ⟨_, rfl⟩) (Or.inr ⟨_, rfl⟩) (fun t ht hW => ⟨⟨(), _, rfl, trivial, q3, cy4, rfl, by rw [ht]; exact hP9, va_K.moved hW.alike hK9, hD9⟩, hS.F ht⟩) hS.2.2 dJ7_copyOfRange_39247_16
