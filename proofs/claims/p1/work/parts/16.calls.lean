
set_option maxHeartbeats 4000000 in
set_option maxRecDepth 100000 in
theorem kX9_needCodes_7 (l : Launch) (dC : Nat → ClassId) (dI : Nat → Nat → Nat) (g : Nat → Nat) (sz : Nat) (h0 : Nat) (h1 : Nat) (h2 : Nat) (h3 : Nat) (v0 : Value) (v1 : Value) (v2 : Value) (v3 : Value) (v4 : Value) (v5 : Value) (v6 : Value) (v7 : Value) (v8 : Value) (v9 : Value) (v10 : Value) (v11 : Value) (v12 : Value) (v13 : Value) (cc0 : ClassId) (x0 : Int32) (x1 : Int32) (x2 : Int32) (x3 : Int32) (x4 : Int32) (x5 : Int32) (v14 : Value) (ex0 : (-1 : Int) ≤ x0.toInt ∧ x0.toInt ≤ (21 : Int)) (ex1 : (-1 : Int) ≤ x1.toInt ∧ x1.toInt ≤ (21 : Int)) (ex2 : (-1 : Int) ≤ x2.toInt ∧ x2.toInt ≤ (21 : Int)) (ex3 : (-1 : Int) ≤ x3.toInt ∧ x3.toInt ≤ (21 : Int)) (ex4 : (-1 : Int) ≤ x4.toInt ∧ x4.toInt ≤ (21 : Int)) (ex5 : (-1 : Int) ≤ x5.toInt ∧ x5.toInt ≤ (21 : Int)) : Met l yX9_needCodes wbX9_needCodes ({ frames := 1, cells := 0, slots := 0, locals := 21 }) (va_Pc [.ref h0] (fun U => U.heap.size = sz ∧ va_P (dC, dI) vwCl [(h0, .inr (16, [v0, .ref h3, .ref h1, v1, v2, v3, v4, v5, v6, v7, v8, v9, v10, v11, v12, v13])), (h1, .inr (11, [.ref h2, .int 6])), (h2, .inl (cc0, 6, .inl (upd (upd (upd (upd (upd (upd (fun _ => 0) 0 x0) 1 x1) 2 x2) 3 x3) 4 x4) 5 x5))), (h3, .inr (11, [v14, .int 0]))] U.heap ∧ va_K (dC, dI) vwCl [(cc0, .int)] U ∧ va_D (fun _ => True) [(h0, .inr (16, [v0, .ref h3, .ref h1, v1, v2, v3, v4, v5, v6, v7, v8, v9, v10, v11, v12, v13])), (h1, .inr (11, [.ref h2, .int 6])), (h2, .inl (cc0, 6, .inl (upd (upd (upd (upd (upd (upd (fun _ => 0) 0 x0) 1 x1) 2 x2) 3 x3) 4 x4) 5 x5))), (h3, .inr (11, [v14, .int 0]))] ∧ ns_F g (va_A [(h0, .inr (16, [v0, .ref h3, .ref h1, v1, v2, v3, v4, v5, v6, v7, v8, v9, v10, v11, v12, v13])), (h1, .inr (11, [.ref h2, .int 6])), (h2, .inl (cc0, 6, .inl (upd (upd (upd (upd (upd (upd (fun _ => 0) 0 x0) 1 x1) 2 x2) 3 x3) 4 x4) 5 x5))), (h3, .inr (11, [v14, .int 0]))] sz) U U.heap)) (va_Qv (fun _ : Unit => True) (fun _ t => va_P (dC, dI) vwCl [(h0, .inr (16, [v0, .ref h3, .ref h1, v1, v2, v3, v4, v5, v6, v7, v8, v9, v10, v11, v12, v13])), (h3, .inr (11, [v14, .int 0])), (h2, .inl (cc0, 6, .inl (upd (upd (upd (upd (upd (upd (fun _ => 0) 0 x0) 1 x1) 2 x2) 3 x3) 4 x4) 5 x5))), (h1, .inr (11, [.ref h2, .int 6]))] t.heap ∧ va_K (dC, dI) vwCl [(cc0, .int)] t ∧ va_D (va_A [(h0, .inr (16, [v0, .ref h3, .ref h1, v1, v2, v3, v4, v5, v6, v7, v8, v9, v10, v11, v12, v13])), (h1, .inr (11, [.ref h2, .int 6])), (h2, .inl (cc0, 6, .inl (upd (upd (upd (upd (upd (upd (fun _ => 0) 0 x0) 1 x1) 2 x2) 3 x3) 4 x4) 5 x5))), (h3, .inr (11, [v14, .int 0]))] sz) [(h0, .inr (16, [v0, .ref h3, .ref h1, v1, v2, v3, v4, v5, v6, v7, v8, v9, v10, v11, v12, v13])), (h3, .inr (11, [v14, .int 0])), (h2, .inl (cc0, 6, .inl (upd (upd (upd (upd (upd (upd (fun _ => 0) 0 x0) 1 x1) 2 x2) 3 x3) 4 x4) 5 x5))), (h1, .inr (11, [.ref h2, .int 6]))]) (va_A [(h0, .inr (16, [v0, .ref h3, .ref h1, v1, v2, v3, v4, v5, v6, v7, v8, v9, v10, v11, v12, v13])), (h1, .inr (11, [.ref h2, .int 6])), (h2, .inl (cc0, 6, .inl (upd (upd (upd (upd (upd (upd (fun _ => 0) 0 x0) 1 x1) 2 x2) 3 x3) 4 x4) 5 x5))), (h3, .inr (11, [v14, .int 0]))] sz)) 0 0 (va_A [(h0, .inr (16, [v0, .ref h3, .ref h1, v1, v2, v3, v4, v5, v6, v7, v8, v9, v10, v11, v12, v13])), (h1, .inr (11, [.ref h2, .int 6])), (h2, .inl (cc0, 6, .inl (upd (upd (upd (upd (upd (upd (fun _ => 0) 0 x0) 1 x1) 2 x2) 3 x3) 4 x4) 5 x5))), (h3, .inr (11, [v14, .int 0]))] sz) := by
  refine Met.ofW (cc := cX9_needCodes) (maxL := 3) (ret := none) (by decide) rfl ?_
  intro p e s m args below meth c s₁ B hml hv
  obtain ⟨rfl, hsz, hP, hK, hD0, hF⟩ := hv
  have hx := B.exec
  have hb := B.bytes
  have hr := B.returns
  have hts := atoms_spec (ws := wbX9_needCodes) B.pre
  have hta : ∀ w ∈ wsALL, w.before _ s = true := fun w h => hts w (List.mem_cons_of_mem _ h)
  have hown : s.vm.findClass RX9 = some m.cls := findClass_of_methodNamed B.named
  have hlocks := B.notSynchronized
  subst hsz
  have hD := hD0.self (sz := s.heap.size)
  generalize hAe : va_A [(h0, .inr (16, [v0, .ref h3, .ref h1, v1, v2, v3, v4, v5, v6, v7, v8, v9, v10, v11, v12, v13])), (h1, .inr (11, [.ref h2, .int 6])), (h2, .inl (cc0, 6, .inl (upd (upd (upd (upd (upd (upd (fun _ => 0) 0 x0) 1 x1) 2 x2) 3 x3) 4 x4) 5 x5))), (h3, .inr (11, [v14, .int 0]))] s.heap.size = A at hD hF ⊢
  have hA : ∀ q : Nat, s.heap.size ≤ q → A q := fun q h => by rw [← hAe]; exact Or.inr h
  have hS : va_S A s.heap s.heap [] := va_S.rf
  have hP : va_P (dC, dI) vwCl [(h0, .inr (16, [v0, .ref h3, .ref h1, v1, v2, v3, v4, v5, v6, v7, v8, v9, v10, v11, v12, v13])), (h1, .inr (11, [.ref h2, .int 6])), (h2, .inl (cc0, 6, .inl (upd (upd (upd (upd (upd (upd (fun _ => 0) 0 x0) 1 x1) 2 x2) 3 x3) 4 x4) 5 x5))), (h3, .inr (11, [v14, .int 0]))] s.heap := hP
  have hl := lv_entry ([.ref h0]) (n := 3) (Nat.le_of_ble_eq_true rfl)
  rw [lg_entry_eq]
  generalize (lg_sl ([.ref h0]) ++ List.replicate (3 - (lg_sl ([.ref h0])).length) Slot.unset).toArray = ls at hl ⊢
  have hl : lv_has ls 3 [(0, .ref h0)] := hl
  refine lv_iconst (v := 0) hx hb dX9_needCodes_0 (by decide) ?_
  refine lv_istore_n (lv' := [(1, .int 0), (0, .ref h0)]) hx hb dX9_needCodes_1 rfl hl (by decide) rfl (fun ls hl => ?_)
  refine lv_iload_n hx hb dX9_needCodes_2 rfl (lv_at hl 0 rfl) ?_
  refine lv_aload_n hx hb dX9_needCodes_3 rfl (lv_at hl 1 rfl) ?_
  refine va_get (D := (dC, dI)) (ci := 16) (v := .ref h1) (C := RX9) (T := TX9) (N := 16) hx hb hta naX9 hown hK hP 0 rfl rfl 2 (by decide) (hta _ wm33) (fun _ h9 => h9) rfl dX9_needCodes_4 ?_
  have hPc := hP.sub (ws' := [(h1, .inr (11, [.ref h2, .int 6]))]) [1] rfl
  have hDc := hD.sub (ws' := [(h1, .inr (11, [.ref h2, .int 6]))]) [1] (by decide) rfl
  have hKc := hK.sub (tys' := []) [] rfl
  have hFc := va_free (wc := [(h1, .inr (11, [.ref h2, .int 6]))]) hD hS hA [1] rfl
  refine va_calli (va_runV (As := []) (rest := [.int 0]) ⟨hx, hb, hml, hown, hts⟩ (kX4_size_7 l dC dI g s.heap.size h1 (.ref h2) ) (cwV 0 hts (ns_gp (List.forall_mem_cons.mpr ⟨wm549, (List.forall_mem_cons.mpr ⟨wm249, (List.forall_mem_cons.mpr ⟨wm250, (List.forall_mem_cons.mpr ⟨wm12, (fun _ h9 => nomatch h9)⟩)⟩)⟩)⟩) wm247) rfl rfl rfl (by decide +kernel) ⟨Nat.le_of_ble_eq_true rfl, Nat.le_of_ble_eq_true rfl⟩) ⟨fun a U gg mk q => by obtain ⟨q0, q1, qP, qK, qD, qF⟩ := q; exact ⟨q0, q1, qP, va_K.moved (u := U) (U := U.calling gg mk a) (Vm.Alike.refl U.vm) qK, qD, ns_same qF⟩, va_recv hK hP (ci := 11) (q0 := 1) rfl rfl, fun U hU hW => ⟨rfl, by rw [hU], by rw [hU]; exact hPc, va_K.moved hW.alike hKc, hDc.weaken (fun _ _ _ _ => trivial), ns_call hF hS hFc hU hW⟩⟩ rfl rfl hl.1 rfl (lv_room (Nat.le_of_ble_eq_true rfl)) dX9_needCodes_7 ⟨Nat.le_of_ble_eq_true rfl, Nat.le_of_ble_eq_true rfl⟩) hS (fun q _ h => hFc q h) hFc (fun r9 u t H1 locs ht hvm hw hB hz1 hk1 hS => ?_)
  obtain rfl := hw.symm
  obtain ⟨hP1, hK1, hD1⟩ := hB
  rw [ht] at hP1
  have hK1 := va_K.moved hvm.symm hK1
  obtain ⟨hP, hD⟩ := va_join (wr := [(h0, .inr (16, [v0, .ref h3, .ref h1, v1, v2, v3, v4, v5, v6, v7, v8, v9, v10, v11, v12, v13])), (h2, .inl (cc0, 6, .inl (upd (upd (upd (upd (upd (upd (fun _ => 0) 0 x0) 1 x1) 2 x2) 3 x3) 4 x4) 5 x5))), (h3, .inr (11, [v14, .int 0]))]) (w1 := [(h1, .inr (11, [.ref h2, .int 6]))]) hP hD [1] [0, 2, 3] rfl rfl (by decide) (by decide) hk1 hFc hP1 hD1
  have hK := (hK.sub (tys' := [(cc0, .int)]) [0] rfl).app hK1
  generalize H1 = H at hP hS ⊢
  have hP : va_P (dC, dI) vwCl [(h0, .inr (16, [v0, .ref h3, .ref h1, v1, v2, v3, v4, v5, v6, v7, v8, v9, v10, v11, v12, v13])), (h2, .inl (cc0, 6, .inl (upd (upd (upd (upd (upd (upd (fun _ => 0) 0 x0) 1 x1) 2 x2) 3 x3) 4 x4) 5 x5))), (h3, .inr (11, [v14, .int 0])), (h1, .inr (11, [.ref h2, .int 6]))] H := hP
  have hD : va_D A [(h0, .inr (16, [v0, .ref h3, .ref h1, v1, v2, v3, v4, v5, v6, v7, v8, v9, v10, v11, v12, v13])), (h2, .inl (cc0, 6, .inl (upd (upd (upd (upd (upd (upd (fun _ => 0) 0 x0) 1 x1) 2 x2) 3 x3) 4 x4) 5 x5))), (h3, .inr (11, [v14, .int 0])), (h1, .inr (11, [.ref h2, .int 6]))] := hD
  have hK : va_K (dC, dI) vwCl [(cc0, .int)] s := hK
  refine W.widen (k := 0) (n := 0) (Nat.le_of_ble_eq_true rfl) (Nat.le_of_ble_eq_true rfl) ?_
  refine lv_icmp_ge (tgt := 55) hx hb dX9_needCodes_10 (by decide) (fun c1 => absurd c1 (by decide)) (fun c1 => ?_)
  refine lv_aload_n hx hb dX9_needCodes_13 rfl (lv_at hl 1 rfl) ?_
  refine va_get (D := (dC, dI)) (ci := 16) (v := .ref h1) (C := RX9) (T := TX9) (N := 16) hx hb hta naX9 hown hK hP 0 rfl rfl 2 (by decide) (hta _ wm33) (fun _ h9 => h9) rfl dX9_needCodes_14 ?_
  refine lv_iload_n hx hb dX9_needCodes_17 rfl (lv_at hl 0 rfl) ?_
  have hPc := hP.sub (ws' := [(h1, .inr (11, [.ref h2, .int 6])), (h2, .inl (cc0, 6, .inl (upd (upd (upd (upd (upd (upd (fun _ => 0) 0 x0) 1 x1) 2 x2) 3 x3) 4 x4) 5 x5)))]) [3, 1] rfl
  have hDc := hD.sub (ws' := [(h1, .inr (11, [.ref h2, .int 6])), (h2, .inl (cc0, 6, .inl (upd (upd (upd (upd (upd (upd (fun _ => 0) 0 x0) 1 x1) 2 x2) 3 x3) 4 x4) 5 x5)))]) [3, 1] (by decide) rfl
  have hKc := hK.sub (tys' := [(cc0, .int)]) [0] rfl
  have hFc := va_free (wc := [(h1, .inr (11, [.ref h2, .int 6])), (h2, .inl (cc0, 6, .inl (upd (upd (upd (upd (upd (upd (fun _ => 0) 0 x0) 1 x1) 2 x2) 3 x3) 4 x4) 5 x5)))]) hD hS hA [3, 1] rfl
  refine va_calli (va_runV (As := [.int 0]) (rest := []) ⟨hx, hb, hml, hown, hts⟩ (kX4_get_22 l dC dI g H.size h1 h2 cc0 x0 x1 x2 x3 x4 x5 ⟨by omega, by omega⟩ ⟨by omega, by omega⟩ ⟨by omega, by omega⟩ ⟨by omega, by omega⟩ ⟨by omega, by omega⟩ ⟨by omega, by omega⟩) (cwV 1 hts (ns_gp (List.forall_mem_cons.mpr ⟨wm550, (List.forall_mem_cons.mpr ⟨wm551, (List.forall_mem_cons.mpr ⟨wm552, (List.forall_mem_cons.mpr ⟨wm12, (fun _ h9 => nomatch h9)⟩)⟩)⟩)⟩) wm548) rfl rfl rfl (by decide +kernel) ⟨Nat.le_of_ble_eq_true rfl, Nat.le_of_ble_eq_true rfl⟩) ⟨fun a U gg mk q => by obtain ⟨q0, q1, qP, qK, qD, qF⟩ := q; exact ⟨q0, q1, qP, va_K.moved (u := U) (U := U.calling gg mk a) (Vm.Alike.refl U.vm) qK, qD, ns_same qF⟩, va_recv hK hP (ci := 11) (q0 := 3) rfl rfl, fun U hU hW => ⟨rfl, by rw [hU], by rw [hU]; exact hPc, va_K.moved hW.alike hKc, hDc.weaken (fun _ _ _ _ => trivial), ns_call hF hS hFc hU hW⟩⟩ rfl rfl hl.1 rfl (lv_room (Nat.le_of_ble_eq_true rfl)) dX9_needCodes_18 ⟨Nat.le_of_ble_eq_true rfl, Nat.le_of_ble_eq_true rfl⟩) hS (fun q _ h => hFc q h) hFc (fun r9 u t H1 locs ht hvm hw hB hz1 hk1 hS => ?_)
  obtain rfl := hw.symm
  obtain ⟨hP1, hK1, hD1⟩ := hB
  rw [ht] at hP1
  have hK1 := va_K.moved hvm.symm hK1
  obtain ⟨hP, hD⟩ := va_join (wr := [(h0, .inr (16, [v0, .ref h3, .ref h1, v1, v2, v3, v4, v5, v6, v7, v8, v9, v10, v11, v12, v13])), (h3, .inr (11, [v14, .int 0]))]) (w1 := [(h1, .inr (11, [.ref h2, .int 6])), (h2, .inl (cc0, 6, .inl (upd (upd (upd (upd (upd (upd (fun _ => 0) 0 x0) 1 x1) 2 x2) 3 x3) 4 x4) 5 x5)))]) hP hD [3, 1] [0, 2] rfl rfl (by decide) (by decide) hk1 hFc hP1 hD1
  have hK := (hK.sub (tys' := []) [] rfl).app hK1
  generalize H1 = H at hP hS ⊢
  have hP : va_P (dC, dI) vwCl [(h0, .inr (16, [v0, .ref h3, .ref h1, v1, v2, v3, v4, v5, v6, v7, v8, v9, v10, v11, v12, v13])), (h3, .inr (11, [v14, .int 0])), (h1, .inr (11, [.ref h2, .int 6])), (h2, .inl (cc0, 6, .inl (upd (upd (upd (upd (upd (upd (fun _ => 0) 0 x0) 1 x1) 2 x2) 3 x3) 4 x4) 5 x5)))] H := hP
  have hD : va_D A [(h0, .inr (16, [v0, .ref h3, .ref h1, v1, v2, v3, v4, v5, v6, v7, v8, v9, v10, v11, v12, v13])), (h3, .inr (11, [v14, .int 0])), (h1, .inr (11, [.ref h2, .int 6])), (h2, .inl (cc0, 6, .inl (upd (upd (upd (upd (upd (upd (fun _ => 0) 0 x0) 1 x1) 2 x2) 3 x3) 4 x4) 5 x5)))] := hD
  have hK : va_K (dC, dI) vwCl [(cc0, .int)] s := hK
  refine W.widen (k := 0) (n := 0) (Nat.le_of_ble_eq_true rfl) (Nat.le_of_ble_eq_true rfl) ?_
  refine lv_iconst (v := (-1)) hx hb dX9_needCodes_21 (by decide) ?_
  refine lv_icmp_lt (tgt := 38) hx hb dX9_needCodes_22 (by decide) (fun c2 => absurd c2 (fun z => absurd (show x0.toInt < (-1 : Int) from Int32.lt_iff_toInt_lt.mp z) (by omega))) (fun c2 => ?_)
  refine lv_aload_n hx hb dX9_needCodes_25 rfl (lv_at hl 1 rfl) ?_
  refine va_get (D := (dC, dI)) (ci := 16) (v := .ref h1) (C := RX9) (T := TX9) (N := 16) hx hb hta naX9 hown hK hP 0 rfl rfl 2 (by decide) (hta _ wm33) (fun _ h9 => h9) rfl dX9_needCodes_26 ?_
  refine lv_iload_n hx hb dX9_needCodes_29 rfl (lv_at hl 0 rfl) ?_
  have hPc := hP.sub (ws' := [(h1, .inr (11, [.ref h2, .int 6])), (h2, .inl (cc0, 6, .inl (upd (upd (upd (upd (upd (upd (fun _ => 0) 0 x0) 1 x1) 2 x2) 3 x3) 4 x4) 5 x5)))]) [2, 3] rfl
  have hDc := hD.sub (ws' := [(h1, .inr (11, [.ref h2, .int 6])), (h2, .inl (cc0, 6, .inl (upd (upd (upd (upd (upd (upd (fun _ => 0) 0 x0) 1 x1) 2 x2) 3 x3) 4 x4) 5 x5)))]) [2, 3] (by decide) rfl
  have hKc := hK.sub (tys' := [(cc0, .int)]) [0] rfl
  have hFc := va_free (wc := [(h1, .inr (11, [.ref h2, .int 6])), (h2, .inl (cc0, 6, .inl (upd (upd (upd (upd (upd (upd (fun _ => 0) 0 x0) 1 x1) 2 x2) 3 x3) 4 x4) 5 x5)))]) hD hS hA [2, 3] rfl
  refine va_calli (va_runV (As := [.int 0]) (rest := []) ⟨hx, hb, hml, hown, hts⟩ (kX4_get_22 l dC dI g H.size h1 h2 cc0 x0 x1 x2 x3 x4 x5 ⟨by omega, by omega⟩ ⟨by omega, by omega⟩ ⟨by omega, by omega⟩ ⟨by omega, by omega⟩ ⟨by omega, by omega⟩ ⟨by omega, by omega⟩) (cwV 1 hts (ns_gp (List.forall_mem_cons.mpr ⟨wm550, (List.forall_mem_cons.mpr ⟨wm551, (List.forall_mem_cons.mpr ⟨wm552, (List.forall_mem_cons.mpr ⟨wm12, (fun _ h9 => nomatch h9)⟩)⟩)⟩)⟩) wm548) rfl rfl rfl (by decide +kernel) ⟨Nat.le_of_ble_eq_true rfl, Nat.le_of_ble_eq_true rfl⟩) ⟨fun a U gg mk q => by obtain ⟨q0, q1, qP, qK, qD, qF⟩ := q; exact ⟨q0, q1, qP, va_K.moved (u := U) (U := U.calling gg mk a) (Vm.Alike.refl U.vm) qK, qD, ns_same qF⟩, va_recv hK hP (ci := 11) (q0 := 2) rfl rfl, fun U hU hW => ⟨rfl, by rw [hU], by rw [hU]; exact hPc, va_K.moved hW.alike hKc, hDc.weaken (fun _ _ _ _ => trivial), ns_call hF hS hFc hU hW⟩⟩ rfl rfl hl.1 rfl (lv_room (Nat.le_of_ble_eq_true rfl)) dX9_needCodes_30 ⟨Nat.le_of_ble_eq_true rfl, Nat.le_of_ble_eq_true rfl⟩) hS (fun q _ h => hFc q h) hFc (fun r9 u t H1 locs ht hvm hw hB hz1 hk1 hS => ?_)
  obtain rfl := hw.symm
  obtain ⟨hP1, hK1, hD1⟩ := hB
  rw [ht] at hP1
  have hK1 := va_K.moved hvm.symm hK1
  obtain ⟨hP, hD⟩ := va_join (wr := [(h0, .inr (16, [v0, .ref h3, .ref h1, v1, v2, v3, v4, v5, v6, v7, v8, v9, v10, v11, v12, v13])), (h3, .inr (11, [v14, .int 0]))]) (w1 := [(h1, .inr (11, [.ref h2, .int 6])), (h2, .inl (cc0, 6, .inl (upd (upd (upd (upd (upd (upd (fun _ => 0) 0 x0) 1 x1) 2 x2) 3 x3) 4 x4) 5 x5)))]) hP hD [2, 3] [0, 1] rfl rfl (by decide) (by decide) hk1 hFc hP1 hD1
  have hK := (hK.sub (tys' := []) [] rfl).app hK1
  generalize H1 = H at hP hS ⊢
  have hP : va_P (dC, dI) vwCl [(h0, .inr (16, [v0, .ref h3, .ref h1, v1, v2, v3, v4, v5, v6, v7, v8, v9, v10, v11, v12, v13])), (h3, .inr (11, [v14, .int 0])), (h1, .inr (11, [.ref h2, .int 6])), (h2, .inl (cc0, 6, .inl (upd (upd (upd (upd (upd (upd (fun _ => 0) 0 x0) 1 x1) 2 x2) 3 x3) 4 x4) 5 x5)))] H := hP
  have hD : va_D A [(h0, .inr (16, [v0, .ref h3, .ref h1, v1, v2, v3, v4, v5, v6, v7, v8, v9, v10, v11, v12, v13])), (h3, .inr (11, [v14, .int 0])), (h1, .inr (11, [.ref h2, .int 6])), (h2, .inl (cc0, 6, .inl (upd (upd (upd (upd (upd (upd (fun _ => 0) 0 x0) 1 x1) 2 x2) 3 x3) 4 x4) 5 x5)))] := hD
  have hK : va_K (dC, dI) vwCl [(cc0, .int)] s := hK
  refine W.widen (k := 0) (n := 0) (Nat.le_of_ble_eq_true rfl) (Nat.le_of_ble_eq_true rfl) ?_
  refine lv_bipush (v := 21) hx hb dX9_needCodes_33 (by decide) ?_
  refine lv_icmp_le (tgt := 49) hx hb dX9_needCodes_35 (by decide) (fun c3 => ?_) (fun c3 => absurd (show x0 ≤ (21 : Int32) from Int32.le_iff_toInt_le.mpr (show x0.toInt ≤ (21 : Int) by omega)) c3)
  refine lv_iinc (v := 1) (lv' := [(1, .int 1), (0, .ref h0)]) hx hb dX9_needCodes_49 hl (k := 0) rfl (by decide) (by decide) rfl (fun ls hl => ?_)
  refine lv_goto (tgt := 2) hx hb dX9_needCodes_52 (by decide) ?_
  refine lv_iload_n hx hb dX9_needCodes_2 rfl (lv_at hl 0 rfl) ?_
  refine lv_aload_n hx hb dX9_needCodes_3 rfl (lv_at hl 1 rfl) ?_
  refine va_get (D := (dC, dI)) (ci := 16) (v := .ref h1) (C := RX9) (T := TX9) (N := 16) hx hb hta naX9 hown hK hP 0 rfl rfl 2 (by decide) (hta _ wm33) (fun _ h9 => h9) rfl dX9_needCodes_4 ?_
  have hPc := hP.sub (ws' := [(h1, .inr (11, [.ref h2, .int 6]))]) [2] rfl
  have hDc := hD.sub (ws' := [(h1, .inr (11, [.ref h2, .int 6]))]) [2] (by decide) rfl
  have hKc := hK.sub (tys' := []) [] rfl
  have hFc := va_free (wc := [(h1, .inr (11, [.ref h2, .int 6]))]) hD hS hA [2] rfl
  refine va_calli (va_runV (As := []) (rest := [.int 1]) ⟨hx, hb, hml, hown, hts⟩ (kX4_size_7 l dC dI g H.size h1 (.ref h2) ) (cwV 0 hts (ns_gp (List.forall_mem_cons.mpr ⟨wm549, (List.forall_mem_cons.mpr ⟨wm249, (List.forall_mem_cons.mpr ⟨wm250, (List.forall_mem_cons.mpr ⟨wm12, (fun _ h9 => nomatch h9)⟩)⟩)⟩)⟩) wm247) rfl rfl rfl (by decide +kernel) ⟨Nat.le_of_ble_eq_true rfl, Nat.le_of_ble_eq_true rfl⟩) ⟨fun a U gg mk q => by obtain ⟨q0, q1, qP, qK, qD, qF⟩ := q; exact ⟨q0, q1, qP, va_K.moved (u := U) (U := U.calling gg mk a) (Vm.Alike.refl U.vm) qK, qD, ns_same qF⟩, va_recv hK hP (ci := 11) (q0 := 2) rfl rfl, fun U hU hW => ⟨rfl, by rw [hU], by rw [hU]; exact hPc, va_K.moved hW.alike hKc, hDc.weaken (fun _ _ _ _ => trivial), ns_call hF hS hFc hU hW⟩⟩ rfl rfl hl.1 rfl (lv_room (Nat.le_of_ble_eq_true rfl)) dX9_needCodes_7 ⟨Nat.le_of_ble_eq_true rfl, Nat.le_of_ble_eq_true rfl⟩) hS (fun q _ h => hFc q h) hFc (fun r9 u t H1 locs ht hvm hw hB hz1 hk1 hS => ?_)
  obtain rfl := hw.symm
  obtain ⟨hP1, hK1, hD1⟩ := hB
  rw [ht] at hP1
  have hK1 := va_K.moved hvm.symm hK1
  obtain ⟨hP, hD⟩ := va_join (wr := [(h0, .inr (16, [v0, .ref h3, .ref h1, v1, v2, v3, v4, v5, v6, v7, v8, v9, v10, v11, v12, v13])), (h3, .inr (11, [v14, .int 0])), (h2, .inl (cc0, 6, .inl (upd (upd (upd (upd (upd (upd (fun _ => 0) 0 x0) 1 x1) 2 x2) 3 x3) 4 x4) 5 x5)))]) (w1 := [(h1, .inr (11, [.ref h2, .int 6]))]) hP hD [2] [0, 1, 3] rfl rfl (by decide) (by decide) hk1 hFc hP1 hD1
  have hK := (hK.sub (tys' := [(cc0, .int)]) [0] rfl).app hK1
  generalize H1 = H at hP hS ⊢
  have hP : va_P (dC, dI) vwCl [(h0, .inr (16, [v0, .ref h3, .ref h1, v1, v2, v3, v4, v5, v6, v7, v8, v9, v10, v11, v12, v13])), (h3, .inr (11, [v14, .int 0])), (h2, .inl (cc0, 6, .inl (upd (upd (upd (upd (upd (upd (fun _ => 0) 0 x0) 1 x1) 2 x2) 3 x3) 4 x4) 5 x5))), (h1, .inr (11, [.ref h2, .int 6]))] H := hP
  have hD : va_D A [(h0, .inr (16, [v0, .ref h3, .ref h1, v1, v2, v3, v4, v5, v6, v7, v8, v9, v10, v11, v12, v13])), (h3, .inr (11, [v14, .int 0])), (h2, .inl (cc0, 6, .inl (upd (upd (upd (upd (upd (upd (fun _ => 0) 0 x0) 1 x1) 2 x2) 3 x3) 4 x4) 5 x5))), (h1, .inr (11, [.ref h2, .int 6]))] := hD
  have hK : va_K (dC, dI) vwCl [(cc0, .int)] s := hK
  refine W.widen (k := 0) (n := 0) (Nat.le_of_ble_eq_true rfl) (Nat.le_of_ble_eq_true rfl) ?_
  refine lv_icmp_ge (tgt := 55) hx hb dX9_needCodes_10 (by decide) (fun c4 => absurd c4 (by decide)) (fun c4 => ?_)
  refine lv_aload_n hx hb dX9_needCodes_13 rfl (lv_at hl 1 rfl) ?_
  refine va_get (D := (dC, dI)) (ci := 16) (v := .ref h1) (C := RX9) (T := TX9) (N := 16) hx hb hta naX9 hown hK hP 0 rfl rfl 2 (by decide) (hta _ wm33) (fun _ h9 => h9) rfl dX9_needCodes_14 ?_
  refine lv_iload_n hx hb dX9_needCodes_17 rfl (lv_at hl 0 rfl) ?_
  have hPc := hP.sub (ws' := [(h1, .inr (11, [.ref h2, .int 6])), (h2, .inl (cc0, 6, .inl (upd (upd (upd (upd (upd (upd (fun _ => 0) 0 x0) 1 x1) 2 x2) 3 x3) 4 x4) 5 x5)))]) [3, 2] rfl
  have hDc := hD.sub (ws' := [(h1, .inr (11, [.ref h2, .int 6])), (h2, .inl (cc0, 6, .inl (upd (upd (upd (upd (upd (upd (fun _ => 0) 0 x0) 1 x1) 2 x2) 3 x3) 4 x4) 5 x5)))]) [3, 2] (by decide) rfl
  have hKc := hK.sub (tys' := [(cc0, .int)]) [0] rfl
  have hFc := va_free (wc := [(h1, .inr (11, [.ref h2, .int 6])), (h2, .inl (cc0, 6, .inl (upd (upd (upd (upd (upd (upd (fun _ => 0) 0 x0) 1 x1) 2 x2) 3 x3) 4 x4) 5 x5)))]) hD hS hA [3, 2] rfl
  refine va_calli (va_runV (As := [.int 1]) (rest := []) ⟨hx, hb, hml, hown, hts⟩ (kX4_get_23 l dC dI g H.size h1 h2 cc0 x0 x1 x2 x3 x4 x5 ⟨by omega, by omega⟩ ⟨by omega, by omega⟩ ⟨by omega, by omega⟩ ⟨by omega, by omega⟩ ⟨by omega, by omega⟩ ⟨by omega, by omega⟩) (cwV 1 hts (ns_gp (List.forall_mem_cons.mpr ⟨wm550, (List.forall_mem_cons.mpr ⟨wm551, (List.forall_mem_cons.mpr ⟨wm552, (List.forall_mem_cons.mpr ⟨wm12, (fun _ h9 => nomatch h9)⟩)⟩)⟩)⟩) wm548) rfl rfl rfl (by decide +kernel) ⟨Nat.le_of_ble_eq_true rfl, Nat.le_of_ble_eq_true rfl⟩) ⟨fun a U gg mk q => by obtain ⟨q0, q1, qP, qK, qD, qF⟩ := q; exact ⟨q0, q1, qP, va_K.moved (u := U) (U := U.calling gg mk a) (Vm.Alike.refl U.vm) qK, qD, ns_same qF⟩, va_recv hK hP (ci := 11) (q0 := 3) rfl rfl, fun U hU hW => ⟨rfl, by rw [hU], by rw [hU]; exact hPc, va_K.moved hW.alike hKc, hDc.weaken (fun _ _ _ _ => trivial), ns_call hF hS hFc hU hW⟩⟩ rfl rfl hl.1 rfl (lv_room (Nat.le_of_ble_eq_true rfl)) dX9_needCodes_18 ⟨Nat.le_of_ble_eq_true rfl, Nat.le_of_ble_eq_true rfl⟩) hS (fun q _ h => hFc q h) hFc (fun r9 u t H1 locs ht hvm hw hB hz1 hk1 hS => ?_)
  obtain rfl := hw.symm
  obtain ⟨hP1, hK1, hD1⟩ := hB
  rw [ht] at hP1
  have hK1 := va_K.moved hvm.symm hK1
  obtain ⟨hP, hD⟩ := va_join (wr := [(h0, .inr (16, [v0, .ref h3, .ref h1, v1, v2, v3, v4, v5, v6, v7, v8, v9, v10, v11, v12, v13])), (h3, .inr (11, [v14, .int 0]))]) (w1 := [(h1, .inr (11, [.ref h2, .int 6])), (h2, .inl (cc0, 6, .inl (upd (upd (upd (upd (upd (upd (fun _ => 0) 0 x0) 1 x1) 2 x2) 3 x3) 4 x4) 5 x5)))]) hP hD [3, 2] [0, 1] rfl rfl (by decide) (by decide) hk1 hFc hP1 hD1
  have hK := (hK.sub (tys' := []) [] rfl).app hK1
  generalize H1 = H at hP hS ⊢
  have hP : va_P (dC, dI) vwCl [(h0, .inr (16, [v0, .ref h3, .ref h1, v1, v2, v3, v4, v5, v6, v7, v8, v9, v10, v11, v12, v13])), (h3, .inr (11, [v14, .int 0])), (h1, .inr (11, [.ref h2, .int 6])), (h2, .inl (cc0, 6, .inl (upd (upd (upd (upd (upd (upd (fun _ => 0) 0 x0) 1 x1) 2 x2) 3 x3) 4 x4) 5 x5)))] H := hP
  have hD : va_D A [(h0, .inr (16, [v0, .ref h3, .ref h1, v1, v2, v3, v4, v5, v6, v7, v8, v9, v10, v11, v12, v13])), (h3, .inr (11, [v14, .int 0])), (h1, .inr (11, [.ref h2, .int 6])), (h2, .inl (cc0, 6, .inl (upd (upd (upd (upd (upd (upd (fun _ => 0) 0 x0) 1 x1) 2 x2) 3 x3) 4 x4) 5 x5)))] := hD
  have hK : va_K (dC, dI) vwCl [(cc0, .int)] s := hK
  refine W.widen (k := 0) (n := 0) (Nat.le_of_ble_eq_true rfl) (Nat.le_of_ble_eq_true rfl) ?_
  refine lv_iconst (v := (-1)) hx hb dX9_needCodes_21 (by decide) ?_
  refine lv_icmp_lt (tgt := 38) hx hb dX9_needCodes_22 (by decide) (fun c5 => absurd c5 (fun z => absurd (show x1.toInt < (-1 : Int) from Int32.lt_iff_toInt_lt.mp z) (by omega))) (fun c5 => ?_)
  refine lv_aload_n hx hb dX9_needCodes_25 rfl (lv_at hl 1 rfl) ?_
  refine va_get (D := (dC, dI)) (ci := 16) (v := .ref h1) (C := RX9) (T := TX9) (N := 16) hx hb hta naX9 hown hK hP 0 rfl rfl 2 (by decide) (hta _ wm33) (fun _ h9 => h9) rfl dX9_needCodes_26 ?_
  refine lv_iload_n hx hb dX9_needCodes_29 rfl (lv_at hl 0 rfl) ?_
  have hPc := hP.sub (ws' := [(h1, .inr (11, [.ref h2, .int 6])), (h2, .inl (cc0, 6, .inl (upd (upd (upd (upd (upd (upd (fun _ => 0) 0 x0) 1 x1) 2 x2) 3 x3) 4 x4) 5 x5)))]) [2, 3] rfl
  have hDc := hD.sub (ws' := [(h1, .inr (11, [.ref h2, .int 6])), (h2, .inl (cc0, 6, .inl (upd (upd (upd (upd (upd (upd (fun _ => 0) 0 x0) 1 x1) 2 x2) 3 x3) 4 x4) 5 x5)))]) [2, 3] (by decide) rfl
  have hKc := hK.sub (tys' := [(cc0, .int)]) [0] rfl
  have hFc := va_free (wc := [(h1, .inr (11, [.ref h2, .int 6])), (h2, .inl (cc0, 6, .inl (upd (upd (upd (upd (upd (upd (fun _ => 0) 0 x0) 1 x1) 2 x2) 3 x3) 4 x4) 5 x5)))]) hD hS hA [2, 3] rfl
  refine va_calli (va_runV (As := [.int 1]) (rest := []) ⟨hx, hb, hml, hown, hts⟩ (kX4_get_23 l dC dI g H.size h1 h2 cc0 x0 x1 x2 x3 x4 x5 ⟨by omega, by omega⟩ ⟨by omega, by omega⟩ ⟨by omega, by omega⟩ ⟨by omega, by omega⟩ ⟨by omega, by omega⟩ ⟨by omega, by omega⟩) (cwV 1 hts (ns_gp (List.forall_mem_cons.mpr ⟨wm550, (List.forall_mem_cons.mpr ⟨wm551, (List.forall_mem_cons.mpr ⟨wm552, (List.forall_mem_cons.mpr ⟨wm12, (fun _ h9 => nomatch h9)⟩)⟩)⟩)⟩) wm548) rfl rfl rfl (by decide +kernel) ⟨Nat.le_of_ble_eq_true rfl, Nat.le_of_ble_eq_true rfl⟩) ⟨fun a U gg mk q => by obtain ⟨q0, q1, qP, qK, qD, qF⟩ := q; exact ⟨q0, q1, qP, va_K.moved (u := U) (U := U.calling gg mk a) (Vm.Alike.refl U.vm) qK, qD, ns_same qF⟩, va_recv hK hP (ci := 11) (q0 := 2) rfl rfl, fun U hU hW => ⟨rfl, by rw [hU], by rw [hU]; exact hPc, va_K.moved hW.alike hKc, hDc.weaken (fun _ _ _ _ => trivial), ns_call hF hS hFc hU hW⟩⟩ rfl rfl hl.1 rfl (lv_room (Nat.le_of_ble_eq_true rfl)) dX9_needCodes_30 ⟨Nat.le_of_ble_eq_true rfl, Nat.le_of_ble_eq_true rfl⟩) hS (fun q _ h => hFc q h) hFc (fun r9 u t H1 locs ht hvm hw hB hz1 hk1 hS => ?_)
  obtain rfl := hw.symm
  obtain ⟨hP1, hK1, hD1⟩ := hB
  rw [ht] at hP1
  have hK1 := va_K.moved hvm.symm hK1
  obtain ⟨hP, hD⟩ := va_join (wr := [(h0, .inr (16, [v0, .ref h3, .ref h1, v1, v2, v3, v4, v5, v6, v7, v8, v9, v10, v11, v12, v13])), (h3, .inr (11, [v14, .int 0]))]) (w1 := [(h1, .inr (11, [.ref h2, .int 6])), (h2, .inl (cc0, 6, .inl (upd (upd (upd (upd (upd (upd (fun _ => 0) 0 x0) 1 x1) 2 x2) 3 x3) 4 x4) 5 x5)))]) hP hD [2, 3] [0, 1] rfl rfl (by decide) (by decide) hk1 hFc hP1 hD1
  have hK := (hK.sub (tys' := []) [] rfl).app hK1
  generalize H1 = H at hP hS ⊢
  have hP : va_P (dC, dI) vwCl [(h0, .inr (16, [v0, .ref h3, .ref h1, v1, v2, v3, v4, v5, v6, v7, v8, v9, v10, v11, v12, v13])), (h3, .inr (11, [v14, .int 0])), (h1, .inr (11, [.ref h2, .int 6])), (h2, .inl (cc0, 6, .inl (upd (upd (upd (upd (upd (upd (fun _ => 0) 0 x0) 1 x1) 2 x2) 3 x3) 4 x4) 5 x5)))] H := hP
  have hD : va_D A [(h0, .inr (16, [v0, .ref h3, .ref h1, v1, v2, v3, v4, v5, v6, v7, v8, v9, v10, v11, v12, v13])), (h3, .inr (11, [v14, .int 0])), (h1, .inr (11, [.ref h2, .int 6])), (h2, .inl (cc0, 6, .inl (upd (upd (upd (upd (upd (upd (fun _ => 0) 0 x0) 1 x1) 2 x2) 3 x3) 4 x4) 5 x5)))] := hD
  have hK : va_K (dC, dI) vwCl [(cc0, .int)] s := hK
  refine W.widen (k := 0) (n := 0) (Nat.le_of_ble_eq_true rfl) (Nat.le_of_ble_eq_true rfl) ?_
  refine lv_bipush (v := 21) hx hb dX9_needCodes_33 (by decide) ?_
  refine lv_icmp_le (tgt := 49) hx hb dX9_needCodes_35 (by decide) (fun c6 => ?_) (fun c6 => absurd (show x1 ≤ (21 : Int32) from Int32.le_iff_toInt_le.mpr (show x1.toInt ≤ (21 : Int) by omega)) c6)
  refine lv_iinc (v := 2) (lv' := [(1, .int 2), (0, .ref h0)]) hx hb dX9_needCodes_49 hl (k := 0) rfl (by decide) (by decide) rfl (fun ls hl => ?_)
  refine lv_goto (tgt := 2) hx hb dX9_needCodes_52 (by decide) ?_
  refine lv_iload_n hx hb dX9_needCodes_2 rfl (lv_at hl 0 rfl) ?_
  refine lv_aload_n hx hb dX9_needCodes_3 rfl (lv_at hl 1 rfl) ?_
  refine va_get (D := (dC, dI)) (ci := 16) (v := .ref h1) (C := RX9) (T := TX9) (N := 16) hx hb hta naX9 hown hK hP 0 rfl rfl 2 (by decide) (hta _ wm33) (fun _ h9 => h9) rfl dX9_needCodes_4 ?_
  have hPc := hP.sub (ws' := [(h1, .inr (11, [.ref h2, .int 6]))]) [2] rfl
  have hDc := hD.sub (ws' := [(h1, .inr (11, [.ref h2, .int 6]))]) [2] (by decide) rfl
  have hKc := hK.sub (tys' := []) [] rfl
  have hFc := va_free (wc := [(h1, .inr (11, [.ref h2, .int 6]))]) hD hS hA [2] rfl
  refine va_calli (va_runV (As := []) (rest := [.int 2]) ⟨hx, hb, hml, hown, hts⟩ (kX4_size_7 l dC dI g H.size h1 (.ref h2) ) (cwV 0 hts (ns_gp (List.forall_mem_cons.mpr ⟨wm549, (List.forall_mem_cons.mpr ⟨wm249, (List.forall_mem_cons.mpr ⟨wm250, (List.forall_mem_cons.mpr ⟨wm12, (fun _ h9 => nomatch h9)⟩)⟩)⟩)⟩) wm247) rfl rfl rfl (by decide +kernel) ⟨Nat.le_of_ble_eq_true rfl, Nat.le_of_ble_eq_true rfl⟩) ⟨fun a U gg mk q => by obtain ⟨q0, q1, qP, qK, qD, qF⟩ := q; exact ⟨q0, q1, qP, va_K.moved (u := U) (U := U.calling gg mk a) (Vm.Alike.refl U.vm) qK, qD, ns_same qF⟩, va_recv hK hP (ci := 11) (q0 := 2) rfl rfl, fun U hU hW => ⟨rfl, by rw [hU], by rw [hU]; exact hPc, va_K.moved hW.alike hKc, hDc.weaken (fun _ _ _ _ => trivial), ns_call hF hS hFc hU hW⟩⟩ rfl rfl hl.1 rfl (lv_room (Nat.le_of_ble_eq_true rfl)) dX9_needCodes_7 ⟨Nat.le_of_ble_eq_true rfl, Nat.le_of_ble_eq_true rfl⟩) hS (fun q _ h => hFc q h) hFc (fun r9 u t H1 locs ht hvm hw hB hz1 hk1 hS => ?_)
  obtain rfl := hw.symm
  obtain ⟨hP1, hK1, hD1⟩ := hB
  rw [ht] at hP1
  have hK1 := va_K.moved hvm.symm hK1
  obtain ⟨hP, hD⟩ := va_join (wr := [(h0, .inr (16, [v0, .ref h3, .ref h1, v1, v2, v3, v4, v5, v6, v7, v8, v9, v10, v11, v12, v13])), (h3, .inr (11, [v14, .int 0])), (h2, .inl (cc0, 6, .inl (upd (upd (upd (upd (upd (upd (fun _ => 0) 0 x0) 1 x1) 2 x2) 3 x3) 4 x4) 5 x5)))]) (w1 := [(h1, .inr (11, [.ref h2, .int 6]))]) hP hD [2] [0, 1, 3] rfl rfl (by decide) (by decide) hk1 hFc hP1 hD1
  have hK := (hK.sub (tys' := [(cc0, .int)]) [0] rfl).app hK1
  generalize H1 = H at hP hS ⊢
  have hP : va_P (dC, dI) vwCl [(h0, .inr (16, [v0, .ref h3, .ref h1, v1, v2, v3, v4, v5, v6, v7, v8, v9, v10, v11, v12, v13])), (h3, .inr (11, [v14, .int 0])), (h2, .inl (cc0, 6, .inl (upd (upd (upd (upd (upd (upd (fun _ => 0) 0 x0) 1 x1) 2 x2) 3 x3) 4 x4) 5 x5))), (h1, .inr (11, [.ref h2, .int 6]))] H := hP
  have hD : va_D A [(h0, .inr (16, [v0, .ref h3, .ref h1, v1, v2, v3, v4, v5, v6, v7, v8, v9, v10, v11, v12, v13])), (h3, .inr (11, [v14, .int 0])), (h2, .inl (cc0, 6, .inl (upd (upd (upd (upd (upd (upd (fun _ => 0) 0 x0) 1 x1) 2 x2) 3 x3) 4 x4) 5 x5))), (h1, .inr (11, [.ref h2, .int 6]))] := hD
  have hK : va_K (dC, dI) vwCl [(cc0, .int)] s := hK
  refine W.widen (k := 0) (n := 0) (Nat.le_of_ble_eq_true rfl) (Nat.le_of_ble_eq_true rfl) ?_
  refine lv_icmp_ge (tgt := 55) hx hb dX9_needCodes_10 (by decide) (fun c7 => absurd c7 (by decide)) (fun c7 => ?_)
  refine lv_aload_n hx hb dX9_needCodes_13 rfl (lv_at hl 1 rfl) ?_
  refine va_get (D := (dC, dI)) (ci := 16) (v := .ref h1) (C := RX9) (T := TX9) (N := 16) hx hb hta naX9 hown hK hP 0 rfl rfl 2 (by decide) (hta _ wm33) (fun _ h9 => h9) rfl dX9_needCodes_14 ?_
  refine lv_iload_n hx hb dX9_needCodes_17 rfl (lv_at hl 0 rfl) ?_
  have hPc := hP.sub (ws' := [(h1, .inr (11, [.ref h2, .int 6])), (h2, .inl (cc0, 6, .inl (upd (upd (upd (upd (upd (upd (fun _ => 0) 0 x0) 1 x1) 2 x2) 3 x3) 4 x4) 5 x5)))]) [3, 2] rfl
  have hDc := hD.sub (ws' := [(h1, .inr (11, [.ref h2, .int 6])), (h2, .inl (cc0, 6, .inl (upd (upd (upd (upd (upd (upd (fun _ => 0) 0 x0) 1 x1) 2 x2) 3 x3) 4 x4) 5 x5)))]) [3, 2] (by decide) rfl
  have hKc := hK.sub (tys' := [(cc0, .int)]) [0] rfl
  have hFc := va_free (wc := [(h1, .inr (11, [.ref h2, .int 6])), (h2, .inl (cc0, 6, .inl (upd (upd (upd (upd (upd (upd (fun _ => 0) 0 x0) 1 x1) 2 x2) 3 x3) 4 x4) 5 x5)))]) hD hS hA [3, 2] rfl
  refine va_calli (va_runV (As := [.int 2]) (rest := []) ⟨hx, hb, hml, hown, hts⟩ (kX4_get_24 l dC dI g H.size h1 h2 cc0 x0 x1 x2 x3 x4 x5 ⟨by omega, by omega⟩ ⟨by omega, by omega⟩ ⟨by omega, by omega⟩ ⟨by omega, by omega⟩ ⟨by omega, by omega⟩ ⟨by omega, by omega⟩) (cwV 1 hts (ns_gp (List.forall_mem_cons.mpr ⟨wm550, (List.forall_mem_cons.mpr ⟨wm551, (List.forall_mem_cons.mpr ⟨wm552, (List.forall_mem_cons.mpr ⟨wm12, (fun _ h9 => nomatch h9)⟩)⟩)⟩)⟩) wm548) rfl rfl rfl (by decide +kernel) ⟨Nat.le_of_ble_eq_true rfl, Nat.le_of_ble_eq_true rfl⟩) ⟨fun a U gg mk q => by obtain ⟨q0, q1, qP, qK, qD, qF⟩ := q; exact ⟨q0, q1, qP, va_K.moved (u := U) (U := U.calling gg mk a) (Vm.Alike.refl U.vm) qK, qD, ns_same qF⟩, va_recv hK hP (ci := 11) (q0 := 3) rfl rfl, fun U hU hW => ⟨rfl, by rw [hU], by rw [hU]; exact hPc, va_K.moved hW.alike hKc, hDc.weaken (fun _ _ _ _ => trivial), ns_call hF hS hFc hU hW⟩⟩ rfl rfl hl.1 rfl (lv_room (Nat.le_of_ble_eq_true rfl)) dX9_needCodes_18 ⟨Nat.le_of_ble_eq_true rfl, Nat.le_of_ble_eq_true rfl⟩) hS (fun q _ h => hFc q h) hFc (fun r9 u t H1 locs ht hvm hw hB hz1 hk1 hS => ?_)
  obtain rfl := hw.symm
  obtain ⟨hP1, hK1, hD1⟩ := hB
  rw [ht] at hP1
  have hK1 := va_K.moved hvm.symm hK1
  obtain ⟨hP, hD⟩ := va_join (wr := [(h0, .inr (16, [v0, .ref h3, .ref h1, v1, v2, v3, v4, v5, v6, v7, v8, v9, v10, v11, v12, v13])), (h3, .inr (11, [v14, .int 0]))]) (w1 := [(h1, .inr (11, [.ref h2, .int 6])), (h2, .inl (cc0, 6, .inl (upd (upd (upd (upd (upd (upd (fun _ => 0) 0 x0) 1 x1) 2 x2) 3 x3) 4 x4) 5 x5)))]) hP hD [3, 2] [0, 1] rfl rfl (by decide) (by decide) hk1 hFc hP1 hD1
  have hK := (hK.sub (tys' := []) [] rfl).app hK1
  generalize H1 = H at hP hS ⊢
  have hP : va_P (dC, dI) vwCl [(h0, .inr (16, [v0, .ref h3, .ref h1, v1, v2, v3, v4, v5, v6, v7, v8, v9, v10, v11, v12, v13])), (h3, .inr (11, [v14, .int 0])), (h1, .inr (11, [.ref h2, .int 6])), (h2, .inl (cc0, 6, .inl (upd (upd (upd (upd (upd (upd (fun _ => 0) 0 x0) 1 x1) 2 x2) 3 x3) 4 x4) 5 x5)))] H := hP
  have hD : va_D A [(h0, .inr (16, [v0, .ref h3, .ref h1, v1, v2, v3, v4, v5, v6, v7, v8, v9, v10, v11, v12, v13])), (h3, .inr (11, [v14, .int 0])), (h1, .inr (11, [.ref h2, .int 6])), (h2, .inl (cc0, 6, .inl (upd (upd (upd (upd (upd (upd (fun _ => 0) 0 x0) 1 x1) 2 x2) 3 x3) 4 x4) 5 x5)))] := hD
  have hK : va_K (dC, dI) vwCl [(cc0, .int)] s := hK
  refine W.widen (k := 0) (n := 0) (Nat.le_of_ble_eq_true rfl) (Nat.le_of_ble_eq_true rfl) ?_
  refine lv_iconst (v := (-1)) hx hb dX9_needCodes_21 (by decide) ?_
  refine lv_icmp_lt (tgt := 38) hx hb dX9_needCodes_22 (by decide) (fun c8 => absurd c8 (fun z => absurd (show x2.toInt < (-1 : Int) from Int32.lt_iff_toInt_lt.mp z) (by omega))) (fun c8 => ?_)
  refine lv_aload_n hx hb dX9_needCodes_25 rfl (lv_at hl 1 rfl) ?_
  refine va_get (D := (dC, dI)) (ci := 16) (v := .ref h1) (C := RX9) (T := TX9) (N := 16) hx hb hta naX9 hown hK hP 0 rfl rfl 2 (by decide) (hta _ wm33) (fun _ h9 => h9) rfl dX9_needCodes_26 ?_
  refine lv_iload_n hx hb dX9_needCodes_29 rfl (lv_at hl 0 rfl) ?_
  have hPc := hP.sub (ws' := [(h1, .inr (11, [.ref h2, .int 6])), (h2, .inl (cc0, 6, .inl (upd (upd (upd (upd (upd (upd (fun _ => 0) 0 x0) 1 x1) 2 x2) 3 x3) 4 x4) 5 x5)))]) [2, 3] rfl
  have hDc := hD.sub (ws' := [(h1, .inr (11, [.ref h2, .int 6])), (h2, .inl (cc0, 6, .inl (upd (upd (upd (upd (upd (upd (fun _ => 0) 0 x0) 1 x1) 2 x2) 3 x3) 4 x4) 5 x5)))]) [2, 3] (by decide) rfl
  have hKc := hK.sub (tys' := [(cc0, .int)]) [0] rfl
  have hFc := va_free (wc := [(h1, .inr (11, [.ref h2, .int 6])), (h2, .inl (cc0, 6, .inl (upd (upd (upd (upd (upd (upd (fun _ => 0) 0 x0) 1 x1) 2 x2) 3 x3) 4 x4) 5 x5)))]) hD hS hA [2, 3] rfl
  refine va_calli (va_runV (As := [.int 2]) (rest := []) ⟨hx, hb, hml, hown, hts⟩ (kX4_get_24 l dC dI g H.size h1 h2 cc0 x0 x1 x2 x3 x4 x5 ⟨by omega, by omega⟩ ⟨by omega, by omega⟩ ⟨by omega, by omega⟩ ⟨by omega, by omega⟩ ⟨by omega, by omega⟩ ⟨by omega, by omega⟩) (cwV 1 hts (ns_gp (List.forall_mem_cons.mpr ⟨wm550, (List.forall_mem_cons.mpr ⟨wm551, (List.forall_mem_cons.mpr ⟨wm552, (List.forall_mem_cons.mpr ⟨wm12, (fun _ h9 => nomatch h9)⟩)⟩)⟩)⟩) wm548) rfl rfl rfl (by decide +kernel) ⟨Nat.le_of_ble_eq_true rfl, Nat.le_of_ble_eq_true rfl⟩) ⟨fun a U gg mk q => by obtain ⟨q0, q1, qP, qK, qD, qF⟩ := q; exact ⟨q0, q1, qP, va_K.moved (u := U) (U := U.calling gg mk a) (Vm.Alike.refl U.vm) qK, qD, ns_same qF⟩, va_recv hK hP (ci := 11) (q0 := 2) rfl rfl, fun U hU hW => ⟨rfl, by rw [hU], by rw [hU]; exact hPc, va_K.moved hW.alike hKc, hDc.weaken (fun _ _ _ _ => trivial), ns_call hF hS hFc hU hW⟩⟩ rfl rfl hl.1 rfl (lv_room (Nat.le_of_ble_eq_true rfl)) dX9_needCodes_30 ⟨Nat.le_of_ble_eq_true rfl, Nat.le_of_ble_eq_true rfl⟩) hS (fun q _ h => hFc q h) hFc (fun r9 u t H1 locs ht hvm hw hB hz1 hk1 hS => ?_)
  obtain rfl := hw.symm
  obtain ⟨hP1, hK1, hD1⟩ := hB
  rw [ht] at hP1
  have hK1 := va_K.moved hvm.symm hK1
  obtain ⟨hP, hD⟩ := va_join (wr := [(h0, .inr (16, [v0, .ref h3, .ref h1, v1, v2, v3, v4, v5, v6, v7, v8, v9, v10, v11, v12, v13])), (h3, .inr (11, [v14, .int 0]))]) (w1 := [(h1, .inr (11, [.ref h2, .int 6])), (h2, .inl (cc0, 6, .inl (upd (upd (upd (upd (upd (upd (fun _ => 0) 0 x0) 1 x1) 2 x2) 3 x3) 4 x4) 5 x5)))]) hP hD [2, 3] [0, 1] rfl rfl (by decide) (by decide) hk1 hFc hP1 hD1
  have hK := (hK.sub (tys' := []) [] rfl).app hK1
  generalize H1 = H at hP hS ⊢
  have hP : va_P (dC, dI) vwCl [(h0, .inr (16, [v0, .ref h3, .ref h1, v1, v2, v3, v4, v5, v6, v7, v8, v9, v10, v11, v12, v13])), (h3, .inr (11, [v14, .int 0])), (h1, .inr (11, [.ref h2, .int 6])), (h2, .inl (cc0, 6, .inl (upd (upd (upd (upd (upd (upd (fun _ => 0) 0 x0) 1 x1) 2 x2) 3 x3) 4 x4) 5 x5)))] H := hP
  have hD : va_D A [(h0, .inr (16, [v0, .ref h3, .ref h1, v1, v2, v3, v4, v5, v6, v7, v8, v9, v10, v11, v12, v13])), (h3, .inr (11, [v14, .int 0])), (h1, .inr (11, [.ref h2, .int 6])), (h2, .inl (cc0, 6, .inl (upd (upd (upd (upd (upd (upd (fun _ => 0) 0 x0) 1 x1) 2 x2) 3 x3) 4 x4) 5 x5)))] := hD
  have hK : va_K (dC, dI) vwCl [(cc0, .int)] s := hK
  refine W.widen (k := 0) (n := 0) (Nat.le_of_ble_eq_true rfl) (Nat.le_of_ble_eq_true rfl) ?_
  refine lv_bipush (v := 21) hx hb dX9_needCodes_33 (by decide) ?_
  refine lv_icmp_le (tgt := 49) hx hb dX9_needCodes_35 (by decide) (fun c9 => ?_) (fun c9 => absurd (show x2 ≤ (21 : Int32) from Int32.le_iff_toInt_le.mpr (show x2.toInt ≤ (21 : Int) by omega)) c9)
  refine lv_iinc (v := 3) (lv' := [(1, .int 3), (0, .ref h0)]) hx hb dX9_needCodes_49 hl (k := 0) rfl (by decide) (by decide) rfl (fun ls hl => ?_)
  refine lv_goto (tgt := 2) hx hb dX9_needCodes_52 (by decide) ?_
  refine lv_iload_n hx hb dX9_needCodes_2 rfl (lv_at hl 0 rfl) ?_
  refine lv_aload_n hx hb dX9_needCodes_3 rfl (lv_at hl 1 rfl) ?_
  refine va_get (D := (dC, dI)) (ci := 16) (v := .ref h1) (C := RX9) (T := TX9) (N := 16) hx hb hta naX9 hown hK hP 0 rfl rfl 2 (by decide) (hta _ wm33) (fun _ h9 => h9) rfl dX9_needCodes_4 ?_
  have hPc := hP.sub (ws' := [(h1, .inr (11, [.ref h2, .int 6]))]) [2] rfl
  have hDc := hD.sub (ws' := [(h1, .inr (11, [.ref h2, .int 6]))]) [2] (by decide) rfl
  have hKc := hK.sub (tys' := []) [] rfl
  have hFc := va_free (wc := [(h1, .inr (11, [.ref h2, .int 6]))]) hD hS hA [2] rfl
  refine va_calli (va_runV (As := []) (rest := [.int 3]) ⟨hx, hb, hml, hown, hts⟩ (kX4_size_7 l dC dI g H.size h1 (.ref h2) ) (cwV 0 hts (ns_gp (List.forall_mem_cons.mpr ⟨wm549, (List.forall_mem_cons.mpr ⟨wm249, (List.forall_mem_cons.mpr ⟨wm250, (List.forall_mem_cons.mpr ⟨wm12, (fun _ h9 => nomatch h9)⟩)⟩)⟩)⟩) wm247) rfl rfl rfl (by decide +kernel) ⟨Nat.le_of_ble_eq_true rfl, Nat.le_of_ble_eq_true rfl⟩) ⟨fun a U gg mk q => by obtain ⟨q0, q1, qP, qK, qD, qF⟩ := q; exact ⟨q0, q1, qP, va_K.moved (u := U) (U := U.calling gg mk a) (Vm.Alike.refl U.vm) qK, qD, ns_same qF⟩, va_recv hK hP (ci := 11) (q0 := 2) rfl rfl, fun U hU hW => ⟨rfl, by rw [hU], by rw [hU]; exact hPc, va_K.moved hW.alike hKc, hDc.weaken (fun _ _ _ _ => trivial), ns_call hF hS hFc hU hW⟩⟩ rfl rfl hl.1 rfl (lv_room (Nat.le_of_ble_eq_true rfl)) dX9_needCodes_7 ⟨Nat.le_of_ble_eq_true rfl, Nat.le_of_ble_eq_true rfl⟩) hS (fun q _ h => hFc q h) hFc (fun r9 u t H1 locs ht hvm hw hB hz1 hk1 hS => ?_)
  obtain rfl := hw.symm
  obtain ⟨hP1, hK1, hD1⟩ := hB
  rw [ht] at hP1
  have hK1 := va_K.moved hvm.symm hK1
  obtain ⟨hP, hD⟩ := va_join (wr := [(h0, .inr (16, [v0, .ref h3, .ref h1, v1, v2, v3, v4, v5, v6, v7, v8, v9, v10, v11, v12, v13])), (h3, .inr (11, [v14, .int 0])), (h2, .inl (cc0, 6, .inl (upd (upd (upd (upd (upd (upd (fun _ => 0) 0 x0) 1 x1) 2 x2) 3 x3) 4 x4) 5 x5)))]) (w1 := [(h1, .inr (11, [.ref h2, .int 6]))]) hP hD [2] [0, 1, 3] rfl rfl (by decide) (by decide) hk1 hFc hP1 hD1
  have hK := (hK.sub (tys' := [(cc0, .int)]) [0] rfl).app hK1
  generalize H1 = H at hP hS ⊢
  have hP : va_P (dC, dI) vwCl [(h0, .inr (16, [v0, .ref h3, .ref h1, v1, v2, v3, v4, v5, v6, v7, v8, v9, v10, v11, v12, v13])), (h3, .inr (11, [v14, .int 0])), (h2, .inl (cc0, 6, .inl (upd (upd (upd (upd (upd (upd (fun _ => 0) 0 x0) 1 x1) 2 x2) 3 x3) 4 x4) 5 x5))), (h1, .inr (11, [.ref h2, .int 6]))] H := hP
  have hD : va_D A [(h0, .inr (16, [v0, .ref h3, .ref h1, v1, v2, v3, v4, v5, v6, v7, v8, v9, v10, v11, v12, v13])), (h3, .inr (11, [v14, .int 0])), (h2, .inl (cc0, 6, .inl (upd (upd (upd (upd (upd (upd (fun _ => 0) 0 x0) 1 x1) 2 x2) 3 x3) 4 x4) 5 x5))), (h1, .inr (11, [.ref h2, .int 6]))] := hD
  have hK : va_K (dC, dI) vwCl [(cc0, .int)] s := hK
  refine W.widen (k := 0) (n := 0) (Nat.le_of_ble_eq_true rfl) (Nat.le_of_ble_eq_true rfl) ?_
  refine lv_icmp_ge (tgt := 55) hx hb dX9_needCodes_10 (by decide) (fun c10 => absurd c10 (by decide)) (fun c10 => ?_)
  refine lv_aload_n hx hb dX9_needCodes_13 rfl (lv_at hl 1 rfl) ?_
  refine va_get (D := (dC, dI)) (ci := 16) (v := .ref h1) (C := RX9) (T := TX9) (N := 16) hx hb hta naX9 hown hK hP 0 rfl rfl 2 (by decide) (hta _ wm33) (fun _ h9 => h9) rfl dX9_needCodes_14 ?_
  refine lv_iload_n hx hb dX9_needCodes_17 rfl (lv_at hl 0 rfl) ?_
  have hPc := hP.sub (ws' := [(h1, .inr (11, [.ref h2, .int 6])), (h2, .inl (cc0, 6, .inl (upd (upd (upd (upd (upd (upd (fun _ => 0) 0 x0) 1 x1) 2 x2) 3 x3) 4 x4) 5 x5)))]) [3, 2] rfl
  have hDc := hD.sub (ws' := [(h1, .inr (11, [.ref h2, .int 6])), (h2, .inl (cc0, 6, .inl (upd (upd (upd (upd (upd (upd (fun _ => 0) 0 x0) 1 x1) 2 x2) 3 x3) 4 x4) 5 x5)))]) [3, 2] (by decide) rfl
  have hKc := hK.sub (tys' := [(cc0, .int)]) [0] rfl
  have hFc := va_free (wc := [(h1, .inr (11, [.ref h2, .int 6])), (h2, .inl (cc0, 6, .inl (upd (upd (upd (upd (upd (upd (fun _ => 0) 0 x0) 1 x1) 2 x2) 3 x3) 4 x4) 5 x5)))]) hD hS hA [3, 2] rfl
  refine va_calli (va_runV (As := [.int 3]) (rest := []) ⟨hx, hb, hml, hown, hts⟩ (kX4_get_25 l dC dI g H.size h1 h2 cc0 x0 x1 x2 x3 x4 x5 ⟨by omega, by omega⟩ ⟨by omega, by omega⟩ ⟨by omega, by omega⟩ ⟨by omega, by omega⟩ ⟨by omega, by omega⟩ ⟨by omega, by omega⟩) (cwV 1 hts (ns_gp (List.forall_mem_cons.mpr ⟨wm550, (List.forall_mem_cons.mpr ⟨wm551, (List.forall_mem_cons.mpr ⟨wm552, (List.forall_mem_cons.mpr ⟨wm12, (fun _ h9 => nomatch h9)⟩)⟩)⟩)⟩) wm548) rfl rfl rfl (by decide +kernel) ⟨Nat.le_of_ble_eq_true rfl, Nat.le_of_ble_eq_true rfl⟩) ⟨fun a U gg mk q => by obtain ⟨q0, q1, qP, qK, qD, qF⟩ := q; exact ⟨q0, q1, qP, va_K.moved (u := U) (U := U.calling gg mk a) (Vm.Alike.refl U.vm) qK, qD, ns_same qF⟩, va_recv hK hP (ci := 11) (q0 := 3) rfl rfl, fun U hU hW => ⟨rfl, by rw [hU], by rw [hU]; exact hPc, va_K.moved hW.alike hKc, hDc.weaken (fun _ _ _ _ => trivial), ns_call hF hS hFc hU hW⟩⟩ rfl rfl hl.1 rfl (lv_room (Nat.le_of_ble_eq_true rfl)) dX9_needCodes_18 ⟨Nat.le_of_ble_eq_true rfl, Nat.le_of_ble_eq_true rfl⟩) hS (fun q _ h => hFc q h) hFc (fun r9 u t H1 locs ht hvm hw hB hz1 hk1 hS => ?_)
  obtain rfl := hw.symm
  obtain ⟨hP1, hK1, hD1⟩ := hB
  rw [ht] at hP1
  have hK1 := va_K.moved hvm.symm hK1
  obtain ⟨hP, hD⟩ := va_join (wr := [(h0, .inr (16, [v0, .ref h3, .ref h1, v1, v2, v3, v4, v5, v6, v7, v8, v9, v10, v11, v12, v13])), (h3, .inr (11, [v14, .int 0]))]) (w1 := [(h1, .inr (11, [.ref h2, .int 6])), (h2, .inl (cc0, 6, .inl (upd (upd (upd (upd (upd (upd (fun _ => 0) 0 x0) 1 x1) 2 x2) 3 x3) 4 x4) 5 x5)))]) hP hD [3, 2] [0, 1] rfl rfl (by decide) (by decide) hk1 hFc hP1 hD1
  have hK := (hK.sub (tys' := []) [] rfl).app hK1
  generalize H1 = H at hP hS ⊢
  have hP : va_P (dC, dI) vwCl [(h0, .inr (16, [v0, .ref h3, .ref h1, v1, v2, v3, v4, v5, v6, v7, v8, v9, v10, v11, v12, v13])), (h3, .inr (11, [v14, .int 0])), (h1, .inr (11, [.ref h2, .int 6])), (h2, .inl (cc0, 6, .inl (upd (upd (upd (upd (upd (upd (fun _ => 0) 0 x0) 1 x1) 2 x2) 3 x3) 4 x4) 5 x5)))] H := hP
  have hD : va_D A [(h0, .inr (16, [v0, .ref h3, .ref h1, v1, v2, v3, v4, v5, v6, v7, v8, v9, v10, v11, v12, v13])), (h3, .inr (11, [v14, .int 0])), (h1, .inr (11, [.ref h2, .int 6])), (h2, .inl (cc0, 6, .inl (upd (upd (upd (upd (upd (upd (fun _ => 0) 0 x0) 1 x1) 2 x2) 3 x3) 4 x4) 5 x5)))] := hD
  have hK : va_K (dC, dI) vwCl [(cc0, .int)] s := hK
  refine W.widen (k := 0) (n := 0) (Nat.le_of_ble_eq_true rfl) (Nat.le_of_ble_eq_true rfl) ?_
  refine lv_iconst (v := (-1)) hx hb dX9_needCodes_21 (by decide) ?_
  refine lv_icmp_lt (tgt := 38) hx hb dX9_needCodes_22 (by decide) (fun c11 => absurd c11 (fun z => absurd (show x3.toInt < (-1 : Int) from Int32.lt_iff_toInt_lt.mp z) (by omega))) (fun c11 => ?_)
  refine lv_aload_n hx hb dX9_needCodes_25 rfl (lv_at hl 1 rfl) ?_
  refine va_get (D := (dC, dI)) (ci := 16) (v := .ref h1) (C := RX9) (T := TX9) (N := 16) hx hb hta naX9 hown hK hP 0 rfl rfl 2 (by decide) (hta _ wm33) (fun _ h9 => h9) rfl dX9_needCodes_26 ?_
  refine lv_iload_n hx hb dX9_needCodes_29 rfl (lv_at hl 0 rfl) ?_
  have hPc := hP.sub (ws' := [(h1, .inr (11, [.ref h2, .int 6])), (h2, .inl (cc0, 6, .inl (upd (upd (upd (upd (upd (upd (fun _ => 0) 0 x0) 1 x1) 2 x2) 3 x3) 4 x4) 5 x5)))]) [2, 3] rfl
  have hDc := hD.sub (ws' := [(h1, .inr (11, [.ref h2, .int 6])), (h2, .inl (cc0, 6, .inl (upd (upd (upd (upd (upd (upd (fun _ => 0) 0 x0) 1 x1) 2 x2) 3 x3) 4 x4) 5 x5)))]) [2, 3] (by decide) rfl
  have hKc := hK.sub (tys' := [(cc0, .int)]) [0] rfl
  have hFc := va_free (wc := [(h1, .inr (11, [.ref h2, .int 6])), (h2, .inl (cc0, 6, .inl (upd (upd (upd (upd (upd (upd (fun _ => 0) 0 x0) 1 x1) 2 x2) 3 x3) 4 x4) 5 x5)))]) hD hS hA [2, 3] rfl
  refine va_calli (va_runV (As := [.int 3]) (rest := []) ⟨hx, hb, hml, hown, hts⟩ (kX4_get_25 l dC dI g H.size h1 h2 cc0 x0 x1 x2 x3 x4 x5 ⟨by omega, by omega⟩ ⟨by omega, by omega⟩ ⟨by omega, by omega⟩ ⟨by omega, by omega⟩ ⟨by omega, by omega⟩ ⟨by omega, by omega⟩) (cwV 1 hts (ns_gp (List.forall_mem_cons.mpr ⟨wm550, (List.forall_mem_cons.mpr ⟨wm551, (List.forall_mem_cons.mpr ⟨wm552, (List.forall_mem_cons.mpr ⟨wm12, (fun _ h9 => nomatch h9)⟩)⟩)⟩)⟩) wm548) rfl rfl rfl (by decide +kernel) ⟨Nat.le_of_ble_eq_true rfl, Nat.le_of_ble_eq_true rfl⟩) ⟨fun a U gg mk q => by obtain ⟨q0, q1, qP, qK, qD, qF⟩ := q; exact ⟨q0, q1, qP, va_K.moved (u := U) (U := U.calling gg mk a) (Vm.Alike.refl U.vm) qK, qD, ns_same qF⟩, va_recv hK hP (ci := 11) (q0 := 2) rfl rfl, fun U hU hW => ⟨rfl, by rw [hU], by rw [hU]; exact hPc, va_K.moved hW.alike hKc, hDc.weaken (fun _ _ _ _ => trivial), ns_call hF hS hFc hU hW⟩⟩ rfl rfl hl.1 rfl (lv_room (Nat.le_of_ble_eq_true rfl)) dX9_needCodes_30 ⟨Nat.le_of_ble_eq_true rfl, Nat.le_of_ble_eq_true rfl⟩) hS (fun q _ h => hFc q h) hFc (fun r9 u t H1 locs ht hvm hw hB hz1 hk1 hS => ?_)
  obtain rfl := hw.symm
  obtain ⟨hP1, hK1, hD1⟩ := hB
  rw [ht] at hP1
  have hK1 := va_K.moved hvm.symm hK1
  obtain ⟨hP, hD⟩ := va_join (wr := [(h0, .inr (16, [v0, .ref h3, .ref h1, v1, v2, v3, v4, v5, v6, v7, v8, v9, v10, v11, v12, v13])), (h3, .inr (11, [v14, .int 0]))]) (w1 := [(h1, .inr (11, [.ref h2, .int 6])), (h2, .inl (cc0, 6, .inl (upd (upd (upd (upd (upd (upd (fun _ => 0) 0 x0) 1 x1) 2 x2) 3 x3) 4 x4) 5 x5)))]) hP hD [2, 3] [0, 1] rfl rfl (by decide) (by decide) hk1 hFc hP1 hD1
  have hK := (hK.sub (tys' := []) [] rfl).app hK1
  generalize H1 = H at hP hS ⊢
  have hP : va_P (dC, dI) vwCl [(h0, .inr (16, [v0, .ref h3, .ref h1, v1, v2, v3, v4, v5, v6, v7, v8, v9, v10, v11, v12, v13])), (h3, .inr (11, [v14, .int 0])), (h1, .inr (11, [.ref h2, .int 6])), (h2, .inl (cc0, 6, .inl (upd (upd (upd (upd (upd (upd (fun _ => 0) 0 x0) 1 x1) 2 x2) 3 x3) 4 x4) 5 x5)))] H := hP
  have hD : va_D A [(h0, .inr (16, [v0, .ref h3, .ref h1, v1, v2, v3, v4, v5, v6, v7, v8, v9, v10, v11, v12, v13])), (h3, .inr (11, [v14, .int 0])), (h1, .inr (11, [.ref h2, .int 6])), (h2, .inl (cc0, 6, .inl (upd (upd (upd (upd (upd (upd (fun _ => 0) 0 x0) 1 x1) 2 x2) 3 x3) 4 x4) 5 x5)))] := hD
  have hK : va_K (dC, dI) vwCl [(cc0, .int)] s := hK
  refine W.widen (k := 0) (n := 0) (Nat.le_of_ble_eq_true rfl) (Nat.le_of_ble_eq_true rfl) ?_
  refine lv_bipush (v := 21) hx hb dX9_needCodes_33 (by decide) ?_
  refine lv_icmp_le (tgt := 49) hx hb dX9_needCodes_35 (by decide) (fun c12 => ?_) (fun c12 => absurd (show x3 ≤ (21 : Int32) from Int32.le_iff_toInt_le.mpr (show x3.toInt ≤ (21 : Int) by omega)) c12)
  refine lv_iinc (v := 4) (lv' := [(1, .int 4), (0, .ref h0)]) hx hb dX9_needCodes_49 hl (k := 0) rfl (by decide) (by decide) rfl (fun ls hl => ?_)
  refine lv_goto (tgt := 2) hx hb dX9_needCodes_52 (by decide) ?_
  refine lv_iload_n hx hb dX9_needCodes_2 rfl (lv_at hl 0 rfl) ?_
  refine lv_aload_n hx hb dX9_needCodes_3 rfl (lv_at hl 1 rfl) ?_
  refine va_get (D := (dC, dI)) (ci := 16) (v := .ref h1) (C := RX9) (T := TX9) (N := 16) hx hb hta naX9 hown hK hP 0 rfl rfl 2 (by decide) (hta _ wm33) (fun _ h9 => h9) rfl dX9_needCodes_4 ?_
  have hPc := hP.sub (ws' := [(h1, .inr (11, [.ref h2, .int 6]))]) [2] rfl
  have hDc := hD.sub (ws' := [(h1, .inr (11, [.ref h2, .int 6]))]) [2] (by decide) rfl
  have hKc := hK.sub (tys' := []) [] rfl
  have hFc := va_free (wc := [(h1, .inr (11, [.ref h2, .int 6]))]) hD hS hA [2] rfl
  refine va_calli (va_runV (As := []) (rest := [.int 4]) ⟨hx, hb, hml, hown, hts⟩ (kX4_size_7 l dC dI g H.size h1 (.ref h2) ) (cwV 0 hts (ns_gp (List.forall_mem_cons.mpr ⟨wm549, (List.forall_mem_cons.mpr ⟨wm249, (List.forall_mem_cons.mpr ⟨wm250, (List.forall_mem_cons.mpr ⟨wm12, (fun _ h9 => nomatch h9)⟩)⟩)⟩)⟩) wm247) rfl rfl rfl (by decide +kernel) ⟨Nat.le_of_ble_eq_true rfl, Nat.le_of_ble_eq_true rfl⟩) ⟨fun a U gg mk q => by obtain ⟨q0, q1, qP, qK, qD, qF⟩ := q; exact ⟨q0, q1, qP, va_K.moved (u := U) (U := U.calling gg mk a) (Vm.Alike.refl U.vm) qK, qD, ns_same qF⟩, va_recv hK hP (ci := 11) (q0 := 2) rfl rfl, fun U hU hW => ⟨rfl, by rw [hU], by rw [hU]; exact hPc, va_K.moved hW.alike hKc, hDc.weaken (fun _ _ _ _ => trivial), ns_call hF hS hFc hU hW⟩⟩ rfl rfl hl.1 rfl (lv_room (Nat.le_of_ble_eq_true rfl)) dX9_needCodes_7 ⟨Nat.le_of_ble_eq_true rfl, Nat.le_of_ble_eq_true rfl⟩) hS (fun q _ h => hFc q h) hFc (fun r9 u t H1 locs ht hvm hw hB hz1 hk1 hS => ?_)
  obtain rfl := hw.symm
  obtain ⟨hP1, hK1, hD1⟩ := hB
  rw [ht] at hP1
  have hK1 := va_K.moved hvm.symm hK1
  obtain ⟨hP, hD⟩ := va_join (wr := [(h0, .inr (16, [v0, .ref h3, .ref h1, v1, v2, v3, v4, v5, v6, v7, v8, v9, v10, v11, v12, v13])), (h3, .inr (11, [v14, .int 0])), (h2, .inl (cc0, 6, .inl (upd (upd (upd (upd (upd (upd (fun _ => 0) 0 x0) 1 x1) 2 x2) 3 x3) 4 x4) 5 x5)))]) (w1 := [(h1, .inr (11, [.ref h2, .int 6]))]) hP hD [2] [0, 1, 3] rfl rfl (by decide) (by decide) hk1 hFc hP1 hD1
  have hK := (hK.sub (tys' := [(cc0, .int)]) [0] rfl).app hK1
  generalize H1 = H at hP hS ⊢
  have hP : va_P (dC, dI) vwCl [(h0, .inr (16, [v0, .ref h3, .ref h1, v1, v2, v3, v4, v5, v6, v7, v8, v9, v10, v11, v12, v13])), (h3, .inr (11, [v14, .int 0])), (h2, .inl (cc0, 6, .inl (upd (upd (upd (upd (upd (upd (fun _ => 0) 0 x0) 1 x1) 2 x2) 3 x3) 4 x4) 5 x5))), (h1, .inr (11, [.ref h2, .int 6]))] H := hP
  have hD : va_D A [(h0, .inr (16, [v0, .ref h3, .ref h1, v1, v2, v3, v4, v5, v6, v7, v8, v9, v10, v11, v12, v13])), (h3, .inr (11, [v14, .int 0])), (h2, .inl (cc0, 6, .inl (upd (upd (upd (upd (upd (upd (fun _ => 0) 0 x0) 1 x1) 2 x2) 3 x3) 4 x4) 5 x5))), (h1, .inr (11, [.ref h2, .int 6]))] := hD
  have hK : va_K (dC, dI) vwCl [(cc0, .int)] s := hK
  refine W.widen (k := 0) (n := 0) (Nat.le_of_ble_eq_true rfl) (Nat.le_of_ble_eq_true rfl) ?_
  refine lv_icmp_ge (tgt := 55) hx hb dX9_needCodes_10 (by decide) (fun c13 => absurd c13 (by decide)) (fun c13 => ?_)
  refine lv_aload_n hx hb dX9_needCodes_13 rfl (lv_at hl 1 rfl) ?_
  refine va_get (D := (dC, dI)) (ci := 16) (v := .ref h1) (C := RX9) (T := TX9) (N := 16) hx hb hta naX9 hown hK hP 0 rfl rfl 2 (by decide) (hta _ wm33) (fun _ h9 => h9) rfl dX9_needCodes_14 ?_
  refine lv_iload_n hx hb dX9_needCodes_17 rfl (lv_at hl 0 rfl) ?_
  have hPc := hP.sub (ws' := [(h1, .inr (11, [.ref h2, .int 6])), (h2, .inl (cc0, 6, .inl (upd (upd (upd (upd (upd (upd (fun _ => 0) 0 x0) 1 x1) 2 x2) 3 x3) 4 x4) 5 x5)))]) [3, 2] rfl
  have hDc := hD.sub (ws' := [(h1, .inr (11, [.ref h2, .int 6])), (h2, .inl (cc0, 6, .inl (upd (upd (upd (upd (upd (upd (fun _ => 0) 0 x0) 1 x1) 2 x2) 3 x3) 4 x4) 5 x5)))]) [3, 2] (by decide) rfl
  have hKc := hK.sub (tys' := [(cc0, .int)]) [0] rfl
  have hFc := va_free (wc := [(h1, .inr (11, [.ref h2, .int 6])), (h2, .inl (cc0, 6, .inl (upd (upd (upd (upd (upd (upd (fun _ => 0) 0 x0) 1 x1) 2 x2) 3 x3) 4 x4) 5 x5)))]) hD hS hA [3, 2] rfl
  refine va_calli (va_runV (As := [.int 4]) (rest := []) ⟨hx, hb, hml, hown, hts⟩ (kX4_get_26 l dC dI g H.size h1 h2 cc0 x0 x1 x2 x3 x4 x5 ⟨by omega, by omega⟩ ⟨by omega, by omega⟩ ⟨by omega, by omega⟩ ⟨by omega, by omega⟩ ⟨by omega, by omega⟩ ⟨by omega, by omega⟩) (cwV 1 hts (ns_gp (List.forall_mem_cons.mpr ⟨wm550, (List.forall_mem_cons.mpr ⟨wm551, (List.forall_mem_cons.mpr ⟨wm552, (List.forall_mem_cons.mpr ⟨wm12, (fun _ h9 => nomatch h9)⟩)⟩)⟩)⟩) wm548) rfl rfl rfl (by decide +kernel) ⟨Nat.le_of_ble_eq_true rfl, Nat.le_of_ble_eq_true rfl⟩) ⟨fun a U gg mk q => by obtain ⟨q0, q1, qP, qK, qD, qF⟩ := q; exact ⟨q0, q1, qP, va_K.moved (u := U) (U := U.calling gg mk a) (Vm.Alike.refl U.vm) qK, qD, ns_same qF⟩, va_recv hK hP (ci := 11) (q0 := 3) rfl rfl, fun U hU hW => ⟨rfl, by rw [hU], by rw [hU]; exact hPc, va_K.moved hW.alike hKc, hDc.weaken (fun _ _ _ _ => trivial), ns_call hF hS hFc hU hW⟩⟩ rfl rfl hl.1 rfl (lv_room (Nat.le_of_ble_eq_true rfl)) dX9_needCodes_18 ⟨Nat.le_of_ble_eq_true rfl, Nat.le_of_ble_eq_true rfl⟩) hS (fun q _ h => hFc q h) hFc (fun r9 u t H1 locs ht hvm hw hB hz1 hk1 hS => ?_)
  obtain rfl := hw.symm
  obtain ⟨hP1, hK1, hD1⟩ := hB
  rw [ht] at hP1
  have hK1 := va_K.moved hvm.symm hK1
  obtain ⟨hP, hD⟩ := va_join (wr := [(h0, .inr (16, [v0, .ref h3, .ref h1, v1, v2, v3, v4, v5, v6, v7, v8, v9, v10, v11, v12, v13])), (h3, .inr (11, [v14, .int 0]))]) (w1 := [(h1, .inr (11, [.ref h2, .int 6])), (h2, .inl (cc0, 6, .inl (upd (upd (upd (upd (upd (upd (fun _ => 0) 0 x0) 1 x1) 2 x2) 3 x3) 4 x4) 5 x5)))]) hP hD [3, 2] [0, 1] rfl rfl (by decide) (by decide) hk1 hFc hP1 hD1
  have hK := (hK.sub (tys' := []) [] rfl).app hK1
  generalize H1 = H at hP hS ⊢
  have hP : va_P (dC, dI) vwCl [(h0, .inr (16, [v0, .ref h3, .ref h1, v1, v2, v3, v4, v5, v6, v7, v8, v9, v10, v11, v12, v13])), (h3, .inr (11, [v14, .int 0])), (h1, .inr (11, [.ref h2, .int 6])), (h2, .inl (cc0, 6, .inl (upd (upd (upd (upd (upd (upd (fun _ => 0) 0 x0) 1 x1) 2 x2) 3 x3) 4 x4) 5 x5)))] H := hP
  have hD : va_D A [(h0, .inr (16, [v0, .ref h3, .ref h1, v1, v2, v3, v4, v5, v6, v7, v8, v9, v10, v11, v12, v13])), (h3, .inr (11, [v14, .int 0])), (h1, .inr (11, [.ref h2, .int 6])), (h2, .inl (cc0, 6, .inl (upd (upd (upd (upd (upd (upd (fun _ => 0) 0 x0) 1 x1) 2 x2) 3 x3) 4 x4) 5 x5)))] := hD
  have hK : va_K (dC, dI) vwCl [(cc0, .int)] s := hK
  refine W.widen (k := 0) (n := 0) (Nat.le_of_ble_eq_true rfl) (Nat.le_of_ble_eq_true rfl) ?_
  refine lv_iconst (v := (-1)) hx hb dX9_needCodes_21 (by decide) ?_
  refine lv_icmp_lt (tgt := 38) hx hb dX9_needCodes_22 (by decide) (fun c14 => absurd c14 (fun z => absurd (show x4.toInt < (-1 : Int) from Int32.lt_iff_toInt_lt.mp z) (by omega))) (fun c14 => ?_)
  refine lv_aload_n hx hb dX9_needCodes_25 rfl (lv_at hl 1 rfl) ?_
  refine va_get (D := (dC, dI)) (ci := 16) (v := .ref h1) (C := RX9) (T := TX9) (N := 16) hx hb hta naX9 hown hK hP 0 rfl rfl 2 (by decide) (hta _ wm33) (fun _ h9 => h9) rfl dX9_needCodes_26 ?_
  refine lv_iload_n hx hb dX9_needCodes_29 rfl (lv_at hl 0 rfl) ?_
  have hPc := hP.sub (ws' := [(h1, .inr (11, [.ref h2, .int 6])), (h2, .inl (cc0, 6, .inl (upd (upd (upd (upd (upd (upd (fun _ => 0) 0 x0) 1 x1) 2 x2) 3 x3) 4 x4) 5 x5)))]) [2, 3] rfl
  have hDc := hD.sub (ws' := [(h1, .inr (11, [.ref h2, .int 6])), (h2, .inl (cc0, 6, .inl (upd (upd (upd (upd (upd (upd (fun _ => 0) 0 x0) 1 x1) 2 x2) 3 x3) 4 x4) 5 x5)))]) [2, 3] (by decide) rfl
  have hKc := hK.sub (tys' := [(cc0, .int)]) [0] rfl
  have hFc := va_free (wc := [(h1, .inr (11, [.ref h2, .int 6])), (h2, .inl (cc0, 6, .inl (upd (upd (upd (upd (upd (upd (fun _ => 0) 0 x0) 1 x1) 2 x2) 3 x3) 4 x4) 5 x5)))]) hD hS hA [2, 3] rfl
  refine va_calli (va_runV (As := [.int 4]) (rest := []) ⟨hx, hb, hml, hown, hts⟩ (kX4_get_26 l dC dI g H.size h1 h2 cc0 x0 x1 x2 x3 x4 x5 ⟨by omega, by omega⟩ ⟨by omega, by omega⟩ ⟨by omega, by omega⟩ ⟨by omega, by omega⟩ ⟨by omega, by omega⟩ ⟨by omega, by omega⟩) (cwV 1 hts (ns_gp (List.forall_mem_cons.mpr ⟨wm550, (List.forall_mem_cons.mpr ⟨wm551, (List.forall_mem_cons.mpr ⟨wm552, (List.forall_mem_cons.mpr ⟨wm12, (fun _ h9 => nomatch h9)⟩)⟩)⟩)⟩) wm548) rfl rfl rfl (by decide +kernel) ⟨Nat.le_of_ble_eq_true rfl, Nat.le_of_ble_eq_true rfl⟩) ⟨fun a U gg mk q => by obtain ⟨q0, q1, qP, qK, qD, qF⟩ := q; exact ⟨q0, q1, qP, va_K.moved (u := U) (U := U.calling gg mk a) (Vm.Alike.refl U.vm) qK, qD, ns_same qF⟩, va_recv hK hP (ci := 11) (q0 := 2) rfl rfl, fun U hU hW => ⟨rfl, by rw [hU], by rw [hU]; exact hPc, va_K.moved hW.alike hKc, hDc.weaken (fun _ _ _ _ => trivial), ns_call hF hS hFc hU hW⟩⟩ rfl rfl hl.1 rfl (lv_room (Nat.le_of_ble_eq_true rfl)) dX9_needCodes_30 ⟨Nat.le_of_ble_eq_true rfl, Nat.le_of_ble_eq_true rfl⟩) hS (fun q _ h => hFc q h) hFc (fun r9 u t H1 locs ht hvm hw hB hz1 hk1 hS => ?_)
  obtain rfl := hw.symm
  obtain ⟨hP1, hK1, hD1⟩ := hB
  rw [ht] at hP1
  have hK1 := va_K.moved hvm.symm hK1
  obtain ⟨hP, hD⟩ := va_join (wr := [(h0, .inr (16, [v0, .ref h3, .ref h1, v1, v2, v3, v4, v5, v6, v7, v8, v9, v10, v11, v12, v13])), (h3, .inr (11, [v14, .int 0]))]) (w1 := [(h1, .inr (11, [.ref h2, .int 6])), (h2, .inl (cc0, 6, .inl (upd (upd (upd (upd (upd (upd (fun _ => 0) 0 x0) 1 x1) 2 x2) 3 x3) 4 x4) 5 x5)))]) hP hD [2, 3] [0, 1] rfl rfl (by decide) (by decide) hk1 hFc hP1 hD1
  have hK := (hK.sub (tys' := []) [] rfl).app hK1
  generalize H1 = H at hP hS ⊢
  have hP : va_P (dC, dI) vwCl [(h0, .inr (16, [v0, .ref h3, .ref h1, v1, v2, v3, v4, v5, v6, v7, v8, v9, v10, v11, v12, v13])), (h3, .inr (11, [v14, .int 0])), (h1, .inr (11, [.ref h2, .int 6])), (h2, .inl (cc0, 6, .inl (upd (upd (upd (upd (upd (upd (fun _ => 0) 0 x0) 1 x1) 2 x2) 3 x3) 4 x4) 5 x5)))] H := hP
  have hD : va_D A [(h0, .inr (16, [v0, .ref h3, .ref h1, v1, v2, v3, v4, v5, v6, v7, v8, v9, v10, v11, v12, v13])), (h3, .inr (11, [v14, .int 0])), (h1, .inr (11, [.ref h2, .int 6])), (h2, .inl (cc0, 6, .inl (upd (upd (upd (upd (upd (upd (fun _ => 0) 0 x0) 1 x1) 2 x2) 3 x3) 4 x4) 5 x5)))] := hD
  have hK : va_K (dC, dI) vwCl [(cc0, .int)] s := hK
  refine W.widen (k := 0) (n := 0) (Nat.le_of_ble_eq_true rfl) (Nat.le_of_ble_eq_true rfl) ?_
  refine lv_bipush (v := 21) hx hb dX9_needCodes_33 (by decide) ?_
  refine lv_icmp_le (tgt := 49) hx hb dX9_needCodes_35 (by decide) (fun c15 => ?_) (fun c15 => absurd (show x4 ≤ (21 : Int32) from Int32.le_iff_toInt_le.mpr (show x4.toInt ≤ (21 : Int) by omega)) c15)
  refine lv_iinc (v := 5) (lv' := [(1, .int 5), (0, .ref h0)]) hx hb dX9_needCodes_49 hl (k := 0) rfl (by decide) (by decide) rfl (fun ls hl => ?_)
  refine lv_goto (tgt := 2) hx hb dX9_needCodes_52 (by decide) ?_
  refine lv_iload_n hx hb dX9_needCodes_2 rfl (lv_at hl 0 rfl) ?_
  refine lv_aload_n hx hb dX9_needCodes_3 rfl (lv_at hl 1 rfl) ?_
  refine va_get (D := (dC, dI)) (ci := 16) (v := .ref h1) (C := RX9) (T := TX9) (N := 16) hx hb hta naX9 hown hK hP 0 rfl rfl 2 (by decide) (hta _ wm33) (fun _ h9 => h9) rfl dX9_needCodes_4 ?_
  have hPc := hP.sub (ws' := [(h1, .inr (11, [.ref h2, .int 6]))]) [2] rfl
  have hDc := hD.sub (ws' := [(h1, .inr (11, [.ref h2, .int 6]))]) [2] (by decide) rfl
  have hKc := hK.sub (tys' := []) [] rfl
  have hFc := va_free (wc := [(h1, .inr (11, [.ref h2, .int 6]))]) hD hS hA [2] rfl
  refine va_calli (va_runV (As := []) (rest := [.int 5]) ⟨hx, hb, hml, hown, hts⟩ (kX4_size_7 l dC dI g H.size h1 (.ref h2) ) (cwV 0 hts (ns_gp (List.forall_mem_cons.mpr ⟨wm549, (List.forall_mem_cons.mpr ⟨wm249, (List.forall_mem_cons.mpr ⟨wm250, (List.forall_mem_cons.mpr ⟨wm12, (fun _ h9 => nomatch h9)⟩)⟩)⟩)⟩) wm247) rfl rfl rfl (by decide +kernel) ⟨Nat.le_of_ble_eq_true rfl, Nat.le_of_ble_eq_true rfl⟩) ⟨fun a U gg mk q => by obtain ⟨q0, q1, qP, qK, qD, qF⟩ := q; exact ⟨q0, q1, qP, va_K.moved (u := U) (U := U.calling gg mk a) (Vm.Alike.refl U.vm) qK, qD, ns_same qF⟩, va_recv hK hP (ci := 11) (q0 := 2) rfl rfl, fun U hU hW => ⟨rfl, by rw [hU], by rw [hU]; exact hPc, va_K.moved hW.alike hKc, hDc.weaken (fun _ _ _ _ => trivial), ns_call hF hS hFc hU hW⟩⟩ rfl rfl hl.1 rfl (lv_room (Nat.le_of_ble_eq_true rfl)) dX9_needCodes_7 ⟨Nat.le_of_ble_eq_true rfl, Nat.le_of_ble_eq_true rfl⟩) hS (fun q _ h => hFc q h) hFc (fun r9 u t H1 locs ht hvm hw hB hz1 hk1 hS => ?_)
  obtain rfl := hw.symm
  obtain ⟨hP1, hK1, hD1⟩ := hB
  rw [ht] at hP1
  have hK1 := va_K.moved hvm.symm hK1
  obtain ⟨hP, hD⟩ := va_join (wr := [(h0, .inr (16, [v0, .ref h3, .ref h1, v1, v2, v3, v4, v5, v6, v7, v8, v9, v10, v11, v12, v13])), (h3, .inr (11, [v14, .int 0])), (h2, .inl (cc0, 6, .inl (upd (upd (upd (upd (upd (upd (fun _ => 0) 0 x0) 1 x1) 2 x2) 3 x3) 4 x4) 5 x5)))]) (w1 := [(h1, .inr (11, [.ref h2, .int 6]))]) hP hD [2] [0, 1, 3] rfl rfl (by decide) (by decide) hk1 hFc hP1 hD1
  have hK := (hK.sub (tys' := [(cc0, .int)]) [0] rfl).app hK1
  generalize H1 = H at hP hS ⊢
  have hP : va_P (dC, dI) vwCl [(h0, .inr (16, [v0, .ref h3, .ref h1, v1, v2, v3, v4, v5, v6, v7, v8, v9, v10, v11, v12, v13])), (h3, .inr (11, [v14, .int 0])), (h2, .inl (cc0, 6, .inl (upd (upd (upd (upd (upd (upd (fun _ => 0) 0 x0) 1 x1) 2 x2) 3 x3) 4 x4) 5 x5))), (h1, .inr (11, [.ref h2, .int 6]))] H := hP
  have hD : va_D A [(h0, .inr (16, [v0, .ref h3, .ref h1, v1, v2, v3, v4, v5, v6, v7, v8, v9, v10, v11, v12, v13])), (h3, .inr (11, [v14, .int 0])), (h2, .inl (cc0, 6, .inl (upd (upd (upd (upd (upd (upd (fun _ => 0) 0 x0) 1 x1) 2 x2) 3 x3) 4 x4) 5 x5))), (h1, .inr (11, [.ref h2, .int 6]))] := hD
  have hK : va_K (dC, dI) vwCl [(cc0, .int)] s := hK
  refine W.widen (k := 0) (n := 0) (Nat.le_of_ble_eq_true rfl) (Nat.le_of_ble_eq_true rfl) ?_
  refine lv_icmp_ge (tgt := 55) hx hb dX9_needCodes_10 (by decide) (fun c16 => absurd c16 (by decide)) (fun c16 => ?_)
  refine lv_aload_n hx hb dX9_needCodes_13 rfl (lv_at hl 1 rfl) ?_
  refine va_get (D := (dC, dI)) (ci := 16) (v := .ref h1) (C := RX9) (T := TX9) (N := 16) hx hb hta naX9 hown hK hP 0 rfl rfl 2 (by decide) (hta _ wm33) (fun _ h9 => h9) rfl dX9_needCodes_14 ?_
  refine lv_iload_n hx hb dX9_needCodes_17 rfl (lv_at hl 0 rfl) ?_
  have hPc := hP.sub (ws' := [(h1, .inr (11, [.ref h2, .int 6])), (h2, .inl (cc0, 6, .inl (upd (upd (upd (upd (upd (upd (fun _ => 0) 0 x0) 1 x1) 2 x2) 3 x3) 4 x4) 5 x5)))]) [3, 2] rfl
  have hDc := hD.sub (ws' := [(h1, .inr (11, [.ref h2, .int 6])), (h2, .inl (cc0, 6, .inl (upd (upd (upd (upd (upd (upd (fun _ => 0) 0 x0) 1 x1) 2 x2) 3 x3) 4 x4) 5 x5)))]) [3, 2] (by decide) rfl
  have hKc := hK.sub (tys' := [(cc0, .int)]) [0] rfl
  have hFc := va_free (wc := [(h1, .inr (11, [.ref h2, .int 6])), (h2, .inl (cc0, 6, .inl (upd (upd (upd (upd (upd (upd (fun _ => 0) 0 x0) 1 x1) 2 x2) 3 x3) 4 x4) 5 x5)))]) hD hS hA [3, 2] rfl
  refine va_calli (va_runV (As := [.int 5]) (rest := []) ⟨hx, hb, hml, hown, hts⟩ (kX4_get_27 l dC dI g H.size h1 h2 cc0 x0 x1 x2 x3 x4 x5 ⟨by omega, by omega⟩ ⟨by omega, by omega⟩ ⟨by omega, by omega⟩ ⟨by omega, by omega⟩ ⟨by omega, by omega⟩ ⟨by omega, by omega⟩) (cwV 1 hts (ns_gp (List.forall_mem_cons.mpr ⟨wm550, (List.forall_mem_cons.mpr ⟨wm551, (List.forall_mem_cons.mpr ⟨wm552, (List.forall_mem_cons.mpr ⟨wm12, (fun _ h9 => nomatch h9)⟩)⟩)⟩)⟩) wm548) rfl rfl rfl (by decide +kernel) ⟨Nat.le_of_ble_eq_true rfl, Nat.le_of_ble_eq_true rfl⟩) ⟨fun a U gg mk q => by obtain ⟨q0, q1, qP, qK, qD, qF⟩ := q; exact ⟨q0, q1, qP, va_K.moved (u := U) (U := U.calling gg mk a) (Vm.Alike.refl U.vm) qK, qD, ns_same qF⟩, va_recv hK hP (ci := 11) (q0 := 3) rfl rfl, fun U hU hW => ⟨rfl, by rw [hU], by rw [hU]; exact hPc, va_K.moved hW.alike hKc, hDc.weaken (fun _ _ _ _ => trivial), ns_call hF hS hFc hU hW⟩⟩ rfl rfl hl.1 rfl (lv_room (Nat.le_of_ble_eq_true rfl)) dX9_needCodes_18 ⟨Nat.le_of_ble_eq_true rfl, Nat.le_of_ble_eq_true rfl⟩) hS (fun q _ h => hFc q h) hFc (fun r9 u t H1 locs ht hvm hw hB hz1 hk1 hS => ?_)
  obtain rfl := hw.symm
  obtain ⟨hP1, hK1, hD1⟩ := hB
  rw [ht] at hP1
  have hK1 := va_K.moved hvm.symm hK1
  obtain ⟨hP, hD⟩ := va_join (wr := [(h0, .inr (16, [v0, .ref h3, .ref h1, v1, v2, v3, v4, v5, v6, v7, v8, v9, v10, v11, v12, v13])), (h3, .inr (11, [v14, .int 0]))]) (w1 := [(h1, .inr (11, [.ref h2, .int 6])), (h2, .inl (cc0, 6, .inl (upd (upd (upd (upd (upd (upd (fun _ => 0) 0 x0) 1 x1) 2 x2) 3 x3) 4 x4) 5 x5)))]) hP hD [3, 2] [0, 1] rfl rfl (by decide) (by decide) hk1 hFc hP1 hD1
  have hK := (hK.sub (tys' := []) [] rfl).app hK1
  generalize H1 = H at hP hS ⊢
  have hP : va_P (dC, dI) vwCl [(h0, .inr (16, [v0, .ref h3, .ref h1, v1, v2, v3, v4, v5, v6, v7, v8, v9, v10, v11, v12, v13])), (h3, .inr (11, [v14, .int 0])), (h1, .inr (11, [.ref h2, .int 6])), (h2, .inl (cc0, 6, .inl (upd (upd (upd (upd (upd (upd (fun _ => 0) 0 x0) 1 x1) 2 x2) 3 x3) 4 x4) 5 x5)))] H := hP
  have hD : va_D A [(h0, .inr (16, [v0, .ref h3, .ref h1, v1, v2, v3, v4, v5, v6, v7, v8, v9, v10, v11, v12, v13])), (h3, .inr (11, [v14, .int 0])), (h1, .inr (11, [.ref h2, .int 6])), (h2, .inl (cc0, 6, .inl (upd (upd (upd (upd (upd (upd (fun _ => 0) 0 x0) 1 x1) 2 x2) 3 x3) 4 x4) 5 x5)))] := hD
  have hK : va_K (dC, dI) vwCl [(cc0, .int)] s := hK
  refine W.widen (k := 0) (n := 0) (Nat.le_of_ble_eq_true rfl) (Nat.le_of_ble_eq_true rfl) ?_
  refine lv_iconst (v := (-1)) hx hb dX9_needCodes_21 (by decide) ?_
  refine lv_icmp_lt (tgt := 38) hx hb dX9_needCodes_22 (by decide) (fun c17 => absurd c17 (fun z => absurd (show x5.toInt < (-1 : Int) from Int32.lt_iff_toInt_lt.mp z) (by omega))) (fun c17 => ?_)
  refine lv_aload_n hx hb dX9_needCodes_25 rfl (lv_at hl 1 rfl) ?_
  refine va_get (D := (dC, dI)) (ci := 16) (v := .ref h1) (C := RX9) (T := TX9) (N := 16) hx hb hta naX9 hown hK hP 0 rfl rfl 2 (by decide) (hta _ wm33) (fun _ h9 => h9) rfl dX9_needCodes_26 ?_
  refine lv_iload_n hx hb dX9_needCodes_29 rfl (lv_at hl 0 rfl) ?_
  have hPc := hP.sub (ws' := [(h1, .inr (11, [.ref h2, .int 6])), (h2, .inl (cc0, 6, .inl (upd (upd (upd (upd (upd (upd (fun _ => 0) 0 x0) 1 x1) 2 x2) 3 x3) 4 x4) 5 x5)))]) [2, 3] rfl
  have hDc := hD.sub (ws' := [(h1, .inr (11, [.ref h2, .int 6])), (h2, .inl (cc0, 6, .inl (upd (upd (upd (upd (upd (upd (fun _ => 0) 0 x0) 1 x1) 2 x2) 3 x3) 4 x4) 5 x5)))]) [2, 3] (by decide) rfl
  have hKc := hK.sub (tys' := [(cc0, .int)]) [0] rfl
  have hFc := va_free (wc := [(h1, .inr (11, [.ref h2, .int 6])), (h2, .inl (cc0, 6, .inl (upd (upd (upd (upd (upd (upd (fun _ => 0) 0 x0) 1 x1) 2 x2) 3 x3) 4 x4) 5 x5)))]) hD hS hA [2, 3] rfl
  refine va_calli (va_runV (As := [.int 5]) (rest := []) ⟨hx, hb, hml, hown, hts⟩ (kX4_get_27 l dC dI g H.size h1 h2 cc0 x0 x1 x2 x3 x4 x5 ⟨by omega, by omega⟩ ⟨by omega, by omega⟩ ⟨by omega, by omega⟩ ⟨by omega, by omega⟩ ⟨by omega, by omega⟩ ⟨by omega, by omega⟩) (cwV 1 hts (ns_gp (List.forall_mem_cons.mpr ⟨wm550, (List.forall_mem_cons.mpr ⟨wm551, (List.forall_mem_cons.mpr ⟨wm552, (List.forall_mem_cons.mpr ⟨wm12, (fun _ h9 => nomatch h9)⟩)⟩)⟩)⟩) wm548) rfl rfl rfl (by decide +kernel) ⟨Nat.le_of_ble_eq_true rfl, Nat.le_of_ble_eq_true rfl⟩) ⟨fun a U gg mk q => by obtain ⟨q0, q1, qP, qK, qD, qF⟩ := q; exact ⟨q0, q1, qP, va_K.moved (u := U) (U := U.calling gg mk a) (Vm.Alike.refl U.vm) qK, qD, ns_same qF⟩, va_recv hK hP (ci := 11) (q0 := 2) rfl rfl, fun U hU hW => ⟨rfl, by rw [hU], by rw [hU]; exact hPc, va_K.moved hW.alike hKc, hDc.weaken (fun _ _ _ _ => trivial), ns_call hF hS hFc hU hW⟩⟩ rfl rfl hl.1 rfl (lv_room (Nat.le_of_ble_eq_true rfl)) dX9_needCodes_30 ⟨Nat.le_of_ble_eq_true rfl, Nat.le_of_ble_eq_true rfl⟩) hS (fun q _ h => hFc q h) hFc (fun r9 u t H1 locs ht hvm hw hB hz1 hk1 hS => ?_)
  obtain rfl := hw.symm
  obtain ⟨hP1, hK1, hD1⟩ := hB
  rw [ht] at hP1
  have hK1 := va_K.moved hvm.symm hK1
  obtain ⟨hP, hD⟩ := va_join (wr := [(h0, .inr (16, [v0, .ref h3, .ref h1, v1, v2, v3, v4, v5, v6, v7, v8, v9, v10, v11, v12, v13])), (h3, .inr (11, [v14, .int 0]))]) (w1 := [(h1, .inr (11, [.ref h2, .int 6])), (h2, .inl (cc0, 6, .inl (upd (upd (upd (upd (upd (upd (fun _ => 0) 0 x0) 1 x1) 2 x2) 3 x3) 4 x4) 5 x5)))]) hP hD [2, 3] [0, 1] rfl rfl (by decide) (by decide) hk1 hFc hP1 hD1
  have hK := (hK.sub (tys' := []) [] rfl).app hK1
  generalize H1 = H at hP hS ⊢
  have hP : va_P (dC, dI) vwCl [(h0, .inr (16, [v0, .ref h3, .ref h1, v1, v2, v3, v4, v5, v6, v7, v8, v9, v10, v11, v12, v13])), (h3, .inr (11, [v14, .int 0])), (h1, .inr (11, [.ref h2, .int 6])), (h2, .inl (cc0, 6, .inl (upd (upd (upd (upd (upd (upd (fun _ => 0) 0 x0) 1 x1) 2 x2) 3 x3) 4 x4) 5 x5)))] H := hP
  have hD : va_D A [(h0, .inr (16, [v0, .ref h3, .ref h1, v1, v2, v3, v4, v5, v6, v7, v8, v9, v10, v11, v12, v13])), (h3, .inr (11, [v14, .int 0])), (h1, .inr (11, [.ref h2, .int 6])), (h2, .inl (cc0, 6, .inl (upd (upd (upd (upd (upd (upd (fun _ => 0) 0 x0) 1 x1) 2 x2) 3 x3) 4 x4) 5 x5)))] := hD
  have hK : va_K (dC, dI) vwCl [(cc0, .int)] s := hK
  refine W.widen (k := 0) (n := 0) (Nat.le_of_ble_eq_true rfl) (Nat.le_of_ble_eq_true rfl) ?_
  refine lv_bipush (v := 21) hx hb dX9_needCodes_33 (by decide) ?_
  refine lv_icmp_le (tgt := 49) hx hb dX9_needCodes_35 (by decide) (fun c18 => ?_) (fun c18 => absurd (show x5 ≤ (21 : Int32) from Int32.le_iff_toInt_le.mpr (show x5.toInt ≤ (21 : Int) by omega)) c18)
  refine lv_iinc (v := 6) (lv' := [(1, .int 6), (0, .ref h0)]) hx hb dX9_needCodes_49 hl (k := 0) rfl (by decide) (by decide) rfl (fun ls hl => ?_)
  refine lv_goto (tgt := 2) hx hb dX9_needCodes_52 (by decide) ?_
  refine lv_iload_n hx hb dX9_needCodes_2 rfl (lv_at hl 0 rfl) ?_
  refine lv_aload_n hx hb dX9_needCodes_3 rfl (lv_at hl 1 rfl) ?_
  refine va_get (D := (dC, dI)) (ci := 16) (v := .ref h1) (C := RX9) (T := TX9) (N := 16) hx hb hta naX9 hown hK hP 0 rfl rfl 2 (by decide) (hta _ wm33) (fun _ h9 => h9) rfl dX9_needCodes_4 ?_
  have hPc := hP.sub (ws' := [(h1, .inr (11, [.ref h2, .int 6]))]) [2] rfl
  have hDc := hD.sub (ws' := [(h1, .inr (11, [.ref h2, .int 6]))]) [2] (by decide) rfl
  have hKc := hK.sub (tys' := []) [] rfl
  have hFc := va_free (wc := [(h1, .inr (11, [.ref h2, .int 6]))]) hD hS hA [2] rfl
  refine va_calli (va_runV (As := []) (rest := [.int 6]) ⟨hx, hb, hml, hown, hts⟩ (kX4_size_7 l dC dI g H.size h1 (.ref h2) ) (cwV 0 hts (ns_gp (List.forall_mem_cons.mpr ⟨wm549, (List.forall_mem_cons.mpr ⟨wm249, (List.forall_mem_cons.mpr ⟨wm250, (List.forall_mem_cons.mpr ⟨wm12, (fun _ h9 => nomatch h9)⟩)⟩)⟩)⟩) wm247) rfl rfl rfl (by decide +kernel) ⟨Nat.le_of_ble_eq_true rfl, Nat.le_of_ble_eq_true rfl⟩) ⟨fun a U gg mk q => by obtain ⟨q0, q1, qP, qK, qD, qF⟩ := q; exact ⟨q0, q1, qP, va_K.moved (u := U) (U := U.calling gg mk a) (Vm.Alike.refl U.vm) qK, qD, ns_same qF⟩, va_recv hK hP (ci := 11) (q0 := 2) rfl rfl, fun U hU hW => ⟨rfl, by rw [hU], by rw [hU]; exact hPc, va_K.moved hW.alike hKc, hDc.weaken (fun _ _ _ _ => trivial), ns_call hF hS hFc hU hW⟩⟩ rfl rfl hl.1 rfl (lv_room (Nat.le_of_ble_eq_true rfl)) dX9_needCodes_7 ⟨Nat.le_of_ble_eq_true rfl, Nat.le_of_ble_eq_true rfl⟩) hS (fun q _ h => hFc q h) hFc (fun r9 u t H1 locs ht hvm hw hB hz1 hk1 hS => ?_)
  obtain rfl := hw.symm
  obtain ⟨hP1, hK1, hD1⟩ := hB
  rw [ht] at hP1
  have hK1 := va_K.moved hvm.symm hK1
  obtain ⟨hP, hD⟩ := va_join (wr := [(h0, .inr (16, [v0, .ref h3, .ref h1, v1, v2, v3, v4, v5, v6, v7, v8, v9, v10, v11, v12, v13])), (h3, .inr (11, [v14, .int 0])), (h2, .inl (cc0, 6, .inl (upd (upd (upd (upd (upd (upd (fun _ => 0) 0 x0) 1 x1) 2 x2) 3 x3) 4 x4) 5 x5)))]) (w1 := [(h1, .inr (11, [.ref h2, .int 6]))]) hP hD [2] [0, 1, 3] rfl rfl (by decide) (by decide) hk1 hFc hP1 hD1
  have hK := (hK.sub (tys' := [(cc0, .int)]) [0] rfl).app hK1
  generalize H1 = H at hP hS ⊢
  have hP : va_P (dC, dI) vwCl [(h0, .inr (16, [v0, .ref h3, .ref h1, v1, v2, v3, v4, v5, v6, v7, v8, v9, v10, v11, v12, v13])), (h3, .inr (11, [v14, .int 0])), (h2, .inl (cc0, 6, .inl (upd (upd (upd (upd (upd (upd (fun _ => 0) 0 x0) 1 x1) 2 x2) 3 x3) 4 x4) 5 x5))), (h1, .inr (11, [.ref h2, .int 6]))] H := hP
  have hD : va_D A [(h0, .inr (16, [v0, .ref h3, .ref h1, v1, v2, v3, v4, v5, v6, v7, v8, v9, v10, v11, v12, v13])), (h3, .inr (11, [v14, .int 0])), (h2, .inl (cc0, 6, .inl (upd (upd (upd (upd (upd (upd (fun _ => 0) 0 x0) 1 x1) 2 x2) 3 x3) 4 x4) 5 x5))), (h1, .inr (11, [.ref h2, .int 6]))] := hD
  have hK : va_K (dC, dI) vwCl [(cc0, .int)] s := hK
  refine W.widen (k := 0) (n := 0) (Nat.le_of_ble_eq_true rfl) (Nat.le_of_ble_eq_true rfl) ?_
  refine lv_icmp_ge (tgt := 55) hx hb dX9_needCodes_10 (by decide) (fun c19 => ?_) (fun c19 => absurd (by decide) c19)
  refine lv_aload_n hx hb dX9_needCodes_55 rfl (lv_at hl 1 rfl) ?_
  refine va_get (D := (dC, dI)) (ci := 16) (v := .ref h3) (C := RX9) (T := TX9) (N := 16) hx hb hta naX9 hown hK hP 0 rfl rfl 1 (by decide) (hta _ wm32) (fun _ h9 => h9) rfl dX9_needCodes_56 ?_
  have hPc := hP.sub (ws' := [(h3, .inr (11, [v14, .int 0]))]) [1] rfl
  have hDc := hD.sub (ws' := [(h3, .inr (11, [v14, .int 0]))]) [1] (by decide) rfl
  have hKc := hK.sub (tys' := []) [] rfl
  have hFc := va_free (wc := [(h3, .inr (11, [v14, .int 0]))]) hD hS hA [1] rfl
  refine va_calli (va_runV (As := []) (rest := []) ⟨hx, hb, hml, hown, hts⟩ (kX4_size l dC dI g H.size h3 v14 ) (cwV 0 hts (ns_gp (List.forall_mem_cons.mpr ⟨wm549, (List.forall_mem_cons.mpr ⟨wm249, (List.forall_mem_cons.mpr ⟨wm250, (List.forall_mem_cons.mpr ⟨wm12, (fun _ h9 => nomatch h9)⟩)⟩)⟩)⟩) wm247) rfl rfl rfl (by decide +kernel) ⟨Nat.le_of_ble_eq_true rfl, Nat.le_of_ble_eq_true rfl⟩) ⟨fun a U gg mk q => by obtain ⟨q0, q1, qP, qK, qD, qF⟩ := q; exact ⟨q0, q1, qP, va_K.moved (u := U) (U := U.calling gg mk a) (Vm.Alike.refl U.vm) qK, qD, ns_same qF⟩, va_recv hK hP (ci := 11) (q0 := 1) rfl rfl, fun U hU hW => ⟨rfl, by rw [hU], by rw [hU]; exact hPc, va_K.moved hW.alike hKc, hDc.weaken (fun _ _ _ _ => trivial), ns_call hF hS hFc hU hW⟩⟩ rfl rfl hl.1 rfl (lv_room (Nat.le_of_ble_eq_true rfl)) dX9_needCodes_59 ⟨Nat.le_of_ble_eq_true rfl, Nat.le_of_ble_eq_true rfl⟩) hS (fun q _ h => hFc q h) hFc (fun r9 u t H1 locs ht hvm hw hB hz1 hk1 hS => ?_)
  obtain rfl := hw.symm
  obtain ⟨hP1, hK1, hD1⟩ := hB
  rw [ht] at hP1
  have hK1 := va_K.moved hvm.symm hK1
  obtain ⟨hP, hD⟩ := va_join (wr := [(h0, .inr (16, [v0, .ref h3, .ref h1, v1, v2, v3, v4, v5, v6, v7, v8, v9, v10, v11, v12, v13])), (h2, .inl (cc0, 6, .inl (upd (upd (upd (upd (upd (upd (fun _ => 0) 0 x0) 1 x1) 2 x2) 3 x3) 4 x4) 5 x5))), (h1, .inr (11, [.ref h2, .int 6]))]) (w1 := [(h3, .inr (11, [v14, .int 0]))]) hP hD [1] [0, 2, 3] rfl rfl (by decide) (by decide) hk1 hFc hP1 hD1
  have hK := (hK.sub (tys' := [(cc0, .int)]) [0] rfl).app hK1
  generalize H1 = H at hP hS ⊢
  have hP : va_P (dC, dI) vwCl [(h0, .inr (16, [v0, .ref h3, .ref h1, v1, v2, v3, v4, v5, v6, v7, v8, v9, v10, v11, v12, v13])), (h2, .inl (cc0, 6, .inl (upd (upd (upd (upd (upd (upd (fun _ => 0) 0 x0) 1 x1) 2 x2) 3 x3) 4 x4) 5 x5))), (h1, .inr (11, [.ref h2, .int 6])), (h3, .inr (11, [v14, .int 0]))] H := hP
  have hD : va_D A [(h0, .inr (16, [v0, .ref h3, .ref h1, v1, v2, v3, v4, v5, v6, v7, v8, v9, v10, v11, v12, v13])), (h2, .inl (cc0, 6, .inl (upd (upd (upd (upd (upd (upd (fun _ => 0) 0 x0) 1 x1) 2 x2) 3 x3) 4 x4) 5 x5))), (h1, .inr (11, [.ref h2, .int 6])), (h3, .inr (11, [v14, .int 0]))] := hD
  have hK : va_K (dC, dI) vwCl [(cc0, .int)] s := hK
  refine W.widen (k := 0) (n := 0) (Nat.le_of_ble_eq_true rfl) (Nat.le_of_ble_eq_true rfl) ?_
  refine lv_istore_n (lv' := [(1, .int 0), (0, .ref h0)]) hx hb dX9_needCodes_62 rfl hl (by decide) rfl (fun ls hl => ?_)
  refine lv_iconst (v := 0) hx hb dX9_needCodes_63 (by decide) ?_
  refine lv_istore_n (lv' := [(2, .int 0), (1, .int 0), (0, .ref h0)]) hx hb dX9_needCodes_64 rfl hl (by decide) rfl (fun ls hl => ?_)
  refine lv_iload_n hx hb dX9_needCodes_65 rfl (lv_at hl 0 rfl) ?_
  refine lv_aload_n hx hb dX9_needCodes_66 rfl (lv_at hl 2 rfl) ?_
  refine va_get (D := (dC, dI)) (ci := 16) (v := .ref h1) (C := RX9) (T := TX9) (N := 16) hx hb hta naX9 hown hK hP 0 rfl rfl 2 (by decide) (hta _ wm33) (fun _ h9 => h9) rfl dX9_needCodes_67 ?_
  have hPc := hP.sub (ws' := [(h1, .inr (11, [.ref h2, .int 6]))]) [2] rfl
  have hDc := hD.sub (ws' := [(h1, .inr (11, [.ref h2, .int 6]))]) [2] (by decide) rfl
  have hKc := hK.sub (tys' := []) [] rfl
  have hFc := va_free (wc := [(h1, .inr (11, [.ref h2, .int 6]))]) hD hS hA [2] rfl
  refine va_calli (va_runV (As := []) (rest := [.int 0]) ⟨hx, hb, hml, hown, hts⟩ (kX4_size_7 l dC dI g H.size h1 (.ref h2) ) (cwV 0 hts (ns_gp (List.forall_mem_cons.mpr ⟨wm549, (List.forall_mem_cons.mpr ⟨wm249, (List.forall_mem_cons.mpr ⟨wm250, (List.forall_mem_cons.mpr ⟨wm12, (fun _ h9 => nomatch h9)⟩)⟩)⟩)⟩) wm247) rfl rfl rfl (by decide +kernel) ⟨Nat.le_of_ble_eq_true rfl, Nat.le_of_ble_eq_true rfl⟩) ⟨fun a U gg mk q => by obtain ⟨q0, q1, qP, qK, qD, qF⟩ := q; exact ⟨q0, q1, qP, va_K.moved (u := U) (U := U.calling gg mk a) (Vm.Alike.refl U.vm) qK, qD, ns_same qF⟩, va_recv hK hP (ci := 11) (q0 := 2) rfl rfl, fun U hU hW => ⟨rfl, by rw [hU], by rw [hU]; exact hPc, va_K.moved hW.alike hKc, hDc.weaken (fun _ _ _ _ => trivial), ns_call hF hS hFc hU hW⟩⟩ rfl rfl hl.1 rfl (lv_room (Nat.le_of_ble_eq_true rfl)) dX9_needCodes_70 ⟨Nat.le_of_ble_eq_true rfl, Nat.le_of_ble_eq_true rfl⟩) hS (fun q _ h => hFc q h) hFc (fun r9 u t H1 locs ht hvm hw hB hz1 hk1 hS => ?_)
  obtain rfl := hw.symm
  obtain ⟨hP1, hK1, hD1⟩ := hB
  rw [ht] at hP1
  have hK1 := va_K.moved hvm.symm hK1
  obtain ⟨hP, hD⟩ := va_join (wr := [(h0, .inr (16, [v0, .ref h3, .ref h1, v1, v2, v3, v4, v5, v6, v7, v8, v9, v10, v11, v12, v13])), (h2, .inl (cc0, 6, .inl (upd (upd (upd (upd (upd (upd (fun _ => 0) 0 x0) 1 x1) 2 x2) 3 x3) 4 x4) 5 x5))), (h3, .inr (11, [v14, .int 0]))]) (w1 := [(h1, .inr (11, [.ref h2, .int 6]))]) hP hD [2] [0, 1, 3] rfl rfl (by decide) (by decide) hk1 hFc hP1 hD1
  have hK := (hK.sub (tys' := [(cc0, .int)]) [0] rfl).app hK1
  generalize H1 = H at hP hS ⊢
  have hP : va_P (dC, dI) vwCl [(h0, .inr (16, [v0, .ref h3, .ref h1, v1, v2, v3, v4, v5, v6, v7, v8, v9, v10, v11, v12, v13])), (h2, .inl (cc0, 6, .inl (upd (upd (upd (upd (upd (upd (fun _ => 0) 0 x0) 1 x1) 2 x2) 3 x3) 4 x4) 5 x5))), (h3, .inr (11, [v14, .int 0])), (h1, .inr (11, [.ref h2, .int 6]))] H := hP
  have hD : va_D A [(h0, .inr (16, [v0, .ref h3, .ref h1, v1, v2, v3, v4, v5, v6, v7, v8, v9, v10, v11, v12, v13])), (h2, .inl (cc0, 6, .inl (upd (upd (upd (upd (upd (upd (fun _ => 0) 0 x0) 1 x1) 2 x2) 3 x3) 4 x4) 5 x5))), (h3, .inr (11, [v14, .int 0])), (h1, .inr (11, [.ref h2, .int 6]))] := hD
  have hK : va_K (dC, dI) vwCl [(cc0, .int)] s := hK
  refine W.widen (k := 0) (n := 0) (Nat.le_of_ble_eq_true rfl) (Nat.le_of_ble_eq_true rfl) ?_
  refine lv_icmp_ge (tgt := 112) hx hb dX9_needCodes_73 (by decide) (fun c20 => absurd c20 (by decide)) (fun c20 => ?_)
  refine lv_iload_n hx hb dX9_needCodes_76 rfl (lv_at hl 1 rfl) ?_
  refine lv_aload_n hx hb dX9_needCodes_77 rfl (lv_at hl 2 rfl) ?_
  refine va_get (D := (dC, dI)) (ci := 16) (v := .ref h1) (C := RX9) (T := TX9) (N := 16) hx hb hta naX9 hown hK hP 0 rfl rfl 2 (by decide) (hta _ wm33) (fun _ h9 => h9) rfl dX9_needCodes_78 ?_
  refine lv_iload_n hx hb dX9_needCodes_81 rfl (lv_at hl 0 rfl) ?_
  have hPc := hP.sub (ws' := [(h1, .inr (11, [.ref h2, .int 6])), (h2, .inl (cc0, 6, .inl (upd (upd (upd (upd (upd (upd (fun _ => 0) 0 x0) 1 x1) 2 x2) 3 x3) 4 x4) 5 x5)))]) [3, 1] rfl
  have hDc := hD.sub (ws' := [(h1, .inr (11, [.ref h2, .int 6])), (h2, .inl (cc0, 6, .inl (upd (upd (upd (upd (upd (upd (fun _ => 0) 0 x0) 1 x1) 2 x2) 3 x3) 4 x4) 5 x5)))]) [3, 1] (by decide) rfl
  have hKc := hK.sub (tys' := [(cc0, .int)]) [0] rfl
  have hFc := va_free (wc := [(h1, .inr (11, [.ref h2, .int 6])), (h2, .inl (cc0, 6, .inl (upd (upd (upd (upd (upd (upd (fun _ => 0) 0 x0) 1 x1) 2 x2) 3 x3) 4 x4) 5 x5)))]) hD hS hA [3, 1] rfl
  refine va_calli (va_runV (As := [.int 0]) (rest := [.int 0]) ⟨hx, hb, hml, hown, hts⟩ (kX4_get_22 l dC dI g H.size h1 h2 cc0 x0 x1 x2 x3 x4 x5 ⟨by omega, by omega⟩ ⟨by omega, by omega⟩ ⟨by omega, by omega⟩ ⟨by omega, by omega⟩ ⟨by omega, by omega⟩ ⟨by omega, by omega⟩) (cwV 1 hts (ns_gp (List.forall_mem_cons.mpr ⟨wm550, (List.forall_mem_cons.mpr ⟨wm551, (List.forall_mem_cons.mpr ⟨wm552, (List.forall_mem_cons.mpr ⟨wm12, (fun _ h9 => nomatch h9)⟩)⟩)⟩)⟩) wm548) rfl rfl rfl (by decide +kernel) ⟨Nat.le_of_ble_eq_true rfl, Nat.le_of_ble_eq_true rfl⟩) ⟨fun a U gg mk q => by obtain ⟨q0, q1, qP, qK, qD, qF⟩ := q; exact ⟨q0, q1, qP, va_K.moved (u := U) (U := U.calling gg mk a) (Vm.Alike.refl U.vm) qK, qD, ns_same qF⟩, va_recv hK hP (ci := 11) (q0 := 3) rfl rfl, fun U hU hW => ⟨rfl, by rw [hU], by rw [hU]; exact hPc, va_K.moved hW.alike hKc, hDc.weaken (fun _ _ _ _ => trivial), ns_call hF hS hFc hU hW⟩⟩ rfl rfl hl.1 rfl (lv_room (Nat.le_of_ble_eq_true rfl)) dX9_needCodes_82 ⟨Nat.le_of_ble_eq_true rfl, Nat.le_of_ble_eq_true rfl⟩) hS (fun q _ h => hFc q h) hFc (fun r9 u t H1 locs ht hvm hw hB hz1 hk1 hS => ?_)
  obtain rfl := hw.symm
  obtain ⟨hP1, hK1, hD1⟩ := hB
  rw [ht] at hP1
  have hK1 := va_K.moved hvm.symm hK1
  obtain ⟨hP, hD⟩ := va_join (wr := [(h0, .inr (16, [v0, .ref h3, .ref h1, v1, v2, v3, v4, v5, v6, v7, v8, v9, v10, v11, v12, v13])), (h3, .inr (11, [v14, .int 0]))]) (w1 := [(h1, .inr (11, [.ref h2, .int 6])), (h2, .inl (cc0, 6, .inl (upd (upd (upd (upd (upd (upd (fun _ => 0) 0 x0) 1 x1) 2 x2) 3 x3) 4 x4) 5 x5)))]) hP hD [3, 1] [0, 2] rfl rfl (by decide) (by decide) hk1 hFc hP1 hD1
  have hK := (hK.sub (tys' := []) [] rfl).app hK1
  generalize H1 = H at hP hS ⊢
  have hP : va_P (dC, dI) vwCl [(h0, .inr (16, [v0, .ref h3, .ref h1, v1, v2, v3, v4, v5, v6, v7, v8, v9, v10, v11, v12, v13])), (h3, .inr (11, [v14, .int 0])), (h1, .inr (11, [.ref h2, .int 6])), (h2, .inl (cc0, 6, .inl (upd (upd (upd (upd (upd (upd (fun _ => 0) 0 x0) 1 x1) 2 x2) 3 x3) 4 x4) 5 x5)))] H := hP
  have hD : va_D A [(h0, .inr (16, [v0, .ref h3, .ref h1, v1, v2, v3, v4, v5, v6, v7, v8, v9, v10, v11, v12, v13])), (h3, .inr (11, [v14, .int 0])), (h1, .inr (11, [.ref h2, .int 6])), (h2, .inl (cc0, 6, .inl (upd (upd (upd (upd (upd (upd (fun _ => 0) 0 x0) 1 x1) 2 x2) 3 x3) 4 x4) 5 x5)))] := hD
  have hK : va_K (dC, dI) vwCl [(cc0, .int)] s := hK
  refine W.widen (k := 0) (n := 0) (Nat.le_of_ble_eq_true rfl) (Nat.le_of_ble_eq_true rfl) ?_
  have hPc := hP.sub (ws' := []) [] rfl
  have hDc := hD.sub (ws' := []) [] (by decide) rfl
  have hKc := hK.sub (tys' := []) [] rfl
  have hFc := va_free (wc := []) hD hS hA [] rfl
  refine va_calli (va_runS (As := [.int 0, .int x0]) (rest := []) ⟨hx, hb, hml, hown, hts⟩ (kX9_lengthAfter l dC dI g H.size x0 ⟨by omega, by omega⟩) (va_cwS 2 hts (ns_gp (List.forall_mem_cons.mpr ⟨wm566, (List.forall_mem_cons.mpr ⟨wm567, (List.forall_mem_cons.mpr ⟨wm2, (fun _ h9 => nomatch h9)⟩)⟩)⟩) wm565) rfl rfl rfl (by decide +kernel) ⟨Nat.le_of_ble_eq_true rfl, Nat.le_of_ble_eq_true rfl⟩) ⟨fun a U gg mk q => by obtain ⟨q0, q1, qP, qK, qD, qF⟩ := q; exact ⟨q0, q1, qP, va_K.moved (u := U) (U := U.calling gg mk a) (Vm.Alike.refl U.vm) qK, qD, ns_same qF⟩, fun U hU hW => ⟨rfl, by rw [hU], by rw [hU]; exact hPc, va_K.moved hW.alike hKc, hDc.weaken (fun _ _ _ _ => trivial), ns_call hF hS hFc hU hW⟩⟩ rfl rfl hl.1 rfl (lv_room (Nat.le_of_ble_eq_true rfl)) dX9_needCodes_85 ⟨Nat.le_of_ble_eq_true rfl, Nat.le_of_ble_eq_true rfl⟩) hS (fun q _ h => hFc q h) hFc (fun r9 u t H1 locs ht hvm hw hB hz1 hk1 hS => ?_)
  obtain rfl := hw.symm
  obtain ⟨hP1, hK1, hD1⟩ := hB
  rw [ht] at hP1
  have hK1 := va_K.moved hvm.symm hK1
  obtain ⟨hP, hD⟩ := va_join (wr := [(h0, .inr (16, [v0, .ref h3, .ref h1, v1, v2, v3, v4, v5, v6, v7, v8, v9, v10, v11, v12, v13])), (h3, .inr (11, [v14, .int 0])), (h1, .inr (11, [.ref h2, .int 6])), (h2, .inl (cc0, 6, .inl (upd (upd (upd (upd (upd (upd (fun _ => 0) 0 x0) 1 x1) 2 x2) 3 x3) 4 x4) 5 x5)))]) (w1 := []) hP hD [] [0, 1, 2, 3] rfl rfl (by decide) (by decide) hk1 hFc hP1 hD1
  have hK := (hK.sub (tys' := [(cc0, .int)]) [0] rfl).app hK1
  generalize H1 = H at hP hS ⊢
  have hP : va_P (dC, dI) vwCl [(h0, .inr (16, [v0, .ref h3, .ref h1, v1, v2, v3, v4, v5, v6, v7, v8, v9, v10, v11, v12, v13])), (h3, .inr (11, [v14, .int 0])), (h1, .inr (11, [.ref h2, .int 6])), (h2, .inl (cc0, 6, .inl (upd (upd (upd (upd (upd (upd (fun _ => 0) 0 x0) 1 x1) 2 x2) 3 x3) 4 x4) 5 x5)))] H := hP
  have hD : va_D A [(h0, .inr (16, [v0, .ref h3, .ref h1, v1, v2, v3, v4, v5, v6, v7, v8, v9, v10, v11, v12, v13])), (h3, .inr (11, [v14, .int 0])), (h1, .inr (11, [.ref h2, .int 6])), (h2, .inl (cc0, 6, .inl (upd (upd (upd (upd (upd (upd (fun _ => 0) 0 x0) 1 x1) 2 x2) 3 x3) 4 x4) 5 x5)))] := hD
  have hK : va_K (dC, dI) vwCl [(cc0, .int)] s := hK
  refine W.widen (k := 0) (n := 0) (Nat.le_of_ble_eq_true rfl) (Nat.le_of_ble_eq_true rfl) ?_
  have r22 : (0 : Int) ≤ (ns_len 0 x0).toInt ∧ (ns_len 0 x0).toInt ≤ (1 : Int) := ns_len_rng 0 x0 0 1 ⟨(by decide), (by decide)⟩ (by decide) (by decide)
  refine lv_istore_n (lv' := [(1, .int (ns_len 0 x0)), (2, .int 0), (0, .ref h0)]) hx hb dX9_needCodes_88 rfl hl (by decide) rfl (fun ls hl => ?_)
  refine lv_iload_n hx hb dX9_needCodes_89 rfl (lv_at hl 0 rfl) ?_
  refine lv_bipush (v := 60) hx hb dX9_needCodes_90 (by decide) ?_
  refine lv_icmp_le (tgt := 106) hx hb dX9_needCodes_92 (by decide) (fun c23 => ?_) (fun c23 => absurd (show (ns_len 0 x0) ≤ (60 : Int32) from Int32.le_iff_toInt_le.mpr (show (ns_len 0 x0).toInt ≤ (60 : Int) by omega)) c23)
  refine lv_iinc (v := 1) (lv' := [(2, .int 1), (1, .int (ns_len 0 x0)), (0, .ref h0)]) hx hb dX9_needCodes_106 hl (k := 1) rfl (by decide) (by decide) rfl (fun ls hl => ?_)
  refine lv_goto (tgt := 65) hx hb dX9_needCodes_109 (by decide) ?_
  refine lv_iload_n hx hb dX9_needCodes_65 rfl (lv_at hl 0 rfl) ?_
  refine lv_aload_n hx hb dX9_needCodes_66 rfl (lv_at hl 2 rfl) ?_
  refine va_get (D := (dC, dI)) (ci := 16) (v := .ref h1) (C := RX9) (T := TX9) (N := 16) hx hb hta naX9 hown hK hP 0 rfl rfl 2 (by decide) (hta _ wm33) (fun _ h9 => h9) rfl dX9_needCodes_67 ?_
  have hPc := hP.sub (ws' := [(h1, .inr (11, [.ref h2, .int 6]))]) [2] rfl
  have hDc := hD.sub (ws' := [(h1, .inr (11, [.ref h2, .int 6]))]) [2] (by decide) rfl
  have hKc := hK.sub (tys' := []) [] rfl
  have hFc := va_free (wc := [(h1, .inr (11, [.ref h2, .int 6]))]) hD hS hA [2] rfl
  refine va_calli (va_runV (As := []) (rest := [.int 1]) ⟨hx, hb, hml, hown, hts⟩ (kX4_size_7 l dC dI g H.size h1 (.ref h2) ) (cwV 0 hts (ns_gp (List.forall_mem_cons.mpr ⟨wm549, (List.forall_mem_cons.mpr ⟨wm249, (List.forall_mem_cons.mpr ⟨wm250, (List.forall_mem_cons.mpr ⟨wm12, (fun _ h9 => nomatch h9)⟩)⟩)⟩)⟩) wm247) rfl rfl rfl (by decide +kernel) ⟨Nat.le_of_ble_eq_true rfl, Nat.le_of_ble_eq_true rfl⟩) ⟨fun a U gg mk q => by obtain ⟨q0, q1, qP, qK, qD, qF⟩ := q; exact ⟨q0, q1, qP, va_K.moved (u := U) (U := U.calling gg mk a) (Vm.Alike.refl U.vm) qK, qD, ns_same qF⟩, va_recv hK hP (ci := 11) (q0 := 2) rfl rfl, fun U hU hW => ⟨rfl, by rw [hU], by rw [hU]; exact hPc, va_K.moved hW.alike hKc, hDc.weaken (fun _ _ _ _ => trivial), ns_call hF hS hFc hU hW⟩⟩ rfl rfl hl.1 rfl (lv_room (Nat.le_of_ble_eq_true rfl)) dX9_needCodes_70 ⟨Nat.le_of_ble_eq_true rfl, Nat.le_of_ble_eq_true rfl⟩) hS (fun q _ h => hFc q h) hFc (fun r9 u t H1 locs ht hvm hw hB hz1 hk1 hS => ?_)
  obtain rfl := hw.symm
  obtain ⟨hP1, hK1, hD1⟩ := hB
  rw [ht] at hP1
  have hK1 := va_K.moved hvm.symm hK1
  obtain ⟨hP, hD⟩ := va_join (wr := [(h0, .inr (16, [v0, .ref h3, .ref h1, v1, v2, v3, v4, v5, v6, v7, v8, v9, v10, v11, v12, v13])), (h3, .inr (11, [v14, .int 0])), (h2, .inl (cc0, 6, .inl (upd (upd (upd (upd (upd (upd (fun _ => 0) 0 x0) 1 x1) 2 x2) 3 x3) 4 x4) 5 x5)))]) (w1 := [(h1, .inr (11, [.ref h2, .int 6]))]) hP hD [2] [0, 1, 3] rfl rfl (by decide) (by decide) hk1 hFc hP1 hD1
  have hK := (hK.sub (tys' := [(cc0, .int)]) [0] rfl).app hK1
  generalize H1 = H at hP hS ⊢
  have hP : va_P (dC, dI) vwCl [(h0, .inr (16, [v0, .ref h3, .ref h1, v1, v2, v3, v4, v5, v6, v7, v8, v9, v10, v11, v12, v13])), (h3, .inr (11, [v14, .int 0])), (h2, .inl (cc0, 6, .inl (upd (upd (upd (upd (upd (upd (fun _ => 0) 0 x0) 1 x1) 2 x2) 3 x3) 4 x4) 5 x5))), (h1, .inr (11, [.ref h2, .int 6]))] H := hP
  have hD : va_D A [(h0, .inr (16, [v0, .ref h3, .ref h1, v1, v2, v3, v4, v5, v6, v7, v8, v9, v10, v11, v12, v13])), (h3, .inr (11, [v14, .int 0])), (h2, .inl (cc0, 6, .inl (upd (upd (upd (upd (upd (upd (fun _ => 0) 0 x0) 1 x1) 2 x2) 3 x3) 4 x4) 5 x5))), (h1, .inr (11, [.ref h2, .int 6]))] := hD
  have hK : va_K (dC, dI) vwCl [(cc0, .int)] s := hK
  refine W.widen (k := 0) (n := 0) (Nat.le_of_ble_eq_true rfl) (Nat.le_of_ble_eq_true rfl) ?_
  refine lv_icmp_ge (tgt := 112) hx hb dX9_needCodes_73 (by decide) (fun c24 => absurd c24 (by decide)) (fun c24 => ?_)
  refine lv_iload_n hx hb dX9_needCodes_76 rfl (lv_at hl 1 rfl) ?_
  refine lv_aload_n hx hb dX9_needCodes_77 rfl (lv_at hl 2 rfl) ?_
  refine va_get (D := (dC, dI)) (ci := 16) (v := .ref h1) (C := RX9) (T := TX9) (N := 16) hx hb hta naX9 hown hK hP 0 rfl rfl 2 (by decide) (hta _ wm33) (fun _ h9 => h9) rfl dX9_needCodes_78 ?_
  refine lv_iload_n hx hb dX9_needCodes_81 rfl (lv_at hl 0 rfl) ?_
  have hPc := hP.sub (ws' := [(h1, .inr (11, [.ref h2, .int 6])), (h2, .inl (cc0, 6, .inl (upd (upd (upd (upd (upd (upd (fun _ => 0) 0 x0) 1 x1) 2 x2) 3 x3) 4 x4) 5 x5)))]) [3, 2] rfl
  have hDc := hD.sub (ws' := [(h1, .inr (11, [.ref h2, .int 6])), (h2, .inl (cc0, 6, .inl (upd (upd (upd (upd (upd (upd (fun _ => 0) 0 x0) 1 x1) 2 x2) 3 x3) 4 x4) 5 x5)))]) [3, 2] (by decide) rfl
  have hKc := hK.sub (tys' := [(cc0, .int)]) [0] rfl
  have hFc := va_free (wc := [(h1, .inr (11, [.ref h2, .int 6])), (h2, .inl (cc0, 6, .inl (upd (upd (upd (upd (upd (upd (fun _ => 0) 0 x0) 1 x1) 2 x2) 3 x3) 4 x4) 5 x5)))]) hD hS hA [3, 2] rfl
  refine va_calli (va_runV (As := [.int 1]) (rest := [.int (ns_len 0 x0)]) ⟨hx, hb, hml, hown, hts⟩ (kX4_get_23 l dC dI g H.size h1 h2 cc0 x0 x1 x2 x3 x4 x5 ⟨by omega, by omega⟩ ⟨by omega, by omega⟩ ⟨by omega, by omega⟩ ⟨by omega, by omega⟩ ⟨by omega, by omega⟩ ⟨by omega, by omega⟩) (cwV 1 hts (ns_gp (List.forall_mem_cons.mpr ⟨wm550, (List.forall_mem_cons.mpr ⟨wm551, (List.forall_mem_cons.mpr ⟨wm552, (List.forall_mem_cons.mpr ⟨wm12, (fun _ h9 => nomatch h9)⟩)⟩)⟩)⟩) wm548) rfl rfl rfl (by decide +kernel) ⟨Nat.le_of_ble_eq_true rfl, Nat.le_of_ble_eq_true rfl⟩) ⟨fun a U gg mk q => by obtain ⟨q0, q1, qP, qK, qD, qF⟩ := q; exact ⟨q0, q1, qP, va_K.moved (u := U) (U := U.calling gg mk a) (Vm.Alike.refl U.vm) qK, qD, ns_same qF⟩, va_recv hK hP (ci := 11) (q0 := 3) rfl rfl, fun U hU hW => ⟨rfl, by rw [hU], by rw [hU]; exact hPc, va_K.moved hW.alike hKc, hDc.weaken (fun _ _ _ _ => trivial), ns_call hF hS hFc hU hW⟩⟩ rfl rfl hl.1 rfl (lv_room (Nat.le_of_ble_eq_true rfl)) dX9_needCodes_82 ⟨Nat.le_of_ble_eq_true rfl, Nat.le_of_ble_eq_true rfl⟩) hS (fun q _ h => hFc q h) hFc (fun r9 u t H1 locs ht hvm hw hB hz1 hk1 hS => ?_)
  obtain rfl := hw.symm
  obtain ⟨hP1, hK1, hD1⟩ := hB
  rw [ht] at hP1
  have hK1 := va_K.moved hvm.symm hK1
  obtain ⟨hP, hD⟩ := va_join (wr := [(h0, .inr (16, [v0, .ref h3, .ref h1, v1, v2, v3, v4, v5, v6, v7, v8, v9, v10, v11, v12, v13])), (h3, .inr (11, [v14, .int 0]))]) (w1 := [(h1, .inr (11, [.ref h2, .int 6])), (h2, .inl (cc0, 6, .inl (upd (upd (upd (upd (upd (upd (fun _ => 0) 0 x0) 1 x1) 2 x2) 3 x3) 4 x4) 5 x5)))]) hP hD [3, 2] [0, 1] rfl rfl (by decide) (by decide) hk1 hFc hP1 hD1
  have hK := (hK.sub (tys' := []) [] rfl).app hK1
  generalize H1 = H at hP hS ⊢
  have hP : va_P (dC, dI) vwCl [(h0, .inr (16, [v0, .ref h3, .ref h1, v1, v2, v3, v4, v5, v6, v7, v8, v9, v10, v11, v12, v13])), (h3, .inr (11, [v14, .int 0])), (h1, .inr (11, [.ref h2, .int 6])), (h2, .inl (cc0, 6, .inl (upd (upd (upd (upd (upd (upd (fun _ => 0) 0 x0) 1 x1) 2 x2) 3 x3) 4 x4) 5 x5)))] H := hP
  have hD : va_D A [(h0, .inr (16, [v0, .ref h3, .ref h1, v1, v2, v3, v4, v5, v6, v7, v8, v9, v10, v11, v12, v13])), (h3, .inr (11, [v14, .int 0])), (h1, .inr (11, [.ref h2, .int 6])), (h2, .inl (cc0, 6, .inl (upd (upd (upd (upd (upd (upd (fun _ => 0) 0 x0) 1 x1) 2 x2) 3 x3) 4 x4) 5 x5)))] := hD
  have hK : va_K (dC, dI) vwCl [(cc0, .int)] s := hK
  refine W.widen (k := 0) (n := 0) (Nat.le_of_ble_eq_true rfl) (Nat.le_of_ble_eq_true rfl) ?_
  have hPc := hP.sub (ws' := []) [] rfl
  have hDc := hD.sub (ws' := []) [] (by decide) rfl
  have hKc := hK.sub (tys' := []) [] rfl
  have hFc := va_free (wc := []) hD hS hA [] rfl
  refine va_calli (va_runS (As := [.int (ns_len 0 x0), .int x1]) (rest := []) ⟨hx, hb, hml, hown, hts⟩ (kX9_lengthAfter_2 l dC dI g H.size (ns_len 0 x0) x1 ⟨by omega, by omega⟩ ⟨by omega, by omega⟩) (va_cwS 2 hts (ns_gp (List.forall_mem_cons.mpr ⟨wm566, (List.forall_mem_cons.mpr ⟨wm567, (List.forall_mem_cons.mpr ⟨wm2, (fun _ h9 => nomatch h9)⟩)⟩)⟩) wm565) rfl rfl rfl (by decide +kernel) ⟨Nat.le_of_ble_eq_true rfl, Nat.le_of_ble_eq_true rfl⟩) ⟨fun a U gg mk q => by obtain ⟨q0, q1, qP, qK, qD, qF⟩ := q; exact ⟨q0, q1, qP, va_K.moved (u := U) (U := U.calling gg mk a) (Vm.Alike.refl U.vm) qK, qD, ns_same qF⟩, fun U hU hW => ⟨rfl, by rw [hU], by rw [hU]; exact hPc, va_K.moved hW.alike hKc, hDc.weaken (fun _ _ _ _ => trivial), ns_call hF hS hFc hU hW⟩⟩ rfl rfl hl.1 rfl (lv_room (Nat.le_of_ble_eq_true rfl)) dX9_needCodes_85 ⟨Nat.le_of_ble_eq_true rfl, Nat.le_of_ble_eq_true rfl⟩) hS (fun q _ h => hFc q h) hFc (fun r9 u t H1 locs ht hvm hw hB hz1 hk1 hS => ?_)
  obtain rfl := hw.symm
  obtain ⟨hP1, hK1, hD1⟩ := hB
  rw [ht] at hP1
  have hK1 := va_K.moved hvm.symm hK1
  obtain ⟨hP, hD⟩ := va_join (wr := [(h0, .inr (16, [v0, .ref h3, .ref h1, v1, v2, v3, v4, v5, v6, v7, v8, v9, v10, v11, v12, v13])), (h3, .inr (11, [v14, .int 0])), (h1, .inr (11, [.ref h2, .int 6])), (h2, .inl (cc0, 6, .inl (upd (upd (upd (upd (upd (upd (fun _ => 0) 0 x0) 1 x1) 2 x2) 3 x3) 4 x4) 5 x5)))]) (w1 := []) hP hD [] [0, 1, 2, 3] rfl rfl (by decide) (by decide) hk1 hFc hP1 hD1
  have hK := (hK.sub (tys' := [(cc0, .int)]) [0] rfl).app hK1
  generalize H1 = H at hP hS ⊢
  have hP : va_P (dC, dI) vwCl [(h0, .inr (16, [v0, .ref h3, .ref h1, v1, v2, v3, v4, v5, v6, v7, v8, v9, v10, v11, v12, v13])), (h3, .inr (11, [v14, .int 0])), (h1, .inr (11, [.ref h2, .int 6])), (h2, .inl (cc0, 6, .inl (upd (upd (upd (upd (upd (upd (fun _ => 0) 0 x0) 1 x1) 2 x2) 3 x3) 4 x4) 5 x5)))] H := hP
  have hD : va_D A [(h0, .inr (16, [v0, .ref h3, .ref h1, v1, v2, v3, v4, v5, v6, v7, v8, v9, v10, v11, v12, v13])), (h3, .inr (11, [v14, .int 0])), (h1, .inr (11, [.ref h2, .int 6])), (h2, .inl (cc0, 6, .inl (upd (upd (upd (upd (upd (upd (fun _ => 0) 0 x0) 1 x1) 2 x2) 3 x3) 4 x4) 5 x5)))] := hD
  have hK : va_K (dC, dI) vwCl [(cc0, .int)] s := hK
  refine W.widen (k := 0) (n := 0) (Nat.le_of_ble_eq_true rfl) (Nat.le_of_ble_eq_true rfl) ?_
  have r26 : (0 : Int) ≤ (ns_len (ns_len 0 x0) x1).toInt ∧ (ns_len (ns_len 0 x0) x1).toInt ≤ (2 : Int) := ns_len_rng (ns_len 0 x0) x1 1 2 ⟨(by omega), (by omega)⟩ (by decide) (by decide)
  refine lv_istore_n (lv' := [(1, .int (ns_len (ns_len 0 x0) x1)), (2, .int 1), (0, .ref h0)]) hx hb dX9_needCodes_88 rfl hl (by decide) rfl (fun ls hl => ?_)
  refine lv_iload_n hx hb dX9_needCodes_89 rfl (lv_at hl 0 rfl) ?_
  refine lv_bipush (v := 60) hx hb dX9_needCodes_90 (by decide) ?_
  refine lv_icmp_le (tgt := 106) hx hb dX9_needCodes_92 (by decide) (fun c27 => ?_) (fun c27 => absurd (show (ns_len (ns_len 0 x0) x1) ≤ (60 : Int32) from Int32.le_iff_toInt_le.mpr (show (ns_len (ns_len 0 x0) x1).toInt ≤ (60 : Int) by omega)) c27)
  refine lv_iinc (v := 2) (lv' := [(2, .int 2), (1, .int (ns_len (ns_len 0 x0) x1)), (0, .ref h0)]) hx hb dX9_needCodes_106 hl (k := 1) rfl (by decide) (by decide) rfl (fun ls hl => ?_)
  refine lv_goto (tgt := 65) hx hb dX9_needCodes_109 (by decide) ?_
  refine lv_iload_n hx hb dX9_needCodes_65 rfl (lv_at hl 0 rfl) ?_
  refine lv_aload_n hx hb dX9_needCodes_66 rfl (lv_at hl 2 rfl) ?_
  refine va_get (D := (dC, dI)) (ci := 16) (v := .ref h1) (C := RX9) (T := TX9) (N := 16) hx hb hta naX9 hown hK hP 0 rfl rfl 2 (by decide) (hta _ wm33) (fun _ h9 => h9) rfl dX9_needCodes_67 ?_
  have hPc := hP.sub (ws' := [(h1, .inr (11, [.ref h2, .int 6]))]) [2] rfl
  have hDc := hD.sub (ws' := [(h1, .inr (11, [.ref h2, .int 6]))]) [2] (by decide) rfl
  have hKc := hK.sub (tys' := []) [] rfl
  have hFc := va_free (wc := [(h1, .inr (11, [.ref h2, .int 6]))]) hD hS hA [2] rfl
  refine va_calli (va_runV (As := []) (rest := [.int 2]) ⟨hx, hb, hml, hown, hts⟩ (kX4_size_7 l dC dI g H.size h1 (.ref h2) ) (cwV 0 hts (ns_gp (List.forall_mem_cons.mpr ⟨wm549, (List.forall_mem_cons.mpr ⟨wm249, (List.forall_mem_cons.mpr ⟨wm250, (List.forall_mem_cons.mpr ⟨wm12, (fun _ h9 => nomatch h9)⟩)⟩)⟩)⟩) wm247) rfl rfl rfl (by decide +kernel) ⟨Nat.le_of_ble_eq_true rfl, Nat.le_of_ble_eq_true rfl⟩) ⟨fun a U gg mk q => by obtain ⟨q0, q1, qP, qK, qD, qF⟩ := q; exact ⟨q0, q1, qP, va_K.moved (u := U) (U := U.calling gg mk a) (Vm.Alike.refl U.vm) qK, qD, ns_same qF⟩, va_recv hK hP (ci := 11) (q0 := 2) rfl rfl, fun U hU hW => ⟨rfl, by rw [hU], by rw [hU]; exact hPc, va_K.moved hW.alike hKc, hDc.weaken (fun _ _ _ _ => trivial), ns_call hF hS hFc hU hW⟩⟩ rfl rfl hl.1 rfl (lv_room (Nat.le_of_ble_eq_true rfl)) dX9_needCodes_70 ⟨Nat.le_of_ble_eq_true rfl, Nat.le_of_ble_eq_true rfl⟩) hS (fun q _ h => hFc q h) hFc (fun r9 u t H1 locs ht hvm hw hB hz1 hk1 hS => ?_)
  obtain rfl := hw.symm
  obtain ⟨hP1, hK1, hD1⟩ := hB
  rw [ht] at hP1
  have hK1 := va_K.moved hvm.symm hK1
  obtain ⟨hP, hD⟩ := va_join (wr := [(h0, .inr (16, [v0, .ref h3, .ref h1, v1, v2, v3, v4, v5, v6, v7, v8, v9, v10, v11, v12, v13])), (h3, .inr (11, [v14, .int 0])), (h2, .inl (cc0, 6, .inl (upd (upd (upd (upd (upd (upd (fun _ => 0) 0 x0) 1 x1) 2 x2) 3 x3) 4 x4) 5 x5)))]) (w1 := [(h1, .inr (11, [.ref h2, .int 6]))]) hP hD [2] [0, 1, 3] rfl rfl (by decide) (by decide) hk1 hFc hP1 hD1
  have hK := (hK.sub (tys' := [(cc0, .int)]) [0] rfl).app hK1
  generalize H1 = H at hP hS ⊢
  have hP : va_P (dC, dI) vwCl [(h0, .inr (16, [v0, .ref h3, .ref h1, v1, v2, v3, v4, v5, v6, v7, v8, v9, v10, v11, v12, v13])), (h3, .inr (11, [v14, .int 0])), (h2, .inl (cc0, 6, .inl (upd (upd (upd (upd (upd (upd (fun _ => 0) 0 x0) 1 x1) 2 x2) 3 x3) 4 x4) 5 x5))), (h1, .inr (11, [.ref h2, .int 6]))] H := hP
  have hD : va_D A [(h0, .inr (16, [v0, .ref h3, .ref h1, v1, v2, v3, v4, v5, v6, v7, v8, v9, v10, v11, v12, v13])), (h3, .inr (11, [v14, .int 0])), (h2, .inl (cc0, 6, .inl (upd (upd (upd (upd (upd (upd (fun _ => 0) 0 x0) 1 x1) 2 x2) 3 x3) 4 x4) 5 x5))), (h1, .inr (11, [.ref h2, .int 6]))] := hD
  have hK : va_K (dC, dI) vwCl [(cc0, .int)] s := hK
  refine W.widen (k := 0) (n := 0) (Nat.le_of_ble_eq_true rfl) (Nat.le_of_ble_eq_true rfl) ?_
  refine lv_icmp_ge (tgt := 112) hx hb dX9_needCodes_73 (by decide) (fun c28 => absurd c28 (by decide)) (fun c28 => ?_)
  refine lv_iload_n hx hb dX9_needCodes_76 rfl (lv_at hl 1 rfl) ?_
  refine lv_aload_n hx hb dX9_needCodes_77 rfl (lv_at hl 2 rfl) ?_
  refine va_get (D := (dC, dI)) (ci := 16) (v := .ref h1) (C := RX9) (T := TX9) (N := 16) hx hb hta naX9 hown hK hP 0 rfl rfl 2 (by decide) (hta _ wm33) (fun _ h9 => h9) rfl dX9_needCodes_78 ?_
  refine lv_iload_n hx hb dX9_needCodes_81 rfl (lv_at hl 0 rfl) ?_
  have hPc := hP.sub (ws' := [(h1, .inr (11, [.ref h2, .int 6])), (h2, .inl (cc0, 6, .inl (upd (upd (upd (upd (upd (upd (fun _ => 0) 0 x0) 1 x1) 2 x2) 3 x3) 4 x4) 5 x5)))]) [3, 2] rfl
  have hDc := hD.sub (ws' := [(h1, .inr (11, [.ref h2, .int 6])), (h2, .inl (cc0, 6, .inl (upd (upd (upd (upd (upd (upd (fun _ => 0) 0 x0) 1 x1) 2 x2) 3 x3) 4 x4) 5 x5)))]) [3, 2] (by decide) rfl
  have hKc := hK.sub (tys' := [(cc0, .int)]) [0] rfl
  have hFc := va_free (wc := [(h1, .inr (11, [.ref h2, .int 6])), (h2, .inl (cc0, 6, .inl (upd (upd (upd (upd (upd (upd (fun _ => 0) 0 x0) 1 x1) 2 x2) 3 x3) 4 x4) 5 x5)))]) hD hS hA [3, 2] rfl
  refine va_calli (va_runV (As := [.int 2]) (rest := [.int (ns_len (ns_len 0 x0) x1)]) ⟨hx, hb, hml, hown, hts⟩ (kX4_get_24 l dC dI g H.size h1 h2 cc0 x0 x1 x2 x3 x4 x5 ⟨by omega, by omega⟩ ⟨by omega, by omega⟩ ⟨by omega, by omega⟩ ⟨by omega, by omega⟩ ⟨by omega, by omega⟩ ⟨by omega, by omega⟩) (cwV 1 hts (ns_gp (List.forall_mem_cons.mpr ⟨wm550, (List.forall_mem_cons.mpr ⟨wm551, (List.forall_mem_cons.mpr ⟨wm552, (List.forall_mem_cons.mpr ⟨wm12, (fun _ h9 => nomatch h9)⟩)⟩)⟩)⟩) wm548) rfl rfl rfl (by decide +kernel) ⟨Nat.le_of_ble_eq_true rfl, Nat.le_of_ble_eq_true rfl⟩) ⟨fun a U gg mk q => by obtain ⟨q0, q1, qP, qK, qD, qF⟩ := q; exact ⟨q0, q1, qP, va_K.moved (u := U) (U := U.calling gg mk a) (Vm.Alike.refl U.vm) qK, qD, ns_same qF⟩, va_recv hK hP (ci := 11) (q0 := 3) rfl rfl, fun U hU hW => ⟨rfl, by rw [hU], by rw [hU]; exact hPc, va_K.moved hW.alike hKc, hDc.weaken (fun _ _ _ _ => trivial), ns_call hF hS hFc hU hW⟩⟩ rfl rfl hl.1 rfl (lv_room (Nat.le_of_ble_eq_true rfl)) dX9_needCodes_82 ⟨Nat.le_of_ble_eq_true rfl, Nat.le_of_ble_eq_true rfl⟩) hS (fun q _ h => hFc q h) hFc (fun r9 u t H1 locs ht hvm hw hB hz1 hk1 hS => ?_)
  obtain rfl := hw.symm
  obtain ⟨hP1, hK1, hD1⟩ := hB
  rw [ht] at hP1
  have hK1 := va_K.moved hvm.symm hK1
  obtain ⟨hP, hD⟩ := va_join (wr := [(h0, .inr (16, [v0, .ref h3, .ref h1, v1, v2, v3, v4, v5, v6, v7, v8, v9, v10, v11, v12, v13])), (h3, .inr (11, [v14, .int 0]))]) (w1 := [(h1, .inr (11, [.ref h2, .int 6])), (h2, .inl (cc0, 6, .inl (upd (upd (upd (upd (upd (upd (fun _ => 0) 0 x0) 1 x1) 2 x2) 3 x3) 4 x4) 5 x5)))]) hP hD [3, 2] [0, 1] rfl rfl (by decide) (by decide) hk1 hFc hP1 hD1
  have hK := (hK.sub (tys' := []) [] rfl).app hK1
  generalize H1 = H at hP hS ⊢
  have hP : va_P (dC, dI) vwCl [(h0, .inr (16, [v0, .ref h3, .ref h1, v1, v2, v3, v4, v5, v6, v7, v8, v9, v10, v11, v12, v13])), (h3, .inr (11, [v14, .int 0])), (h1, .inr (11, [.ref h2, .int 6])), (h2, .inl (cc0, 6, .inl (upd (upd (upd (upd (upd (upd (fun _ => 0) 0 x0) 1 x1) 2 x2) 3 x3) 4 x4) 5 x5)))] H := hP
  have hD : va_D A [(h0, .inr (16, [v0, .ref h3, .ref h1, v1, v2, v3, v4, v5, v6, v7, v8, v9, v10, v11, v12, v13])), (h3, .inr (11, [v14, .int 0])), (h1, .inr (11, [.ref h2, .int 6])), (h2, .inl (cc0, 6, .inl (upd (upd (upd (upd (upd (upd (fun _ => 0) 0 x0) 1 x1) 2 x2) 3 x3) 4 x4) 5 x5)))] := hD
  have hK : va_K (dC, dI) vwCl [(cc0, .int)] s := hK
  refine W.widen (k := 0) (n := 0) (Nat.le_of_ble_eq_true rfl) (Nat.le_of_ble_eq_true rfl) ?_
  have hPc := hP.sub (ws' := []) [] rfl
  have hDc := hD.sub (ws' := []) [] (by decide) rfl
  have hKc := hK.sub (tys' := []) [] rfl
  have hFc := va_free (wc := []) hD hS hA [] rfl
  refine va_calli (va_runS (As := [.int (ns_len (ns_len 0 x0) x1), .int x2]) (rest := []) ⟨hx, hb, hml, hown, hts⟩ (kX9_lengthAfter_3 l dC dI g H.size (ns_len (ns_len 0 x0) x1) x2 ⟨by omega, by omega⟩ ⟨by omega, by omega⟩) (va_cwS 2 hts (ns_gp (List.forall_mem_cons.mpr ⟨wm566, (List.forall_mem_cons.mpr ⟨wm567, (List.forall_mem_cons.mpr ⟨wm2, (fun _ h9 => nomatch h9)⟩)⟩)⟩) wm565) rfl rfl rfl (by decide +kernel) ⟨Nat.le_of_ble_eq_true rfl, Nat.le_of_ble_eq_true rfl⟩) ⟨fun a U gg mk q => by obtain ⟨q0, q1, qP, qK, qD, qF⟩ := q; exact ⟨q0, q1, qP, va_K.moved (u := U) (U := U.calling gg mk a) (Vm.Alike.refl U.vm) qK, qD, ns_same qF⟩, fun U hU hW => ⟨rfl, by rw [hU], by rw [hU]; exact hPc, va_K.moved hW.alike hKc, hDc.weaken (fun _ _ _ _ => trivial), ns_call hF hS hFc hU hW⟩⟩ rfl rfl hl.1 rfl (lv_room (Nat.le_of_ble_eq_true rfl)) dX9_needCodes_85 ⟨Nat.le_of_ble_eq_true rfl, Nat.le_of_ble_eq_true rfl⟩) hS (fun q _ h => hFc q h) hFc (fun r9 u t H1 locs ht hvm hw hB hz1 hk1 hS => ?_)
  obtain rfl := hw.symm
  obtain ⟨hP1, hK1, hD1⟩ := hB
  rw [ht] at hP1
  have hK1 := va_K.moved hvm.symm hK1
  obtain ⟨hP, hD⟩ := va_join (wr := [(h0, .inr (16, [v0, .ref h3, .ref h1, v1, v2, v3, v4, v5, v6, v7, v8, v9, v10, v11, v12, v13])), (h3, .inr (11, [v14, .int 0])), (h1, .inr (11, [.ref h2, .int 6])), (h2, .inl (cc0, 6, .inl (upd (upd (upd (upd (upd (upd (fun _ => 0) 0 x0) 1 x1) 2 x2) 3 x3) 4 x4) 5 x5)))]) (w1 := []) hP hD [] [0, 1, 2, 3] rfl rfl (by decide) (by decide) hk1 hFc hP1 hD1
  have hK := (hK.sub (tys' := [(cc0, .int)]) [0] rfl).app hK1
  generalize H1 = H at hP hS ⊢
  have hP : va_P (dC, dI) vwCl [(h0, .inr (16, [v0, .ref h3, .ref h1, v1, v2, v3, v4, v5, v6, v7, v8, v9, v10, v11, v12, v13])), (h3, .inr (11, [v14, .int 0])), (h1, .inr (11, [.ref h2, .int 6])), (h2, .inl (cc0, 6, .inl (upd (upd (upd (upd (upd (upd (fun _ => 0) 0 x0) 1 x1) 2 x2) 3 x3) 4 x4) 5 x5)))] H := hP
  have hD : va_D A [(h0, .inr (16, [v0, .ref h3, .ref h1, v1, v2, v3, v4, v5, v6, v7, v8, v9, v10, v11, v12, v13])), (h3, .inr (11, [v14, .int 0])), (h1, .inr (11, [.ref h2, .int 6])), (h2, .inl (cc0, 6, .inl (upd (upd (upd (upd (upd (upd (fun _ => 0) 0 x0) 1 x1) 2 x2) 3 x3) 4 x4) 5 x5)))] := hD
  have hK : va_K (dC, dI) vwCl [(cc0, .int)] s := hK
  refine W.widen (k := 0) (n := 0) (Nat.le_of_ble_eq_true rfl) (Nat.le_of_ble_eq_true rfl) ?_
  have r30 : (0 : Int) ≤ (ns_len (ns_len (ns_len 0 x0) x1) x2).toInt ∧ (ns_len (ns_len (ns_len 0 x0) x1) x2).toInt ≤ (3 : Int) := ns_len_rng (ns_len (ns_len 0 x0) x1) x2 2 3 ⟨(by omega), (by omega)⟩ (by decide) (by decide)
  refine lv_istore_n (lv' := [(1, .int (ns_len (ns_len (ns_len 0 x0) x1) x2)), (2, .int 2), (0, .ref h0)]) hx hb dX9_needCodes_88 rfl hl (by decide) rfl (fun ls hl => ?_)
  refine lv_iload_n hx hb dX9_needCodes_89 rfl (lv_at hl 0 rfl) ?_
  refine lv_bipush (v := 60) hx hb dX9_needCodes_90 (by decide) ?_
  refine lv_icmp_le (tgt := 106) hx hb dX9_needCodes_92 (by decide) (fun c31 => ?_) (fun c31 => absurd (show (ns_len (ns_len (ns_len 0 x0) x1) x2) ≤ (60 : Int32) from Int32.le_iff_toInt_le.mpr (show (ns_len (ns_len (ns_len 0 x0) x1) x2).toInt ≤ (60 : Int) by omega)) c31)
  refine lv_iinc (v := 3) (lv' := [(2, .int 3), (1, .int (ns_len (ns_len (ns_len 0 x0) x1) x2)), (0, .ref h0)]) hx hb dX9_needCodes_106 hl (k := 1) rfl (by decide) (by decide) rfl (fun ls hl => ?_)
  refine lv_goto (tgt := 65) hx hb dX9_needCodes_109 (by decide) ?_
  refine lv_iload_n hx hb dX9_needCodes_65 rfl (lv_at hl 0 rfl) ?_
  refine lv_aload_n hx hb dX9_needCodes_66 rfl (lv_at hl 2 rfl) ?_
  refine va_get (D := (dC, dI)) (ci := 16) (v := .ref h1) (C := RX9) (T := TX9) (N := 16) hx hb hta naX9 hown hK hP 0 rfl rfl 2 (by decide) (hta _ wm33) (fun _ h9 => h9) rfl dX9_needCodes_67 ?_
  have hPc := hP.sub (ws' := [(h1, .inr (11, [.ref h2, .int 6]))]) [2] rfl
  have hDc := hD.sub (ws' := [(h1, .inr (11, [.ref h2, .int 6]))]) [2] (by decide) rfl
  have hKc := hK.sub (tys' := []) [] rfl
  have hFc := va_free (wc := [(h1, .inr (11, [.ref h2, .int 6]))]) hD hS hA [2] rfl
  refine va_calli (va_runV (As := []) (rest := [.int 3]) ⟨hx, hb, hml, hown, hts⟩ (kX4_size_7 l dC dI g H.size h1 (.ref h2) ) (cwV 0 hts (ns_gp (List.forall_mem_cons.mpr ⟨wm549, (List.forall_mem_cons.mpr ⟨wm249, (List.forall_mem_cons.mpr ⟨wm250, (List.forall_mem_cons.mpr ⟨wm12, (fun _ h9 => nomatch h9)⟩)⟩)⟩)⟩) wm247) rfl rfl rfl (by decide +kernel) ⟨Nat.le_of_ble_eq_true rfl, Nat.le_of_ble_eq_true rfl⟩) ⟨fun a U gg mk q => by obtain ⟨q0, q1, qP, qK, qD, qF⟩ := q; exact ⟨q0, q1, qP, va_K.moved (u := U) (U := U.calling gg mk a) (Vm.Alike.refl U.vm) qK, qD, ns_same qF⟩, va_recv hK hP (ci := 11) (q0 := 2) rfl rfl, fun U hU hW => ⟨rfl, by rw [hU], by rw [hU]; exact hPc, va_K.moved hW.alike hKc, hDc.weaken (fun _ _ _ _ => trivial), ns_call hF hS hFc hU hW⟩⟩ rfl rfl hl.1 rfl (lv_room (Nat.le_of_ble_eq_true rfl)) dX9_needCodes_70 ⟨Nat.le_of_ble_eq_true rfl, Nat.le_of_ble_eq_true rfl⟩) hS (fun q _ h => hFc q h) hFc (fun r9 u t H1 locs ht hvm hw hB hz1 hk1 hS => ?_)
  obtain rfl := hw.symm
  obtain ⟨hP1, hK1, hD1⟩ := hB
  rw [ht] at hP1
  have hK1 := va_K.moved hvm.symm hK1
  obtain ⟨hP, hD⟩ := va_join (wr := [(h0, .inr (16, [v0, .ref h3, .ref h1, v1, v2, v3, v4, v5, v6, v7, v8, v9, v10, v11, v12, v13])), (h3, .inr (11, [v14, .int 0])), (h2, .inl (cc0, 6, .inl (upd (upd (upd (upd (upd (upd (fun _ => 0) 0 x0) 1 x1) 2 x2) 3 x3) 4 x4) 5 x5)))]) (w1 := [(h1, .inr (11, [.ref h2, .int 6]))]) hP hD [2] [0, 1, 3] rfl rfl (by decide) (by decide) hk1 hFc hP1 hD1
  have hK := (hK.sub (tys' := [(cc0, .int)]) [0] rfl).app hK1
  generalize H1 = H at hP hS ⊢
  have hP : va_P (dC, dI) vwCl [(h0, .inr (16, [v0, .ref h3, .ref h1, v1, v2, v3, v4, v5, v6, v7, v8, v9, v10, v11, v12, v13])), (h3, .inr (11, [v14, .int 0])), (h2, .inl (cc0, 6, .inl (upd (upd (upd (upd (upd (upd (fun _ => 0) 0 x0) 1 x1) 2 x2) 3 x3) 4 x4) 5 x5))), (h1, .inr (11, [.ref h2, .int 6]))] H := hP
  have hD : va_D A [(h0, .inr (16, [v0, .ref h3, .ref h1, v1, v2, v3, v4, v5, v6, v7, v8, v9, v10, v11, v12, v13])), (h3, .inr (11, [v14, .int 0])), (h2, .inl (cc0, 6, .inl (upd (upd (upd (upd (upd (upd (fun _ => 0) 0 x0) 1 x1) 2 x2) 3 x3) 4 x4) 5 x5))), (h1, .inr (11, [.ref h2, .int 6]))] := hD
  have hK : va_K (dC, dI) vwCl [(cc0, .int)] s := hK
  refine W.widen (k := 0) (n := 0) (Nat.le_of_ble_eq_true rfl) (Nat.le_of_ble_eq_true rfl) ?_
  refine lv_icmp_ge (tgt := 112) hx hb dX9_needCodes_73 (by decide) (fun c32 => absurd c32 (by decide)) (fun c32 => ?_)
  refine lv_iload_n hx hb dX9_needCodes_76 rfl (lv_at hl 1 rfl) ?_
  refine lv_aload_n hx hb dX9_needCodes_77 rfl (lv_at hl 2 rfl) ?_
  refine va_get (D := (dC, dI)) (ci := 16) (v := .ref h1) (C := RX9) (T := TX9) (N := 16) hx hb hta naX9 hown hK hP 0 rfl rfl 2 (by decide) (hta _ wm33) (fun _ h9 => h9) rfl dX9_needCodes_78 ?_
  refine lv_iload_n hx hb dX9_needCodes_81 rfl (lv_at hl 0 rfl) ?_
  have hPc := hP.sub (ws' := [(h1, .inr (11, [.ref h2, .int 6])), (h2, .inl (cc0, 6, .inl (upd (upd (upd (upd (upd (upd (fun _ => 0) 0 x0) 1 x1) 2 x2) 3 x3) 4 x4) 5 x5)))]) [3, 2] rfl
  have hDc := hD.sub (ws' := [(h1, .inr (11, [.ref h2, .int 6])), (h2, .inl (cc0, 6, .inl (upd (upd (upd (upd (upd (upd (fun _ => 0) 0 x0) 1 x1) 2 x2) 3 x3) 4 x4) 5 x5)))]) [3, 2] (by decide) rfl
  have hKc := hK.sub (tys' := [(cc0, .int)]) [0] rfl
  have hFc := va_free (wc := [(h1, .inr (11, [.ref h2, .int 6])), (h2, .inl (cc0, 6, .inl (upd (upd (upd (upd (upd (upd (fun _ => 0) 0 x0) 1 x1) 2 x2) 3 x3) 4 x4) 5 x5)))]) hD hS hA [3, 2] rfl
  refine va_calli (va_runV (As := [.int 3]) (rest := [.int (ns_len (ns_len (ns_len 0 x0) x1) x2)]) ⟨hx, hb, hml, hown, hts⟩ (kX4_get_25 l dC dI g H.size h1 h2 cc0 x0 x1 x2 x3 x4 x5 ⟨by omega, by omega⟩ ⟨by omega, by omega⟩ ⟨by omega, by omega⟩ ⟨by omega, by omega⟩ ⟨by omega, by omega⟩ ⟨by omega, by omega⟩) (cwV 1 hts (ns_gp (List.forall_mem_cons.mpr ⟨wm550, (List.forall_mem_cons.mpr ⟨wm551, (List.forall_mem_cons.mpr ⟨wm552, (List.forall_mem_cons.mpr ⟨wm12, (fun _ h9 => nomatch h9)⟩)⟩)⟩)⟩) wm548) rfl rfl rfl (by decide +kernel) ⟨Nat.le_of_ble_eq_true rfl, Nat.le_of_ble_eq_true rfl⟩) ⟨fun a U gg mk q => by obtain ⟨q0, q1, qP, qK, qD, qF⟩ := q; exact ⟨q0, q1, qP, va_K.moved (u := U) (U := U.calling gg mk a) (Vm.Alike.refl U.vm) qK, qD, ns_same qF⟩, va_recv hK hP (ci := 11) (q0 := 3) rfl rfl, fun U hU hW => ⟨rfl, by rw [hU], by rw [hU]; exact hPc, va_K.moved hW.alike hKc, hDc.weaken (fun _ _ _ _ => trivial), ns_call hF hS hFc hU hW⟩⟩ rfl rfl hl.1 rfl (lv_room (Nat.le_of_ble_eq_true rfl)) dX9_needCodes_82 ⟨Nat.le_of_ble_eq_true rfl, Nat.le_of_ble_eq_true rfl⟩) hS (fun q _ h => hFc q h) hFc (fun r9 u t H1 locs ht hvm hw hB hz1 hk1 hS => ?_)
  obtain rfl := hw.symm
  obtain ⟨hP1, hK1, hD1⟩ := hB
  rw [ht] at hP1
  have hK1 := va_K.moved hvm.symm hK1
  obtain ⟨hP, hD⟩ := va_join (wr := [(h0, .inr (16, [v0, .ref h3, .ref h1, v1, v2, v3, v4, v5, v6, v7, v8, v9, v10, v11, v12, v13])), (h3, .inr (11, [v14, .int 0]))]) (w1 := [(h1, .inr (11, [.ref h2, .int 6])), (h2, .inl (cc0, 6, .inl (upd (upd (upd (upd (upd (upd (fun _ => 0) 0 x0) 1 x1) 2 x2) 3 x3) 4 x4) 5 x5)))]) hP hD [3, 2] [0, 1] rfl rfl (by decide) (by decide) hk1 hFc hP1 hD1
  have hK := (hK.sub (tys' := []) [] rfl).app hK1
  generalize H1 = H at hP hS ⊢
  have hP : va_P (dC, dI) vwCl [(h0, .inr (16, [v0, .ref h3, .ref h1, v1, v2, v3, v4, v5, v6, v7, v8, v9, v10, v11, v12, v13])), (h3, .inr (11, [v14, .int 0])), (h1, .inr (11, [.ref h2, .int 6])), (h2, .inl (cc0, 6, .inl (upd (upd (upd (upd (upd (upd (fun _ => 0) 0 x0) 1 x1) 2 x2) 3 x3) 4 x4) 5 x5)))] H := hP
  have hD : va_D A [(h0, .inr (16, [v0, .ref h3, .ref h1, v1, v2, v3, v4, v5, v6, v7, v8, v9, v10, v11, v12, v13])), (h3, .inr (11, [v14, .int 0])), (h1, .inr (11, [.ref h2, .int 6])), (h2, .inl (cc0, 6, .inl (upd (upd (upd (upd (upd (upd (fun _ => 0) 0 x0) 1 x1) 2 x2) 3 x3) 4 x4) 5 x5)))] := hD
  have hK : va_K (dC, dI) vwCl [(cc0, .int)] s := hK
  refine W.widen (k := 0) (n := 0) (Nat.le_of_ble_eq_true rfl) (Nat.le_of_ble_eq_true rfl) ?_
  have hPc := hP.sub (ws' := []) [] rfl
  have hDc := hD.sub (ws' := []) [] (by decide) rfl
  have hKc := hK.sub (tys' := []) [] rfl
  have hFc := va_free (wc := []) hD hS hA [] rfl
  refine va_calli (va_runS (As := [.int (ns_len (ns_len (ns_len 0 x0) x1) x2), .int x3]) (rest := []) ⟨hx, hb, hml, hown, hts⟩ (kX9_lengthAfter_4 l dC dI g H.size (ns_len (ns_len (ns_len 0 x0) x1) x2) x3 ⟨by omega, by omega⟩ ⟨by omega, by omega⟩) (va_cwS 2 hts (ns_gp (List.forall_mem_cons.mpr ⟨wm566, (List.forall_mem_cons.mpr ⟨wm567, (List.forall_mem_cons.mpr ⟨wm2, (fun _ h9 => nomatch h9)⟩)⟩)⟩) wm565) rfl rfl rfl (by decide +kernel) ⟨Nat.le_of_ble_eq_true rfl, Nat.le_of_ble_eq_true rfl⟩) ⟨fun a U gg mk q => by obtain ⟨q0, q1, qP, qK, qD, qF⟩ := q; exact ⟨q0, q1, qP, va_K.moved (u := U) (U := U.calling gg mk a) (Vm.Alike.refl U.vm) qK, qD, ns_same qF⟩, fun U hU hW => ⟨rfl, by rw [hU], by rw [hU]; exact hPc, va_K.moved hW.alike hKc, hDc.weaken (fun _ _ _ _ => trivial), ns_call hF hS hFc hU hW⟩⟩ rfl rfl hl.1 rfl (lv_room (Nat.le_of_ble_eq_true rfl)) dX9_needCodes_85 ⟨Nat.le_of_ble_eq_true rfl, Nat.le_of_ble_eq_true rfl⟩) hS (fun q _ h => hFc q h) hFc (fun r9 u t H1 locs ht hvm hw hB hz1 hk1 hS => ?_)
  obtain rfl := hw.symm
  obtain ⟨hP1, hK1, hD1⟩ := hB
  rw [ht] at hP1
  have hK1 := va_K.moved hvm.symm hK1
  obtain ⟨hP, hD⟩ := va_join (wr := [(h0, .inr (16, [v0, .ref h3, .ref h1, v1, v2, v3, v4, v5, v6, v7, v8, v9, v10, v11, v12, v13])), (h3, .inr (11, [v14, .int 0])), (h1, .inr (11, [.ref h2, .int 6])), (h2, .inl (cc0, 6, .inl (upd (upd (upd (upd (upd (upd (fun _ => 0) 0 x0) 1 x1) 2 x2) 3 x3) 4 x4) 5 x5)))]) (w1 := []) hP hD [] [0, 1, 2, 3] rfl rfl (by decide) (by decide) hk1 hFc hP1 hD1
  have hK := (hK.sub (tys' := [(cc0, .int)]) [0] rfl).app hK1
  generalize H1 = H at hP hS ⊢
  have hP : va_P (dC, dI) vwCl [(h0, .inr (16, [v0, .ref h3, .ref h1, v1, v2, v3, v4, v5, v6, v7, v8, v9, v10, v11, v12, v13])), (h3, .inr (11, [v14, .int 0])), (h1, .inr (11, [.ref h2, .int 6])), (h2, .inl (cc0, 6, .inl (upd (upd (upd (upd (upd (upd (fun _ => 0) 0 x0) 1 x1) 2 x2) 3 x3) 4 x4) 5 x5)))] H := hP
  have hD : va_D A [(h0, .inr (16, [v0, .ref h3, .ref h1, v1, v2, v3, v4, v5, v6, v7, v8, v9, v10, v11, v12, v13])), (h3, .inr (11, [v14, .int 0])), (h1, .inr (11, [.ref h2, .int 6])), (h2, .inl (cc0, 6, .inl (upd (upd (upd (upd (upd (upd (fun _ => 0) 0 x0) 1 x1) 2 x2) 3 x3) 4 x4) 5 x5)))] := hD
  have hK : va_K (dC, dI) vwCl [(cc0, .int)] s := hK
  refine W.widen (k := 0) (n := 0) (Nat.le_of_ble_eq_true rfl) (Nat.le_of_ble_eq_true rfl) ?_
  have r34 : (0 : Int) ≤ (ns_len (ns_len (ns_len (ns_len 0 x0) x1) x2) x3).toInt ∧ (ns_len (ns_len (ns_len (ns_len 0 x0) x1) x2) x3).toInt ≤ (4 : Int) := ns_len_rng (ns_len (ns_len (ns_len 0 x0) x1) x2) x3 3 4 ⟨(by omega), (by omega)⟩ (by decide) (by decide)
  refine lv_istore_n (lv' := [(1, .int (ns_len (ns_len (ns_len (ns_len 0 x0) x1) x2) x3)), (2, .int 3), (0, .ref h0)]) hx hb dX9_needCodes_88 rfl hl (by decide) rfl (fun ls hl => ?_)
  refine lv_iload_n hx hb dX9_needCodes_89 rfl (lv_at hl 0 rfl) ?_
  refine lv_bipush (v := 60) hx hb dX9_needCodes_90 (by decide) ?_
  refine lv_icmp_le (tgt := 106) hx hb dX9_needCodes_92 (by decide) (fun c35 => ?_) (fun c35 => absurd (show (ns_len (ns_len (ns_len (ns_len 0 x0) x1) x2) x3) ≤ (60 : Int32) from Int32.le_iff_toInt_le.mpr (show (ns_len (ns_len (ns_len (ns_len 0 x0) x1) x2) x3).toInt ≤ (60 : Int) by omega)) c35)
  refine lv_iinc (v := 4) (lv' := [(2, .int 4), (1, .int (ns_len (ns_len (ns_len (ns_len 0 x0) x1) x2) x3)), (0, .ref h0)]) hx hb dX9_needCodes_106 hl (k := 1) rfl (by decide) (by decide) rfl (fun ls hl => ?_)
  refine lv_goto (tgt := 65) hx hb dX9_needCodes_109 (by decide) ?_
  refine lv_iload_n hx hb dX9_needCodes_65 rfl (lv_at hl 0 rfl) ?_
  refine lv_aload_n hx hb dX9_needCodes_66 rfl (lv_at hl 2 rfl) ?_
  refine va_get (D := (dC, dI)) (ci := 16) (v := .ref h1) (C := RX9) (T := TX9) (N := 16) hx hb hta naX9 hown hK hP 0 rfl rfl 2 (by decide) (hta _ wm33) (fun _ h9 => h9) rfl dX9_needCodes_67 ?_
  have hPc := hP.sub (ws' := [(h1, .inr (11, [.ref h2, .int 6]))]) [2] rfl
  have hDc := hD.sub (ws' := [(h1, .inr (11, [.ref h2, .int 6]))]) [2] (by decide) rfl
  have hKc := hK.sub (tys' := []) [] rfl
  have hFc := va_free (wc := [(h1, .inr (11, [.ref h2, .int 6]))]) hD hS hA [2] rfl
  refine va_calli (va_runV (As := []) (rest := [.int 4]) ⟨hx, hb, hml, hown, hts⟩ (kX4_size_7 l dC dI g H.size h1 (.ref h2) ) (cwV 0 hts (ns_gp (List.forall_mem_cons.mpr ⟨wm549, (List.forall_mem_cons.mpr ⟨wm249, (List.forall_mem_cons.mpr ⟨wm250, (List.forall_mem_cons.mpr ⟨wm12, (fun _ h9 => nomatch h9)⟩)⟩)⟩)⟩) wm247) rfl rfl rfl (by decide +kernel) ⟨Nat.le_of_ble_eq_true rfl, Nat.le_of_ble_eq_true rfl⟩) ⟨fun a U gg mk q => by obtain ⟨q0, q1, qP, qK, qD, qF⟩ := q; exact ⟨q0, q1, qP, va_K.moved (u := U) (U := U.calling gg mk a) (Vm.Alike.refl U.vm) qK, qD, ns_same qF⟩, va_recv hK hP (ci := 11) (q0 := 2) rfl rfl, fun U hU hW => ⟨rfl, by rw [hU], by rw [hU]; exact hPc, va_K.moved hW.alike hKc, hDc.weaken (fun _ _ _ _ => trivial), ns_call hF hS hFc hU hW⟩⟩ rfl rfl hl.1 rfl (lv_room (Nat.le_of_ble_eq_true rfl)) dX9_needCodes_70 ⟨Nat.le_of_ble_eq_true rfl, Nat.le_of_ble_eq_true rfl⟩) hS (fun q _ h => hFc q h) hFc (fun r9 u t H1 locs ht hvm hw hB hz1 hk1 hS => ?_)
  obtain rfl := hw.symm
  obtain ⟨hP1, hK1, hD1⟩ := hB
  rw [ht] at hP1
  have hK1 := va_K.moved hvm.symm hK1
  obtain ⟨hP, hD⟩ := va_join (wr := [(h0, .inr (16, [v0, .ref h3, .ref h1, v1, v2, v3, v4, v5, v6, v7, v8, v9, v10, v11, v12, v13])), (h3, .inr (11, [v14, .int 0])), (h2, .inl (cc0, 6, .inl (upd (upd (upd (upd (upd (upd (fun _ => 0) 0 x0) 1 x1) 2 x2) 3 x3) 4 x4) 5 x5)))]) (w1 := [(h1, .inr (11, [.ref h2, .int 6]))]) hP hD [2] [0, 1, 3] rfl rfl (by decide) (by decide) hk1 hFc hP1 hD1
  have hK := (hK.sub (tys' := [(cc0, .int)]) [0] rfl).app hK1
  generalize H1 = H at hP hS ⊢
  have hP : va_P (dC, dI) vwCl [(h0, .inr (16, [v0, .ref h3, .ref h1, v1, v2, v3, v4, v5, v6, v7, v8, v9, v10, v11, v12, v13])), (h3, .inr (11, [v14, .int 0])), (h2, .inl (cc0, 6, .inl (upd (upd (upd (upd (upd (upd (fun _ => 0) 0 x0) 1 x1) 2 x2) 3 x3) 4 x4) 5 x5))), (h1, .inr (11, [.ref h2, .int 6]))] H := hP
  have hD : va_D A [(h0, .inr (16, [v0, .ref h3, .ref h1, v1, v2, v3, v4, v5, v6, v7, v8, v9, v10, v11, v12, v13])), (h3, .inr (11, [v14, .int 0])), (h2, .inl (cc0, 6, .inl (upd (upd (upd (upd (upd (upd (fun _ => 0) 0 x0) 1 x1) 2 x2) 3 x3) 4 x4) 5 x5))), (h1, .inr (11, [.ref h2, .int 6]))] := hD
  have hK : va_K (dC, dI) vwCl [(cc0, .int)] s := hK
  refine W.widen (k := 0) (n := 0) (Nat.le_of_ble_eq_true rfl) (Nat.le_of_ble_eq_true rfl) ?_
  refine lv_icmp_ge (tgt := 112) hx hb dX9_needCodes_73 (by decide) (fun c36 => absurd c36 (by decide)) (fun c36 => ?_)
  refine lv_iload_n hx hb dX9_needCodes_76 rfl (lv_at hl 1 rfl) ?_
  refine lv_aload_n hx hb dX9_needCodes_77 rfl (lv_at hl 2 rfl) ?_
  refine va_get (D := (dC, dI)) (ci := 16) (v := .ref h1) (C := RX9) (T := TX9) (N := 16) hx hb hta naX9 hown hK hP 0 rfl rfl 2 (by decide) (hta _ wm33) (fun _ h9 => h9) rfl dX9_needCodes_78 ?_
  refine lv_iload_n hx hb dX9_needCodes_81 rfl (lv_at hl 0 rfl) ?_
  have hPc := hP.sub (ws' := [(h1, .inr (11, [.ref h2, .int 6])), (h2, .inl (cc0, 6, .inl (upd (upd (upd (upd (upd (upd (fun _ => 0) 0 x0) 1 x1) 2 x2) 3 x3) 4 x4) 5 x5)))]) [3, 2] rfl
  have hDc := hD.sub (ws' := [(h1, .inr (11, [.ref h2, .int 6])), (h2, .inl (cc0, 6, .inl (upd (upd (upd (upd (upd (upd (fun _ => 0) 0 x0) 1 x1) 2 x2) 3 x3) 4 x4) 5 x5)))]) [3, 2] (by decide) rfl
  have hKc := hK.sub (tys' := [(cc0, .int)]) [0] rfl
  have hFc := va_free (wc := [(h1, .inr (11, [.ref h2, .int 6])), (h2, .inl (cc0, 6, .inl (upd (upd (upd (upd (upd (upd (fun _ => 0) 0 x0) 1 x1) 2 x2) 3 x3) 4 x4) 5 x5)))]) hD hS hA [3, 2] rfl
  refine va_calli (va_runV (As := [.int 4]) (rest := [.int (ns_len (ns_len (ns_len (ns_len 0 x0) x1) x2) x3)]) ⟨hx, hb, hml, hown, hts⟩ (kX4_get_26 l dC dI g H.size h1 h2 cc0 x0 x1 x2 x3 x4 x5 ⟨by omega, by omega⟩ ⟨by omega, by omega⟩ ⟨by omega, by omega⟩ ⟨by omega, by omega⟩ ⟨by omega, by omega⟩ ⟨by omega, by omega⟩) (cwV 1 hts (ns_gp (List.forall_mem_cons.mpr ⟨wm550, (List.forall_mem_cons.mpr ⟨wm551, (List.forall_mem_cons.mpr ⟨wm552, (List.forall_mem_cons.mpr ⟨wm12, (fun _ h9 => nomatch h9)⟩)⟩)⟩)⟩) wm548) rfl rfl rfl (by decide +kernel) ⟨Nat.le_of_ble_eq_true rfl, Nat.le_of_ble_eq_true rfl⟩) ⟨fun a U gg mk q => by obtain ⟨q0, q1, qP, qK, qD, qF⟩ := q; exact ⟨q0, q1, qP, va_K.moved (u := U) (U := U.calling gg mk a) (Vm.Alike.refl U.vm) qK, qD, ns_same qF⟩, va_recv hK hP (ci := 11) (q0 := 3) rfl rfl, fun U hU hW => ⟨rfl, by rw [hU], by rw [hU]; exact hPc, va_K.moved hW.alike hKc, hDc.weaken (fun _ _ _ _ => trivial), ns_call hF hS hFc hU hW⟩⟩ rfl rfl hl.1 rfl (lv_room (Nat.le_of_ble_eq_true rfl)) dX9_needCodes_82 ⟨Nat.le_of_ble_eq_true rfl, Nat.le_of_ble_eq_true rfl⟩) hS (fun q _ h => hFc q h) hFc (fun r9 u t H1 locs ht hvm hw hB hz1 hk1 hS => ?_)
  obtain rfl := hw.symm
  obtain ⟨hP1, hK1, hD1⟩ := hB
  rw [ht] at hP1
  have hK1 := va_K.moved hvm.symm hK1
  obtain ⟨hP, hD⟩ := va_join (wr := [(h0, .inr (16, [v0, .ref h3, .ref h1, v1, v2, v3, v4, v5, v6, v7, v8, v9, v10, v11, v12, v13])), (h3, .inr (11, [v14, .int 0]))]) (w1 := [(h1, .inr (11, [.ref h2, .int 6])), (h2, .inl (cc0, 6, .inl (upd (upd (upd (upd (upd (upd (fun _ => 0) 0 x0) 1 x1) 2 x2) 3 x3) 4 x4) 5 x5)))]) hP hD [3, 2] [0, 1] rfl rfl (by decide) (by decide) hk1 hFc hP1 hD1
  have hK := (hK.sub (tys' := []) [] rfl).app hK1
  generalize H1 = H at hP hS ⊢
  have hP : va_P (dC, dI) vwCl [(h0, .inr (16, [v0, .ref h3, .ref h1, v1, v2, v3, v4, v5, v6, v7, v8, v9, v10, v11, v12, v13])), (h3, .inr (11, [v14, .int 0])), (h1, .inr (11, [.ref h2, .int 6])), (h2, .inl (cc0, 6, .inl (upd (upd (upd (upd (upd (upd (fun _ => 0) 0 x0) 1 x1) 2 x2) 3 x3) 4 x4) 5 x5)))] H := hP
  have hD : va_D A [(h0, .inr (16, [v0, .ref h3, .ref h1, v1, v2, v3, v4, v5, v6, v7, v8, v9, v10, v11, v12, v13])), (h3, .inr (11, [v14, .int 0])), (h1, .inr (11, [.ref h2, .int 6])), (h2, .inl (cc0, 6, .inl (upd (upd (upd (upd (upd (upd (fun _ => 0) 0 x0) 1 x1) 2 x2) 3 x3) 4 x4) 5 x5)))] := hD
  have hK : va_K (dC, dI) vwCl [(cc0, .int)] s := hK
  refine W.widen (k := 0) (n := 0) (Nat.le_of_ble_eq_true rfl) (Nat.le_of_ble_eq_true rfl) ?_
  have hPc := hP.sub (ws' := []) [] rfl
  have hDc := hD.sub (ws' := []) [] (by decide) rfl
  have hKc := hK.sub (tys' := []) [] rfl
  have hFc := va_free (wc := []) hD hS hA [] rfl
  refine va_calli (va_runS (As := [.int (ns_len (ns_len (ns_len (ns_len 0 x0) x1) x2) x3), .int x4]) (rest := []) ⟨hx, hb, hml, hown, hts⟩ (kX9_lengthAfter_5 l dC dI g H.size (ns_len (ns_len (ns_len (ns_len 0 x0) x1) x2) x3) x4 ⟨by omega, by omega⟩ ⟨by omega, by omega⟩) (va_cwS 2 hts (ns_gp (List.forall_mem_cons.mpr ⟨wm566, (List.forall_mem_cons.mpr ⟨wm567, (List.forall_mem_cons.mpr ⟨wm2, (fun _ h9 => nomatch h9)⟩)⟩)⟩) wm565) rfl rfl rfl (by decide +kernel) ⟨Nat.le_of_ble_eq_true rfl, Nat.le_of_ble_eq_true rfl⟩) ⟨fun a U gg mk q => by obtain ⟨q0, q1, qP, qK, qD, qF⟩ := q; exact ⟨q0, q1, qP, va_K.moved (u := U) (U := U.calling gg mk a) (Vm.Alike.refl U.vm) qK, qD, ns_same qF⟩, fun U hU hW => ⟨rfl, by rw [hU], by rw [hU]; exact hPc, va_K.moved hW.alike hKc, hDc.weaken (fun _ _ _ _ => trivial), ns_call hF hS hFc hU hW⟩⟩ rfl rfl hl.1 rfl (lv_room (Nat.le_of_ble_eq_true rfl)) dX9_needCodes_85 ⟨Nat.le_of_ble_eq_true rfl, Nat.le_of_ble_eq_true rfl⟩) hS (fun q _ h => hFc q h) hFc (fun r9 u t H1 locs ht hvm hw hB hz1 hk1 hS => ?_)
  obtain rfl := hw.symm
  obtain ⟨hP1, hK1, hD1⟩ := hB
  rw [ht] at hP1
  have hK1 := va_K.moved hvm.symm hK1
  obtain ⟨hP, hD⟩ := va_join (wr := [(h0, .inr (16, [v0, .ref h3, .ref h1, v1, v2, v3, v4, v5, v6, v7, v8, v9, v10, v11, v12, v13])), (h3, .inr (11, [v14, .int 0])), (h1, .inr (11, [.ref h2, .int 6])), (h2, .inl (cc0, 6, .inl (upd (upd (upd (upd (upd (upd (fun _ => 0) 0 x0) 1 x1) 2 x2) 3 x3) 4 x4) 5 x5)))]) (w1 := []) hP hD [] [0, 1, 2, 3] rfl rfl (by decide) (by decide) hk1 hFc hP1 hD1
  have hK := (hK.sub (tys' := [(cc0, .int)]) [0] rfl).app hK1
  generalize H1 = H at hP hS ⊢
  have hP : va_P (dC, dI) vwCl [(h0, .inr (16, [v0, .ref h3, .ref h1, v1, v2, v3, v4, v5, v6, v7, v8, v9, v10, v11, v12, v13])), (h3, .inr (11, [v14, .int 0])), (h1, .inr (11, [.ref h2, .int 6])), (h2, .inl (cc0, 6, .inl (upd (upd (upd (upd (upd (upd (fun _ => 0) 0 x0) 1 x1) 2 x2) 3 x3) 4 x4) 5 x5)))] H := hP
  have hD : va_D A [(h0, .inr (16, [v0, .ref h3, .ref h1, v1, v2, v3, v4, v5, v6, v7, v8, v9, v10, v11, v12, v13])), (h3, .inr (11, [v14, .int 0])), (h1, .inr (11, [.ref h2, .int 6])), (h2, .inl (cc0, 6, .inl (upd (upd (upd (upd (upd (upd (fun _ => 0) 0 x0) 1 x1) 2 x2) 3 x3) 4 x4) 5 x5)))] := hD
  have hK : va_K (dC, dI) vwCl [(cc0, .int)] s := hK
  refine W.widen (k := 0) (n := 0) (Nat.le_of_ble_eq_true rfl) (Nat.le_of_ble_eq_true rfl) ?_
  have r38 : (0 : Int) ≤ (ns_len (ns_len (ns_len (ns_len (ns_len 0 x0) x1) x2) x3) x4).toInt ∧ (ns_len (ns_len (ns_len (ns_len (ns_len 0 x0) x1) x2) x3) x4).toInt ≤ (5 : Int) := ns_len_rng (ns_len (ns_len (ns_len (ns_len 0 x0) x1) x2) x3) x4 4 5 ⟨(by omega), (by omega)⟩ (by decide) (by decide)
  refine lv_istore_n (lv' := [(1, .int (ns_len (ns_len (ns_len (ns_len (ns_len 0 x0) x1) x2) x3) x4)), (2, .int 4), (0, .ref h0)]) hx hb dX9_needCodes_88 rfl hl (by decide) rfl (fun ls hl => ?_)
  refine lv_iload_n hx hb dX9_needCodes_89 rfl (lv_at hl 0 rfl) ?_
  refine lv_bipush (v := 60) hx hb dX9_needCodes_90 (by decide) ?_
  refine lv_icmp_le (tgt := 106) hx hb dX9_needCodes_92 (by decide) (fun c39 => ?_) (fun c39 => absurd (show (ns_len (ns_len (ns_len (ns_len (ns_len 0 x0) x1) x2) x3) x4) ≤ (60 : Int32) from Int32.le_iff_toInt_le.mpr (show (ns_len (ns_len (ns_len (ns_len (ns_len 0 x0) x1) x2) x3) x4).toInt ≤ (60 : Int) by omega)) c39)
  refine lv_iinc (v := 5) (lv' := [(2, .int 5), (1, .int (ns_len (ns_len (ns_len (ns_len (ns_len 0 x0) x1) x2) x3) x4)), (0, .ref h0)]) hx hb dX9_needCodes_106 hl (k := 1) rfl (by decide) (by decide) rfl (fun ls hl => ?_)
  refine lv_goto (tgt := 65) hx hb dX9_needCodes_109 (by decide) ?_
  refine lv_iload_n hx hb dX9_needCodes_65 rfl (lv_at hl 0 rfl) ?_
  refine lv_aload_n hx hb dX9_needCodes_66 rfl (lv_at hl 2 rfl) ?_
  refine va_get (D := (dC, dI)) (ci := 16) (v := .ref h1) (C := RX9) (T := TX9) (N := 16) hx hb hta naX9 hown hK hP 0 rfl rfl 2 (by decide) (hta _ wm33) (fun _ h9 => h9) rfl dX9_needCodes_67 ?_
  have hPc := hP.sub (ws' := [(h1, .inr (11, [.ref h2, .int 6]))]) [2] rfl
  have hDc := hD.sub (ws' := [(h1, .inr (11, [.ref h2, .int 6]))]) [2] (by decide) rfl
  have hKc := hK.sub (tys' := []) [] rfl
  have hFc := va_free (wc := [(h1, .inr (11, [.ref h2, .int 6]))]) hD hS hA [2] rfl
  refine va_calli (va_runV (As := []) (rest := [.int 5]) ⟨hx, hb, hml, hown, hts⟩ (kX4_size_7 l dC dI g H.size h1 (.ref h2) ) (cwV 0 hts (ns_gp (List.forall_mem_cons.mpr ⟨wm549, (List.forall_mem_cons.mpr ⟨wm249, (List.forall_mem_cons.mpr ⟨wm250, (List.forall_mem_cons.mpr ⟨wm12, (fun _ h9 => nomatch h9)⟩)⟩)⟩)⟩) wm247) rfl rfl rfl (by decide +kernel) ⟨Nat.le_of_ble_eq_true rfl, Nat.le_of_ble_eq_true rfl⟩) ⟨fun a U gg mk q => by obtain ⟨q0, q1, qP, qK, qD, qF⟩ := q; exact ⟨q0, q1, qP, va_K.moved (u := U) (U := U.calling gg mk a) (Vm.Alike.refl U.vm) qK, qD, ns_same qF⟩, va_recv hK hP (ci := 11) (q0 := 2) rfl rfl, fun U hU hW => ⟨rfl, by rw [hU], by rw [hU]; exact hPc, va_K.moved hW.alike hKc, hDc.weaken (fun _ _ _ _ => trivial), ns_call hF hS hFc hU hW⟩⟩ rfl rfl hl.1 rfl (lv_room (Nat.le_of_ble_eq_true rfl)) dX9_needCodes_70 ⟨Nat.le_of_ble_eq_true rfl, Nat.le_of_ble_eq_true rfl⟩) hS (fun q _ h => hFc q h) hFc (fun r9 u t H1 locs ht hvm hw hB hz1 hk1 hS => ?_)
  obtain rfl := hw.symm
  obtain ⟨hP1, hK1, hD1⟩ := hB
  rw [ht] at hP1
  have hK1 := va_K.moved hvm.symm hK1
  obtain ⟨hP, hD⟩ := va_join (wr := [(h0, .inr (16, [v0, .ref h3, .ref h1, v1, v2, v3, v4, v5, v6, v7, v8, v9, v10, v11, v12, v13])), (h3, .inr (11, [v14, .int 0])), (h2, .inl (cc0, 6, .inl (upd (upd (upd (upd (upd (upd (fun _ => 0) 0 x0) 1 x1) 2 x2) 3 x3) 4 x4) 5 x5)))]) (w1 := [(h1, .inr (11, [.ref h2, .int 6]))]) hP hD [2] [0, 1, 3] rfl rfl (by decide) (by decide) hk1 hFc hP1 hD1
  have hK := (hK.sub (tys' := [(cc0, .int)]) [0] rfl).app hK1
  generalize H1 = H at hP hS ⊢
  have hP : va_P (dC, dI) vwCl [(h0, .inr (16, [v0, .ref h3, .ref h1, v1, v2, v3, v4, v5, v6, v7, v8, v9, v10, v11, v12, v13])), (h3, .inr (11, [v14, .int 0])), (h2, .inl (cc0, 6, .inl (upd (upd (upd (upd (upd (upd (fun _ => 0) 0 x0) 1 x1) 2 x2) 3 x3) 4 x4) 5 x5))), (h1, .inr (11, [.ref h2, .int 6]))] H := hP
  have hD : va_D A [(h0, .inr (16, [v0, .ref h3, .ref h1, v1, v2, v3, v4, v5, v6, v7, v8, v9, v10, v11, v12, v13])), (h3, .inr (11, [v14, .int 0])), (h2, .inl (cc0, 6, .inl (upd (upd (upd (upd (upd (upd (fun _ => 0) 0 x0) 1 x1) 2 x2) 3 x3) 4 x4) 5 x5))), (h1, .inr (11, [.ref h2, .int 6]))] := hD
  have hK : va_K (dC, dI) vwCl [(cc0, .int)] s := hK
  refine W.widen (k := 0) (n := 0) (Nat.le_of_ble_eq_true rfl) (Nat.le_of_ble_eq_true rfl) ?_
  refine lv_icmp_ge (tgt := 112) hx hb dX9_needCodes_73 (by decide) (fun c40 => absurd c40 (by decide)) (fun c40 => ?_)
  refine lv_iload_n hx hb dX9_needCodes_76 rfl (lv_at hl 1 rfl) ?_
  refine lv_aload_n hx hb dX9_needCodes_77 rfl (lv_at hl 2 rfl) ?_
  refine va_get (D := (dC, dI)) (ci := 16) (v := .ref h1) (C := RX9) (T := TX9) (N := 16) hx hb hta naX9 hown hK hP 0 rfl rfl 2 (by decide) (hta _ wm33) (fun _ h9 => h9) rfl dX9_needCodes_78 ?_
  refine lv_iload_n hx hb dX9_needCodes_81 rfl (lv_at hl 0 rfl) ?_
  have hPc := hP.sub (ws' := [(h1, .inr (11, [.ref h2, .int 6])), (h2, .inl (cc0, 6, .inl (upd (upd (upd (upd (upd (upd (fun _ => 0) 0 x0) 1 x1) 2 x2) 3 x3) 4 x4) 5 x5)))]) [3, 2] rfl
  have hDc := hD.sub (ws' := [(h1, .inr (11, [.ref h2, .int 6])), (h2, .inl (cc0, 6, .inl (upd (upd (upd (upd (upd (upd (fun _ => 0) 0 x0) 1 x1) 2 x2) 3 x3) 4 x4) 5 x5)))]) [3, 2] (by decide) rfl
  have hKc := hK.sub (tys' := [(cc0, .int)]) [0] rfl
  have hFc := va_free (wc := [(h1, .inr (11, [.ref h2, .int 6])), (h2, .inl (cc0, 6, .inl (upd (upd (upd (upd (upd (upd (fun _ => 0) 0 x0) 1 x1) 2 x2) 3 x3) 4 x4) 5 x5)))]) hD hS hA [3, 2] rfl
  refine va_calli (va_runV (As := [.int 5]) (rest := [.int (ns_len (ns_len (ns_len (ns_len (ns_len 0 x0) x1) x2) x3) x4)]) ⟨hx, hb, hml, hown, hts⟩ (kX4_get_27 l dC dI g H.size h1 h2 cc0 x0 x1 x2 x3 x4 x5 ⟨by omega, by omega⟩ ⟨by omega, by omega⟩ ⟨by omega, by omega⟩ ⟨by omega, by omega⟩ ⟨by omega, by omega⟩ ⟨by omega, by omega⟩) (cwV 1 hts (ns_gp (List.forall_mem_cons.mpr ⟨wm550, (List.forall_mem_cons.mpr ⟨wm551, (List.forall_mem_cons.mpr ⟨wm552, (List.forall_mem_cons.mpr ⟨wm12, (fun _ h9 => nomatch h9)⟩)⟩)⟩)⟩) wm548) rfl rfl rfl (by decide +kernel) ⟨Nat.le_of_ble_eq_true rfl, Nat.le_of_ble_eq_true rfl⟩) ⟨fun a U gg mk q => by obtain ⟨q0, q1, qP, qK, qD, qF⟩ := q; exact ⟨q0, q1, qP, va_K.moved (u := U) (U := U.calling gg mk a) (Vm.Alike.refl U.vm) qK, qD, ns_same qF⟩, va_recv hK hP (ci := 11) (q0 := 3) rfl rfl, fun U hU hW => ⟨rfl, by rw [hU], by rw [hU]; exact hPc, va_K.moved hW.alike hKc, hDc.weaken (fun _ _ _ _ => trivial), ns_call hF hS hFc hU hW⟩⟩ rfl rfl hl.1 rfl (lv_room (Nat.le_of_ble_eq_true rfl)) dX9_needCodes_82 ⟨Nat.le_of_ble_eq_true rfl, Nat.le_of_ble_eq_true rfl⟩) hS (fun q _ h => hFc q h) hFc (fun r9 u t H1 locs ht hvm hw hB hz1 hk1 hS => ?_)
  obtain rfl := hw.symm
  obtain ⟨hP1, hK1, hD1⟩ := hB
  rw [ht] at hP1
  have hK1 := va_K.moved hvm.symm hK1
  obtain ⟨hP, hD⟩ := va_join (wr := [(h0, .inr (16, [v0, .ref h3, .ref h1, v1, v2, v3, v4, v5, v6, v7, v8, v9, v10, v11, v12, v13])), (h3, .inr (11, [v14, .int 0]))]) (w1 := [(h1, .inr (11, [.ref h2, .int 6])), (h2, .inl (cc0, 6, .inl (upd (upd (upd (upd (upd (upd (fun _ => 0) 0 x0) 1 x1) 2 x2) 3 x3) 4 x4) 5 x5)))]) hP hD [3, 2] [0, 1] rfl rfl (by decide) (by decide) hk1 hFc hP1 hD1
  have hK := (hK.sub (tys' := []) [] rfl).app hK1
  generalize H1 = H at hP hS ⊢
  have hP : va_P (dC, dI) vwCl [(h0, .inr (16, [v0, .ref h3, .ref h1, v1, v2, v3, v4, v5, v6, v7, v8, v9, v10, v11, v12, v13])), (h3, .inr (11, [v14, .int 0])), (h1, .inr (11, [.ref h2, .int 6])), (h2, .inl (cc0, 6, .inl (upd (upd (upd (upd (upd (upd (fun _ => 0) 0 x0) 1 x1) 2 x2) 3 x3) 4 x4) 5 x5)))] H := hP
  have hD : va_D A [(h0, .inr (16, [v0, .ref h3, .ref h1, v1, v2, v3, v4, v5, v6, v7, v8, v9, v10, v11, v12, v13])), (h3, .inr (11, [v14, .int 0])), (h1, .inr (11, [.ref h2, .int 6])), (h2, .inl (cc0, 6, .inl (upd (upd (upd (upd (upd (upd (fun _ => 0) 0 x0) 1 x1) 2 x2) 3 x3) 4 x4) 5 x5)))] := hD
  have hK : va_K (dC, dI) vwCl [(cc0, .int)] s := hK
  refine W.widen (k := 0) (n := 0) (Nat.le_of_ble_eq_true rfl) (Nat.le_of_ble_eq_true rfl) ?_
  have hPc := hP.sub (ws' := []) [] rfl
  have hDc := hD.sub (ws' := []) [] (by decide) rfl
  have hKc := hK.sub (tys' := []) [] rfl
  have hFc := va_free (wc := []) hD hS hA [] rfl
  refine va_calli (va_runS (As := [.int (ns_len (ns_len (ns_len (ns_len (ns_len 0 x0) x1) x2) x3) x4), .int x5]) (rest := []) ⟨hx, hb, hml, hown, hts⟩ (kX9_lengthAfter_6 l dC dI g H.size (ns_len (ns_len (ns_len (ns_len (ns_len 0 x0) x1) x2) x3) x4) x5 ⟨by omega, by omega⟩ ⟨by omega, by omega⟩) (va_cwS 2 hts (ns_gp (List.forall_mem_cons.mpr ⟨wm566, (List.forall_mem_cons.mpr ⟨wm567, (List.forall_mem_cons.mpr ⟨wm2, (fun _ h9 => nomatch h9)⟩)⟩)⟩) wm565) rfl rfl rfl (by decide +kernel) ⟨Nat.le_of_ble_eq_true rfl, Nat.le_of_ble_eq_true rfl⟩) ⟨fun a U gg mk q => by obtain ⟨q0, q1, qP, qK, qD, qF⟩ := q; exact ⟨q0, q1, qP, va_K.moved (u := U) (U := U.calling gg mk a) (Vm.Alike.refl U.vm) qK, qD, ns_same qF⟩, fun U hU hW => ⟨rfl, by rw [hU], by rw [hU]; exact hPc, va_K.moved hW.alike hKc, hDc.weaken (fun _ _ _ _ => trivial), ns_call hF hS hFc hU hW⟩⟩ rfl rfl hl.1 rfl (lv_room (Nat.le_of_ble_eq_true rfl)) dX9_needCodes_85 ⟨Nat.le_of_ble_eq_true rfl, Nat.le_of_ble_eq_true rfl⟩) hS (fun q _ h => hFc q h) hFc (fun r9 u t H1 locs ht hvm hw hB hz1 hk1 hS => ?_)
  obtain rfl := hw.symm
  obtain ⟨hP1, hK1, hD1⟩ := hB
  rw [ht] at hP1
  have hK1 := va_K.moved hvm.symm hK1
  obtain ⟨hP, hD⟩ := va_join (wr := [(h0, .inr (16, [v0, .ref h3, .ref h1, v1, v2, v3, v4, v5, v6, v7, v8, v9, v10, v11, v12, v13])), (h3, .inr (11, [v14, .int 0])), (h1, .inr (11, [.ref h2, .int 6])), (h2, .inl (cc0, 6, .inl (upd (upd (upd (upd (upd (upd (fun _ => 0) 0 x0) 1 x1) 2 x2) 3 x3) 4 x4) 5 x5)))]) (w1 := []) hP hD [] [0, 1, 2, 3] rfl rfl (by decide) (by decide) hk1 hFc hP1 hD1
  have hK := (hK.sub (tys' := [(cc0, .int)]) [0] rfl).app hK1
  generalize H1 = H at hP hS ⊢
  have hP : va_P (dC, dI) vwCl [(h0, .inr (16, [v0, .ref h3, .ref h1, v1, v2, v3, v4, v5, v6, v7, v8, v9, v10, v11, v12, v13])), (h3, .inr (11, [v14, .int 0])), (h1, .inr (11, [.ref h2, .int 6])), (h2, .inl (cc0, 6, .inl (upd (upd (upd (upd (upd (upd (fun _ => 0) 0 x0) 1 x1) 2 x2) 3 x3) 4 x4) 5 x5)))] H := hP
  have hD : va_D A [(h0, .inr (16, [v0, .ref h3, .ref h1, v1, v2, v3, v4, v5, v6, v7, v8, v9, v10, v11, v12, v13])), (h3, .inr (11, [v14, .int 0])), (h1, .inr (11, [.ref h2, .int 6])), (h2, .inl (cc0, 6, .inl (upd (upd (upd (upd (upd (upd (fun _ => 0) 0 x0) 1 x1) 2 x2) 3 x3) 4 x4) 5 x5)))] := hD
  have hK : va_K (dC, dI) vwCl [(cc0, .int)] s := hK
  refine W.widen (k := 0) (n := 0) (Nat.le_of_ble_eq_true rfl) (Nat.le_of_ble_eq_true rfl) ?_
  have r42 : (0 : Int) ≤ (ns_len (ns_len (ns_len (ns_len (ns_len (ns_len 0 x0) x1) x2) x3) x4) x5).toInt ∧ (ns_len (ns_len (ns_len (ns_len (ns_len (ns_len 0 x0) x1) x2) x3) x4) x5).toInt ≤ (6 : Int) := ns_len_rng (ns_len (ns_len (ns_len (ns_len (ns_len 0 x0) x1) x2) x3) x4) x5 5 6 ⟨(by omega), (by omega)⟩ (by decide) (by decide)
  refine lv_istore_n (lv' := [(1, .int (ns_len (ns_len (ns_len (ns_len (ns_len (ns_len 0 x0) x1) x2) x3) x4) x5)), (2, .int 5), (0, .ref h0)]) hx hb dX9_needCodes_88 rfl hl (by decide) rfl (fun ls hl => ?_)
  refine lv_iload_n hx hb dX9_needCodes_89 rfl (lv_at hl 0 rfl) ?_
  refine lv_bipush (v := 60) hx hb dX9_needCodes_90 (by decide) ?_
  refine lv_icmp_le (tgt := 106) hx hb dX9_needCodes_92 (by decide) (fun c43 => ?_) (fun c43 => absurd (show (ns_len (ns_len (ns_len (ns_len (ns_len (ns_len 0 x0) x1) x2) x3) x4) x5) ≤ (60 : Int32) from Int32.le_iff_toInt_le.mpr (show (ns_len (ns_len (ns_len (ns_len (ns_len (ns_len 0 x0) x1) x2) x3) x4) x5).toInt ≤ (60 : Int) by omega)) c43)
  refine lv_iinc (v := 6) (lv' := [(2, .int 6), (1, .int (ns_len (ns_len (ns_len (ns_len (ns_len (ns_len 0 x0) x1) x2) x3) x4) x5)), (0, .ref h0)]) hx hb dX9_needCodes_106 hl (k := 1) rfl (by decide) (by decide) rfl (fun ls hl => ?_)
  refine lv_goto (tgt := 65) hx hb dX9_needCodes_109 (by decide) ?_
  refine lv_iload_n hx hb dX9_needCodes_65 rfl (lv_at hl 0 rfl) ?_
  refine lv_aload_n hx hb dX9_needCodes_66 rfl (lv_at hl 2 rfl) ?_
  refine va_get (D := (dC, dI)) (ci := 16) (v := .ref h1) (C := RX9) (T := TX9) (N := 16) hx hb hta naX9 hown hK hP 0 rfl rfl 2 (by decide) (hta _ wm33) (fun _ h9 => h9) rfl dX9_needCodes_67 ?_
  have hPc := hP.sub (ws' := [(h1, .inr (11, [.ref h2, .int 6]))]) [2] rfl
  have hDc := hD.sub (ws' := [(h1, .inr (11, [.ref h2, .int 6]))]) [2] (by decide) rfl
  have hKc := hK.sub (tys' := []) [] rfl
  have hFc := va_free (wc := [(h1, .inr (11, [.ref h2, .int 6]))]) hD hS hA [2] rfl
  refine va_calli (va_runV (As := []) (rest := [.int 6]) ⟨hx, hb, hml, hown, hts⟩ (kX4_size_7 l dC dI g H.size h1 (.ref h2) ) (cwV 0 hts (ns_gp (List.forall_mem_cons.mpr ⟨wm549, (List.forall_mem_cons.mpr ⟨wm249, (List.forall_mem_cons.mpr ⟨wm250, (List.forall_mem_cons.mpr ⟨wm12, (fun _ h9 => nomatch h9)⟩)⟩)⟩)⟩) wm247) rfl rfl rfl (by decide +kernel) ⟨Nat.le_of_ble_eq_true rfl, Nat.le_of_ble_eq_true rfl⟩) ⟨fun a U gg mk q => by obtain ⟨q0, q1, qP, qK, qD, qF⟩ := q; exact ⟨q0, q1, qP, va_K.moved (u := U) (U := U.calling gg mk a) (Vm.Alike.refl U.vm) qK, qD, ns_same qF⟩, va_recv hK hP (ci := 11) (q0 := 2) rfl rfl, fun U hU hW => ⟨rfl, by rw [hU], by rw [hU]; exact hPc, va_K.moved hW.alike hKc, hDc.weaken (fun _ _ _ _ => trivial), ns_call hF hS hFc hU hW⟩⟩ rfl rfl hl.1 rfl (lv_room (Nat.le_of_ble_eq_true rfl)) dX9_needCodes_70 ⟨Nat.le_of_ble_eq_true rfl, Nat.le_of_ble_eq_true rfl⟩) hS (fun q _ h => hFc q h) hFc (fun r9 u t H1 locs ht hvm hw hB hz1 hk1 hS => ?_)
  obtain rfl := hw.symm
  obtain ⟨hP1, hK1, hD1⟩ := hB
  rw [ht] at hP1
  have hK1 := va_K.moved hvm.symm hK1
  obtain ⟨hP, hD⟩ := va_join (wr := [(h0, .inr (16, [v0, .ref h3, .ref h1, v1, v2, v3, v4, v5, v6, v7, v8, v9, v10, v11, v12, v13])), (h3, .inr (11, [v14, .int 0])), (h2, .inl (cc0, 6, .inl (upd (upd (upd (upd (upd (upd (fun _ => 0) 0 x0) 1 x1) 2 x2) 3 x3) 4 x4) 5 x5)))]) (w1 := [(h1, .inr (11, [.ref h2, .int 6]))]) hP hD [2] [0, 1, 3] rfl rfl (by decide) (by decide) hk1 hFc hP1 hD1
  have hK := (hK.sub (tys' := [(cc0, .int)]) [0] rfl).app hK1
  generalize H1 = H at hP hS ⊢
  have hP : va_P (dC, dI) vwCl [(h0, .inr (16, [v0, .ref h3, .ref h1, v1, v2, v3, v4, v5, v6, v7, v8, v9, v10, v11, v12, v13])), (h3, .inr (11, [v14, .int 0])), (h2, .inl (cc0, 6, .inl (upd (upd (upd (upd (upd (upd (fun _ => 0) 0 x0) 1 x1) 2 x2) 3 x3) 4 x4) 5 x5))), (h1, .inr (11, [.ref h2, .int 6]))] H := hP
  have hD : va_D A [(h0, .inr (16, [v0, .ref h3, .ref h1, v1, v2, v3, v4, v5, v6, v7, v8, v9, v10, v11, v12, v13])), (h3, .inr (11, [v14, .int 0])), (h2, .inl (cc0, 6, .inl (upd (upd (upd (upd (upd (upd (fun _ => 0) 0 x0) 1 x1) 2 x2) 3 x3) 4 x4) 5 x5))), (h1, .inr (11, [.ref h2, .int 6]))] := hD
  have hK : va_K (dC, dI) vwCl [(cc0, .int)] s := hK
  refine W.widen (k := 0) (n := 0) (Nat.le_of_ble_eq_true rfl) (Nat.le_of_ble_eq_true rfl) ?_
  refine lv_icmp_ge (tgt := 112) hx hb dX9_needCodes_73 (by decide) (fun c44 => ?_) (fun c44 => absurd (by decide) c44)
  have hP9 := hP.sub (ws' := [(h0, .inr (16, [v0, .ref h3, .ref h1, v1, v2, v3, v4, v5, v6, v7, v8, v9, v10, v11, v12, v13])), (h3, .inr (11, [v14, .int 0])), (h2, .inl (cc0, 6, .inl (upd (upd (upd (upd (upd (upd (fun _ => 0) 0 x0) 1 x1) 2 x2) 3 x3) 4 x4) 5 x5))), (h1, .inr (11, [.ref h2, .int 6]))]) [0, 1, 2, 3] rfl
  have hD9 := hD.sub (ws' := [(h0, .inr (16, [v0, .ref h3, .ref h1, v1, v2, v3, v4, v5, v6, v7, v8, v9, v10, v11, v12, v13])), (h3, .inr (11, [v14, .int 0])), (h2, .inl (cc0, 6, .inl (upd (upd (upd (upd (upd (upd (fun _ => 0) 0 x0) 1 x1) 2 x2) 3 x3) 4 x4) 5 x5))), (h1, .inr (11, [.ref h2, .int 6]))]) [0, 1, 2, 3] (by decide) rfl
  have hK9 := hK.sub (tys' := [(cc0, .int)]) [0] rfl
  refine W.widen (k := 0) (n := 0) (Nat.le_of_ble_eq_true rfl) (Nat.le_of_ble_eq_true rfl) ?_
  exact W.vret hx hb hr (fun t ht hW => ⟨⟨(), rfl, trivial, by rw [ht]; exact hP9, va_K.moved hW.alike hK9, hD9⟩, hS.F ht⟩) hS.2.2 dX9_needCodes_112
set_option maxHeartbeats 4000000 in
set_option maxRecDepth 100000 in
theorem kL_word_31 (l : Launch) (dC : Nat → ClassId) (dI : Nat → Nat → Nat) (g : Nat → Nat) (sz : Nat) (h0 : Nat) (x0 : Int32) (h1 : Nat) (v0 : Value) (v1 : Value) (v2 : Value) (v3 : Value) (v4 : Value) (v5 : Value) (v6 : Value) (v7 : Value) (v8 : Value) (v9 : Value) (v10 : Value) (v11 : Value) (v12 : Value) (v13 : Value) (v14 : Value) (v15 : Value) (ex0 : (26 : Int) ≤ x0.toInt ∧ x0.toInt ≤ (2147483647 : Int)) (hlt : l.stackTraces = false) : Met l yL_word wbL_word ({ frames := 7, cells := 1, slots := 6, locals := 105 }) (va_Pc [.ref h0, .int x0, .int 8, .ref h1] (fun U => U.heap.size = sz ∧ va_P (dC, dI) vwCl [(h0, .inr (16, [v0, v1, v2, v3, v4, v5, v6, v7, v8, v9, v10, v11, v12, v13, v14, v15]))] U.heap ∧ va_K (dC, dI) vwCl [] U ∧ va_D (fun _ => True) [(h0, .inr (16, [v0, v1, v2, v3, v4, v5, v6, v7, v8, v9, v10, v11, v12, v13, v14, v15]))] ∧ ns_F g (va_A [(h0, .inr (16, [v0, v1, v2, v3, v4, v5, v6, v7, v8, v9, v10, v11, v12, v13, v14, v15]))] sz) U U.heap)) (va_Qi (fun (r : Int32) (_ : Unit) => r = 1) (fun _ t => va_P (dC, dI) vwCl [(h0, .inr (16, [v0, v1, v2, v3, v4, v5, v6, v7, v8, v9, v10, v11, v12, v13, v14, v15]))] t.heap ∧ va_K (dC, dI) vwCl [] t ∧ va_D (va_A [(h0, .inr (16, [v0, v1, v2, v3, v4, v5, v6, v7, v8, v9, v10, v11, v12, v13, v14, v15]))] sz) [(h0, .inr (16, [v0, v1, v2, v3, v4, v5, v6, v7, v8, v9, v10, v11, v12, v13, v14, v15]))]) (va_A [(h0, .inr (16, [v0, v1, v2, v3, v4, v5, v6, v7, v8, v9, v10, v11, v12, v13, v14, v15]))] sz)) 1 6 (va_A [(h0, .inr (16, [v0, v1, v2, v3, v4, v5, v6, v7, v8, v9, v10, v11, v12, v13, v14, v15]))] sz) := by
  refine va_MetW (cc := cL_word) (maxL := 5) (ret := (some .int)) (hh := [(0, 11, 14, 19), (0, 11, 18, 21)]) (by decide) rfl ?_
  intro p e s m args below meth c s₁ B hml hv
  obtain ⟨rfl, hsz, hP, hK, hD0, hF⟩ := hv
  have hx := B.exec
  have hb := B.bytes
  have hr := B.returns
  have hts := atoms_spec (ws := wbL_word) B.pre
  have hta : ∀ w ∈ wsALL, w.before _ s = true := fun w h => hts w (List.mem_cons_of_mem _ h)
  have hown : s.vm.findClass RL = some m.cls := findClass_of_methodNamed B.named
  have hlocks := B.notSynchronized
  have htab : c.exceptionTable.toList = [⟨0, 11, 14, 19⟩, ⟨0, 11, 18, 21⟩] := vx_table (x := yL_word) B (hts _ List.mem_cons_self)
  subst hsz
  have hD := hD0.self (sz := s.heap.size)
  generalize hAe : va_A [(h0, .inr (16, [v0, v1, v2, v3, v4, v5, v6, v7, v8, v9, v10, v11, v12, v13, v14, v15]))] s.heap.size = A at hD hF ⊢
  have hA : ∀ q : Nat, s.heap.size ≤ q → A q := fun q h => by rw [← hAe]; exact Or.inr h
  have hS : va_S A s.heap s.heap [] := va_S.rf
  have hP : va_P (dC, dI) vwCl [(h0, .inr (16, [v0, v1, v2, v3, v4, v5, v6, v7, v8, v9, v10, v11, v12, v13, v14, v15]))] s.heap := hP
  have hl := lv_entry ([.ref h0, .int x0, .int 8, .ref h1]) (n := 5) (Nat.le_of_ble_eq_true rfl)
  rw [lg_entry_eq]
  generalize (lg_sl ([.ref h0, .int x0, .int 8, .ref h1]) ++ List.replicate (5 - (lg_sl ([.ref h0, .int x0, .int 8, .ref h1])).length) Slot.unset).toArray = ls at hl ⊢
  have hl : lv_has ls 5 [(0, .ref h0), (1, .int x0), (2, .int 8), (3, .ref h1)] := hl
  refine lv_aload_n hx hb dL_word_0 rfl (lv_at hl 3 rfl) ?_
  refine lv_aload_n hx hb dL_word_1 rfl (lv_at hl 0 rfl) ?_
  refine lv_iload_n hx hb dL_word_2 rfl (lv_at hl 1 rfl) ?_
  refine lv_iload_n hx hb dL_word_3 rfl (lv_at hl 2 rfl) ?_
  have hPc := hP.sub (ws' := []) [] rfl
  have hDc := hD.sub (ws' := []) [] (by decide) rfl
  have hKc := hK.sub (tys' := []) [] rfl
  have hFc := va_free (wc := []) hD hS hA [] rfl
  refine vx_callv (vx_runV (As := [.int x0, .int 8]) (rest := [.ref h1]) ⟨hx, hb, hml, hown, hts⟩ (kX9_word_31 l dC dI g s.heap.size h0 x0 ⟨by omega, by omega⟩ hlt) (cwV 2 hts (ns_gp (List.forall_mem_cons.mpr ⟨wm229, (List.forall_mem_cons.mpr ⟨wm230, (List.forall_mem_cons.mpr ⟨wm231, (List.forall_mem_cons.mpr ⟨wm2, (fun _ h9 => nomatch h9)⟩)⟩)⟩)⟩) wm227) rfl rfl rfl (by decide +kernel) ⟨Nat.le_of_ble_eq_true rfl, Nat.le_of_ble_eq_true rfl⟩) ⟨fun a U gg mk q => by obtain ⟨q0, q1, qP, qK, qD, qF⟩ := q; exact ⟨q0, q1, qP, va_K.moved (u := U) (U := U.calling gg mk a) (Vm.Alike.refl U.vm) qK, qD, ns_same qF⟩, va_recv hK hP (ci := 16) (q0 := 0) rfl rfl, fun U hU hW => ⟨rfl, by rw [hU], by rw [hU]; exact hPc, va_K.moved hW.alike hKc, hDc.weaken (fun _ _ _ _ => trivial), ns_call hF hS hFc hU hW⟩⟩ rfl rfl hl.1 rfl (lv_room (Nat.le_of_ble_eq_true rfl)) dL_word_4 ⟨Nat.le_of_ble_eq_true rfl, Nat.le_of_ble_eq_true rfl⟩) hS (fun q _ h => hFc q h) hFc (fun q _ h => hFc q h) (fun E ce q9 u t H1 locs ht hvm hw hB hz1 hk1 hS hc1 hc2 hc3 => ?_) (fun _ _ _ _ _ _ hw _ _ _ _ => False.elim hw)
  obtain rfl : E = "java/lang/IllegalArgumentException" := hB
  obtain ⟨hP, hD⟩ := va_join (wr := [(h0, .inr (16, [v0, v1, v2, v3, v4, v5, v6, v7, v8, v9, v10, v11, v12, v13, v14, v15]))]) (w1 := []) hP hD [] [0] rfl rfl (by decide) (by decide) hk1 hFc (fun k q h => by simp at h) ⟨fun i j p q h => by simp at h, fun k q h => by simp at h⟩
  have hK := hK.sub (tys' := []) [] rfl
  generalize H1 = H at hP hS hc1 ⊢
  have hP : va_P (dC, dI) vwCl [(h0, .inr (16, [v0, v1, v2, v3, v4, v5, v6, v7, v8, v9, v10, v11, v12, v13, v14, v15]))] H := hP
  have hD : va_D A [(h0, .inr (16, [v0, v1, v2, v3, v4, v5, v6, v7, v8, v9, v10, v11, v12, v13, v14, v15]))] := hD
  have hK : va_K (dC, dI) vwCl [] s := hK
  refine vx_widen (k := 1) (n := 6) (Nat.le_of_ble_eq_true rfl) (Nat.le_of_ble_eq_true rfl) ?_
  refine vx_catch hown [] ⟨0, 11, 14, 19⟩ [⟨0, 11, 18, 21⟩] htab (fun z hz => by simp at hz) (by decide) (by decide) (hta _ wm228) (va_Nw.use rfl (ns_f11 hF)) hc1 hc2 hc3 ?_
  refine W.eq (g2 := F0 m 14 ls [.ref q9]) rfl ?_
  refine lv_astore (lv' := [(4, .ref q9), (0, .ref h0), (1, .int x0), (2, .int 8), (3, .ref h1)]) hx hb dL_word_14 hl (by decide) rfl (fun ls hl => ?_)
  refine lv_iconst (v := 1) hx hb dL_word_16 (by decide) ?_
  have hP9 := hP.sub (ws' := [(h0, .inr (16, [v0, v1, v2, v3, v4, v5, v6, v7, v8, v9, v10, v11, v12, v13, v14, v15]))]) [0] rfl
  have hD9 := hD.sub (ws' := [(h0, .inr (16, [v0, v1, v2, v3, v4, v5, v6, v7, v8, v9, v10, v11, v12, v13, v14, v15]))]) [0] (by decide) rfl
  have hK9 := hK.sub (tys' := []) [] rfl
  refine W.widen (k := 1) (n := 6) (Nat.le_of_ble_eq_true rfl) (Nat.le_of_ble_eq_true rfl) ?_
  exact W.iret (v := 1) hx hb hr (fun t ht hW => ⟨⟨_, (), rfl, rfl, by rw [ht]; exact hP9, va_K.moved hW.alike hK9, hD9⟩, hS.F ht⟩) hS.2.2 dL_word_17
set_option maxHeartbeats 4000000 in
set_option maxRecDepth 100000 in
theorem kL_ribbon_3 (l : Launch) (dC : Nat → ClassId) (dI : Nat → Nat → Nat) (g : Nat → Nat) (sz : Nat) (h0 : Nat) (x0 : Int32) (h1 : Nat) (v0 : Value) (v1 : Value) (v2 : Value) (v3 : Value) (v4 : Value) (v5 : Value) (v6 : Value) (v7 : Value) (v8 : Value) (v9 : Value) (v10 : Value) (v11 : Value) (v12 : Value) (v13 : Value) (v14 : Value) (v15 : Value) (ex0 : (61 : Int) ≤ x0.toInt ∧ x0.toInt ≤ (2147483647 : Int)) (hlt : l.stackTraces = false) : Met l yL_ribbon wbL_ribbon ({ frames := 7, cells := 1, slots := 6, locals := 104 }) (va_Pc [.ref h0, .int x0, .ref h1] (fun U => U.heap.size = sz ∧ va_P (dC, dI) vwCl [(h0, .inr (16, [v0, v1, v2, v3, v4, v5, v6, v7, v8, v9, v10, v11, v12, v13, v14, v15]))] U.heap ∧ va_K (dC, dI) vwCl [] U ∧ va_D (fun _ => True) [(h0, .inr (16, [v0, v1, v2, v3, v4, v5, v6, v7, v8, v9, v10, v11, v12, v13, v14, v15]))] ∧ ns_F g (va_A [(h0, .inr (16, [v0, v1, v2, v3, v4, v5, v6, v7, v8, v9, v10, v11, v12, v13, v14, v15]))] sz) U U.heap)) (va_Qi (fun (r : Int32) (_ : Unit) => r = 1) (fun _ t => va_P (dC, dI) vwCl [(h0, .inr (16, [v0, v1, v2, v3, v4, v5, v6, v7, v8, v9, v10, v11, v12, v13, v14, v15]))] t.heap ∧ va_K (dC, dI) vwCl [] t ∧ va_D (va_A [(h0, .inr (16, [v0, v1, v2, v3, v4, v5, v6, v7, v8, v9, v10, v11, v12, v13, v14, v15]))] sz) [(h0, .inr (16, [v0, v1, v2, v3, v4, v5, v6, v7, v8, v9, v10, v11, v12, v13, v14, v15]))]) (va_A [(h0, .inr (16, [v0, v1, v2, v3, v4, v5, v6, v7, v8, v9, v10, v11, v12, v13, v14, v15]))] sz)) 1 6 (va_A [(h0, .inr (16, [v0, v1, v2, v3, v4, v5, v6, v7, v8, v9, v10, v11, v12, v13, v14, v15]))] sz) := by
  refine va_MetW (cc := cL_ribbon) (maxL := 4) (ret := (some .int)) (hh := [(0, 10, 13, 19)]) (by decide) rfl ?_
  intro p e s m args below meth c s₁ B hml hv
  obtain ⟨rfl, hsz, hP, hK, hD0, hF⟩ := hv
  have hx := B.exec
  have hb := B.bytes
  have hr := B.returns
  have hts := atoms_spec (ws := wbL_ribbon) B.pre
  have hta : ∀ w ∈ wsALL, w.before _ s = true := fun w h => hts w (List.mem_cons_of_mem _ h)
  have hown : s.vm.findClass RL = some m.cls := findClass_of_methodNamed B.named
  have hlocks := B.notSynchronized
  have htab : c.exceptionTable.toList = [⟨0, 10, 13, 19⟩] := vx_table (x := yL_ribbon) B (hts _ List.mem_cons_self)
  subst hsz
  have hD := hD0.self (sz := s.heap.size)
  generalize hAe : va_A [(h0, .inr (16, [v0, v1, v2, v3, v4, v5, v6, v7, v8, v9, v10, v11, v12, v13, v14, v15]))] s.heap.size = A at hD hF ⊢
  have hA : ∀ q : Nat, s.heap.size ≤ q → A q := fun q h => by rw [← hAe]; exact Or.inr h
  have hS : va_S A s.heap s.heap [] := va_S.rf
  have hP : va_P (dC, dI) vwCl [(h0, .inr (16, [v0, v1, v2, v3, v4, v5, v6, v7, v8, v9, v10, v11, v12, v13, v14, v15]))] s.heap := hP
  have hl := lv_entry ([.ref h0, .int x0, .ref h1]) (n := 4) (Nat.le_of_ble_eq_true rfl)
  rw [lg_entry_eq]
  generalize (lg_sl ([.ref h0, .int x0, .ref h1]) ++ List.replicate (4 - (lg_sl ([.ref h0, .int x0, .ref h1])).length) Slot.unset).toArray = ls at hl ⊢
  have hl : lv_has ls 4 [(0, .ref h0), (1, .int x0), (2, .ref h1)] := hl
  refine lv_aload_n hx hb dL_ribbon_0 rfl (lv_at hl 2 rfl) ?_
  refine lv_aload_n hx hb dL_ribbon_1 rfl (lv_at hl 0 rfl) ?_
  refine lv_iload_n hx hb dL_ribbon_2 rfl (lv_at hl 1 rfl) ?_
  have hPc := hP.sub (ws' := []) [] rfl
  have hDc := hD.sub (ws' := []) [] (by decide) rfl
  have hKc := hK.sub (tys' := []) [] rfl
  have hFc := va_free (wc := []) hD hS hA [] rfl
  refine vx_callv (vx_runV (As := [.int x0]) (rest := [.ref h1]) ⟨hx, hb, hml, hown, hts⟩ (kX9_ribbon_3 l dC dI g s.heap.size h0 x0 ⟨by omega, by omega⟩ hlt) (cwV 1 hts (ns_gp (List.forall_mem_cons.mpr ⟨wm538, (List.forall_mem_cons.mpr ⟨wm539, (List.forall_mem_cons.mpr ⟨wm540, (List.forall_mem_cons.mpr ⟨wm2, (fun _ h9 => nomatch h9)⟩)⟩)⟩)⟩) wm537) rfl rfl rfl (by decide +kernel) ⟨Nat.le_of_ble_eq_true rfl, Nat.le_of_ble_eq_true rfl⟩) ⟨fun a U gg mk q => by obtain ⟨q0, q1, qP, qK, qD, qF⟩ := q; exact ⟨q0, q1, qP, va_K.moved (u := U) (U := U.calling gg mk a) (Vm.Alike.refl U.vm) qK, qD, ns_same qF⟩, va_recv hK hP (ci := 16) (q0 := 0) rfl rfl, fun U hU hW => ⟨rfl, by rw [hU], by rw [hU]; exact hPc, va_K.moved hW.alike hKc, hDc.weaken (fun _ _ _ _ => trivial), ns_call hF hS hFc hU hW⟩⟩ rfl rfl hl.1 rfl (lv_room (Nat.le_of_ble_eq_true rfl)) dL_ribbon_3 ⟨Nat.le_of_ble_eq_true rfl, Nat.le_of_ble_eq_true rfl⟩) hS (fun q _ h => hFc q h) hFc (fun q _ h => hFc q h) (fun E ce q9 u t H1 locs ht hvm hw hB hz1 hk1 hS hc1 hc2 hc3 => ?_) (fun _ _ _ _ _ _ hw _ _ _ _ => False.elim hw)
  obtain rfl : E = "java/lang/IllegalArgumentException" := hB
  obtain ⟨hP, hD⟩ := va_join (wr := [(h0, .inr (16, [v0, v1, v2, v3, v4, v5, v6, v7, v8, v9, v10, v11, v12, v13, v14, v15]))]) (w1 := []) hP hD [] [0] rfl rfl (by decide) (by decide) hk1 hFc (fun k q h => by simp at h) ⟨fun i j p q h => by simp at h, fun k q h => by simp at h⟩
  have hK := hK.sub (tys' := []) [] rfl
  generalize H1 = H at hP hS hc1 ⊢
  have hP : va_P (dC, dI) vwCl [(h0, .inr (16, [v0, v1, v2, v3, v4, v5, v6, v7, v8, v9, v10, v11, v12, v13, v14, v15]))] H := hP
  have hD : va_D A [(h0, .inr (16, [v0, v1, v2, v3, v4, v5, v6, v7, v8, v9, v10, v11, v12, v13, v14, v15]))] := hD
  have hK : va_K (dC, dI) vwCl [] s := hK
  refine vx_widen (k := 1) (n := 6) (Nat.le_of_ble_eq_true rfl) (Nat.le_of_ble_eq_true rfl) ?_
  refine vx_catch hown [] ⟨0, 10, 13, 19⟩ [] htab (fun z hz => by simp at hz) (by decide) (by decide) (hta _ wm228) (va_Nw.use rfl (ns_f11 hF)) hc1 hc2 hc3 ?_
  refine W.eq (g2 := F0 m 13 ls [.ref q9]) rfl ?_
  refine lv_astore_n (lv' := [(3, .ref q9), (0, .ref h0), (1, .int x0), (2, .ref h1)]) hx hb dL_ribbon_13 rfl hl (by decide) rfl (fun ls hl => ?_)
  refine lv_iconst (v := 1) hx hb dL_ribbon_14 (by decide) ?_
  have hP9 := hP.sub (ws' := [(h0, .inr (16, [v0, v1, v2, v3, v4, v5, v6, v7, v8, v9, v10, v11, v12, v13, v14, v15]))]) [0] rfl
  have hD9 := hD.sub (ws' := [(h0, .inr (16, [v0, v1, v2, v3, v4, v5, v6, v7, v8, v9, v10, v11, v12, v13, v14, v15]))]) [0] (by decide) rfl
  have hK9 := hK.sub (tys' := []) [] rfl
  refine W.widen (k := 1) (n := 6) (Nat.le_of_ble_eq_true rfl) (Nat.le_of_ble_eq_true rfl) ?_
  exact W.iret (v := 1) hx hb hr (fun t ht hW => ⟨⟨_, (), rfl, rfl, by rw [ht]; exact hP9, va_K.moved hW.alike hK9, hD9⟩, hS.F ht⟩) hS.2.2 dL_ribbon_15
set_option maxHeartbeats 4000000 in
set_option maxRecDepth 100000 in
theorem kX16_isFull (l : Launch) (dC : Nat → ClassId) (dI : Nat → Nat → Nat) (g : Nat → Nat) (sz : Nat) (h0 : Nat) (h1 : Nat) (v0 : Value) (v1 : Value) (v2 : Value) (v3 : Value) (v4 : Value) (v5 : Value) (v6 : Value) (v7 : Value) (v8 : Value) (v9 : Value) : Met l yX16_isFull wbX16_isFull ({ frames := 1, cells := 0, slots := 0, locals := 20 }) (va_Pc [.ref h0] (fun U => U.heap.size = sz ∧ va_P (dC, dI) vwCl [(h0, .inr (23, [v0, .ref h1, v1, v2, v3, v4, v5, v6, v7])), (h1, .inr (6, [v8, v9, .int 0]))] U.heap ∧ va_K (dC, dI) vwCl [] U ∧ va_D (fun _ => True) [(h0, .inr (23, [v0, .ref h1, v1, v2, v3, v4, v5, v6, v7])), (h1, .inr (6, [v8, v9, .int 0]))] ∧ ns_F g (va_A [(h0, .inr (23, [v0, .ref h1, v1, v2, v3, v4, v5, v6, v7])), (h1, .inr (6, [v8, v9, .int 0]))] sz) U U.heap)) (va_Qi (fun (r : Int32) (_ : Unit) => r = 0) (fun _ t => va_P (dC, dI) vwCl [(h0, .inr (23, [v0, .ref h1, v1, v2, v3, v4, v5, v6, v7])), (h1, .inr (6, [v8, v9, .int 0]))] t.heap ∧ va_K (dC, dI) vwCl [] t ∧ va_D (va_A [(h0, .inr (23, [v0, .ref h1, v1, v2, v3, v4, v5, v6, v7])), (h1, .inr (6, [v8, v9, .int 0]))] sz) [(h0, .inr (23, [v0, .ref h1, v1, v2, v3, v4, v5, v6, v7])), (h1, .inr (6, [v8, v9, .int 0]))]) (va_A [(h0, .inr (23, [v0, .ref h1, v1, v2, v3, v4, v5, v6, v7])), (h1, .inr (6, [v8, v9, .int 0]))] sz)) 0 0 (va_A [(h0, .inr (23, [v0, .ref h1, v1, v2, v3, v4, v5, v6, v7])), (h1, .inr (6, [v8, v9, .int 0]))] sz) := by
  refine Met.ofW (cc := cX16_isFull) (maxL := 1) (ret := (some .boolean)) (by decide) rfl ?_
  intro p e s m args below meth c s₁ B hml hv
  obtain ⟨rfl, hsz, hP, hK, hD0, hF⟩ := hv
  have hx := B.exec
  have hb := B.bytes
  have hr := B.returns
  have hts := atoms_spec (ws := wbX16_isFull) B.pre
  have hta : ∀ w ∈ wsALL, w.before _ s = true := fun w h => hts w (List.mem_cons_of_mem _ h)
  have hown : s.vm.findClass RX16 = some m.cls := findClass_of_methodNamed B.named
  have hlocks := B.notSynchronized
  subst hsz
  have hD := hD0.self (sz := s.heap.size)
  generalize hAe : va_A [(h0, .inr (23, [v0, .ref h1, v1, v2, v3, v4, v5, v6, v7])), (h1, .inr (6, [v8, v9, .int 0]))] s.heap.size = A at hD hF ⊢
  have hA : ∀ q : Nat, s.heap.size ≤ q → A q := fun q h => by rw [← hAe]; exact Or.inr h
  have hS : va_S A s.heap s.heap [] := va_S.rf
  have hP : va_P (dC, dI) vwCl [(h0, .inr (23, [v0, .ref h1, v1, v2, v3, v4, v5, v6, v7])), (h1, .inr (6, [v8, v9, .int 0]))] s.heap := hP
  have hl := lv_entry ([.ref h0]) (n := 1) (Nat.le_of_ble_eq_true rfl)
  rw [lg_entry_eq]
  generalize (lg_sl ([.ref h0]) ++ List.replicate (1 - (lg_sl ([.ref h0])).length) Slot.unset).toArray = ls at hl ⊢
  have hl : lv_has ls 1 [(0, .ref h0)] := hl
  refine lv_aload_n hx hb dX16_isFull_0 rfl (lv_at hl 0 rfl) ?_
  refine va_get (D := (dC, dI)) (ci := 23) (v := .ref h1) (C := RX16) (T := TX16) (N := 9) hx hb hta naX16 hown hK hP 0 rfl rfl 1 (by decide) (hta _ wm210) (fun _ h9 => h9) rfl dX16_isFull_1 ?_
  have hPc := hP.sub (ws' := [(h1, .inr (6, [v8, v9, .int 0]))]) [1] rfl
  have hDc := hD.sub (ws' := [(h1, .inr (6, [v8, v9, .int 0]))]) [1] (by decide) rfl
  have hKc := hK.sub (tys' := []) [] rfl
  have hFc := va_free (wc := [(h1, .inr (6, [v8, v9, .int 0]))]) hD hS hA [1] rfl
  refine va_calli (va_runV (As := []) (rest := []) ⟨hx, hb, hml, hown, hts⟩ (kJx4a65c_size_8abf5 l dC dI g s.heap.size h1 v8 v9 ) (cwV 0 hts (ns_gp (List.forall_mem_cons.mpr ⟨wm285, (List.forall_mem_cons.mpr ⟨wm286, (List.forall_mem_cons.mpr ⟨wm287, (List.forall_mem_cons.mpr ⟨wm196, (fun _ h9 => nomatch h9)⟩)⟩)⟩)⟩) wm284) rfl rfl rfl (by decide +kernel) ⟨Nat.le_of_ble_eq_true rfl, Nat.le_of_ble_eq_true rfl⟩) ⟨fun a U gg mk q => by obtain ⟨q0, q1, qP, qK, qD, qF⟩ := q; exact ⟨q0, q1, qP, va_K.moved (u := U) (U := U.calling gg mk a) (Vm.Alike.refl U.vm) qK, qD, ns_same qF⟩, va_recv hK hP (ci := 6) (q0 := 1) rfl rfl, fun U hU hW => ⟨rfl, by rw [hU], by rw [hU]; exact hPc, va_K.moved hW.alike hKc, hDc.weaken (fun _ _ _ _ => trivial), ns_call hF hS hFc hU hW⟩⟩ rfl rfl hl.1 rfl (lv_room (Nat.le_of_ble_eq_true rfl)) dX16_isFull_4 ⟨Nat.le_of_ble_eq_true rfl, Nat.le_of_ble_eq_true rfl⟩) hS (fun q _ h => hFc q h) hFc (fun r9 u t H1 locs ht hvm hw hB hz1 hk1 hS => ?_)
  obtain rfl := hw.symm
  obtain ⟨hP1, hK1, hD1⟩ := hB
  rw [ht] at hP1
  have hK1 := va_K.moved hvm.symm hK1
  obtain ⟨hP, hD⟩ := va_join (wr := [(h0, .inr (23, [v0, .ref h1, v1, v2, v3, v4, v5, v6, v7]))]) (w1 := [(h1, .inr (6, [v8, v9, .int 0]))]) hP hD [1] [0] rfl rfl (by decide) (by decide) hk1 hFc hP1 hD1
  have hK := (hK.sub (tys' := []) [] rfl).app hK1
  generalize H1 = H at hP hS ⊢
  have hP : va_P (dC, dI) vwCl [(h0, .inr (23, [v0, .ref h1, v1, v2, v3, v4, v5, v6, v7])), (h1, .inr (6, [v8, v9, .int 0]))] H := hP
  have hD : va_D A [(h0, .inr (23, [v0, .ref h1, v1, v2, v3, v4, v5, v6, v7])), (h1, .inr (6, [v8, v9, .int 0]))] := hD
  have hK : va_K (dC, dI) vwCl [] s := hK
  refine W.widen (k := 0) (n := 0) (Nat.le_of_ble_eq_true rfl) (Nat.le_of_ble_eq_true rfl) ?_
  refine lv_bipush (v := 80) hx hb dX16_isFull_7 (by decide) ?_
  refine lv_icmp_ne (tgt := 16) hx hb dX16_isFull_9 (by decide) (fun c1 => ?_) (fun c1 => absurd c1 (by decide))
  refine lv_iconst (v := 0) hx hb dX16_isFull_16 (by decide) ?_
  have hP9 := hP.sub (ws' := [(h0, .inr (23, [v0, .ref h1, v1, v2, v3, v4, v5, v6, v7])), (h1, .inr (6, [v8, v9, .int 0]))]) [0, 1] rfl
  have hD9 := hD.sub (ws' := [(h0, .inr (23, [v0, .ref h1, v1, v2, v3, v4, v5, v6, v7])), (h1, .inr (6, [v8, v9, .int 0]))]) [0, 1] (by decide) rfl
  have hK9 := hK.sub (tys' := []) [] rfl
  refine W.widen (k := 0) (n := 0) (Nat.le_of_ble_eq_true rfl) (Nat.le_of_ble_eq_true rfl) ?_
  exact W.zret (v := 0) hx hb hr (by decide) (fun t ht hW => ⟨⟨_, (), rfl, rfl, by rw [ht]; exact hP9, va_K.moved hW.alike hK9, hD9⟩, hS.F ht⟩) hS.2.2 dX16_isFull_17
set_option maxHeartbeats 4000000 in
set_option maxRecDepth 100000 in
theorem kJxc12de_init_da8c8 (l : Launch) (dC : Nat → ClassId) (dI : Nat → Nat → Nat) (g : Nat → Nat) (sz : Nat) (h0 : Nat) (v0 : Value) (v1 : Value) (v2 : Value) : Met l yJxc12de_init_da8c8 wbJxc12de_init_da8c8 ({ frames := 2, cells := 0, slots := 0, locals := 32 }) (va_Pc [.ref h0] (fun U => U.heap.size = sz ∧ va_P (dC, dI) vwCl [(h0, .inr (6, [v0, v1, v2]))] U.heap ∧ va_K (dC, dI) vwCl [] U ∧ va_D (fun _ => True) [(h0, .inr (6, [v0, v1, v2]))] ∧ ns_F g (va_A [(h0, .inr (6, [v0, v1, v2]))] sz) U U.heap)) (va_Qv (fun _ : Unit => True) (fun _ t => va_P (dC, dI) vwCl [(h0, .inr (6, [.int 0, v1, v2]))] t.heap ∧ va_K (dC, dI) vwCl [] t ∧ va_D (va_A [(h0, .inr (6, [v0, v1, v2]))] sz) [(h0, .inr (6, [.int 0, v1, v2]))]) (va_A [(h0, .inr (6, [v0, v1, v2]))] sz)) 0 0 (va_A [(h0, .inr (6, [v0, v1, v2]))] sz) := by
  refine Met.ofW (cc := cJxc12de_init_da8c8) (maxL := 1) (ret := none) (by decide) rfl ?_
  intro p e s m args below meth c s₁ B hml hv
  obtain ⟨rfl, hsz, hP, hK, hD0, hF⟩ := hv
  have hx := B.exec
  have hb := B.bytes
  have hr := B.returns
  have hts := atoms_spec (ws := wbJxc12de_init_da8c8) B.pre
  have hta : ∀ w ∈ wsALL, w.before _ s = true := fun w h => hts w (List.mem_cons_of_mem _ h)
  have hown : s.vm.findClass RJxc12de = some m.cls := findClass_of_methodNamed B.named
  have hlocks := B.notSynchronized
  have hin : meth.name = "<init>" := (name_of_methodNamed B.named B.method).1
  subst hsz
  have hD := hD0.self (sz := s.heap.size)
  generalize hAe : va_A [(h0, .inr (6, [v0, v1, v2]))] s.heap.size = A at hD hF ⊢
  have hA : ∀ q : Nat, s.heap.size ≤ q → A q := fun q h => by rw [← hAe]; exact Or.inr h
  have hS : va_S A s.heap s.heap [] := va_S.rf
  have hP : va_P (dC, dI) vwCl [(h0, .inr (6, [v0, v1, v2]))] s.heap := hP
  have hl := lv_entry ([.ref h0]) (n := 1) (Nat.le_of_ble_eq_true rfl)
  rw [lg_entry_eq]
  generalize (lg_sl ([.ref h0]) ++ List.replicate (1 - (lg_sl ([.ref h0])).length) Slot.unset).toArray = ls at hl ⊢
  have hl : lv_has ls 1 [(0, .ref h0)] := hl
  refine lv_aload_n hx hb dJxc12de_init_da8c8_0 rfl (lv_at hl 0 rfl) ?_
  have hPc := hP.sub (ws' := []) [] rfl
  have hDc := hD.sub (ws' := []) [] (by decide) rfl
  have hKc := hK.sub (tys' := []) [] rfl
  have hFc := va_free (wc := []) hD hS hA [] rfl
  refine va_callv (va_runI (As := []) (rest := []) ⟨hx, hb, hml, hown, hts⟩ (kJxa1e45_init_da8c8 l dC dI g s.heap.size h0 ) (cwI 0 hts (ns_g0 wm198) rfl rfl rfl (hta _ wm200) (hta _ wm201) (hta _ wm202) rfl (by decide +kernel) ⟨Nat.le_of_ble_eq_true rfl, Nat.le_of_ble_eq_true rfl⟩) ⟨fun a U gg mk q => by obtain ⟨q0, q1, qP, qK, qD, qF⟩ := q; exact ⟨q0, q1, qP, va_K.moved (u := U) (U := U.calling gg mk a) (Vm.Alike.refl U.vm) qK, qD, ns_same qF⟩, fun U hU hW => ⟨rfl, by rw [hU], by rw [hU]; exact hPc, va_K.moved hW.alike hKc, hDc.weaken (fun _ _ _ _ => trivial), ns_call hF hS hFc hU hW⟩⟩ rfl rfl hl.1 rfl (lv_room (Nat.le_of_ble_eq_true rfl)) dJxc12de_init_da8c8_1 ⟨Nat.le_of_ble_eq_true rfl, Nat.le_of_ble_eq_true rfl⟩) hS (fun q _ h => hFc q h) hFc (fun u t H1 locs ht hvm hw hB hz1 hk1 hS => ?_)
  obtain ⟨hP1, hK1, hD1⟩ := hB
  rw [ht] at hP1
  have hK1 := va_K.moved hvm.symm hK1
  obtain ⟨hP, hD⟩ := va_join (wr := [(h0, .inr (6, [v0, v1, v2]))]) (w1 := []) hP hD [] [0] rfl rfl (by decide) (by decide) hk1 hFc hP1 hD1
  have hK := (hK.sub (tys' := []) [] rfl).app hK1
  generalize H1 = H at hP hS ⊢
  have hP : va_P (dC, dI) vwCl [(h0, .inr (6, [v0, v1, v2]))] H := hP
  have hD : va_D A [(h0, .inr (6, [v0, v1, v2]))] := hD
  have hK : va_K (dC, dI) vwCl [] s := hK
  refine W.widen (k := 0) (n := 0) (Nat.le_of_ble_eq_true rfl) (Nat.le_of_ble_eq_true rfl) ?_
  refine lv_aload_n hx hb dJxc12de_init_da8c8_4 rfl (lv_at hl 0 rfl) ?_
  refine lv_iconst (v := 0) hx hb dJxc12de_init_da8c8_5 (by decide) ?_
  refine va_put (D := (dC, dI)) (ci := 6) (v := .int 0) (ty := .int) (C := RJx4a65c) (T := TJx4a65c) (N := 3) hx hb hta naJx4a65c tyJx4a65c tyJx4a65c_ok nmJx4a65c hown hK hP hD hS 0 rfl rfl 0 (by decide) (hta _ wm199) (fun _ h9 => h9) rfl (by decide +kernel) rfl rfl (Nat.le_of_ble_eq_true rfl) dJxc12de_init_da8c8_6 (fun H locs hP hD hS => ?_)
  have hP : va_P (dC, dI) vwCl [(h0, .inr (6, [.int 0, v1, v2]))] H := hP
  have hD : va_D A [(h0, .inr (6, [.int 0, v1, v2]))] := hD
  have hP9 := hP.sub (ws' := [(h0, .inr (6, [.int 0, v1, v2]))]) [0] rfl
  have hD9 := hD.sub (ws' := [(h0, .inr (6, [.int 0, v1, v2]))]) [0] (by decide) rfl
  have hK9 := hK.sub (tys' := []) [] rfl
  refine W.widen (k := 0) (n := 0) (Nat.le_of_ble_eq_true rfl) (Nat.le_of_ble_eq_true rfl) ?_
  exact W.vret hx hb hr (fun t ht hW => ⟨⟨(), rfl, trivial, by rw [ht]; exact hP9, va_K.moved hW.alike hK9, hD9⟩, hS.F ht⟩) hS.2.2 dJxc12de_init_da8c8_9
set_option maxHeartbeats 4000000 in
set_option maxRecDepth 100000 in
theorem kJ4_length_8abf5_6 (l : Launch) (dC : Nat → ClassId) (dI : Nat → Nat → Nat) (g : Nat → Nat) (sz : Nat) (h0 : Nat) (v0 : Value) (v1 : Value) (v2 : Value) : Met l yJ4_length_8abf5 wbJ4_length_8abf5 ({ frames := 1, cells := 0, slots := 0, locals := 20 }) (va_Pc [.ref h0] (fun U => U.heap.size = sz ∧ va_P (dC, dI) vwCl [(h0, .inr (1, [v0, v1, v2, .int 6]))] U.heap ∧ va_K (dC, dI) vwCl [] U ∧ va_D (fun _ => True) [(h0, .inr (1, [v0, v1, v2, .int 6]))] ∧ ns_F g (va_A [(h0, .inr (1, [v0, v1, v2, .int 6]))] sz) U U.heap)) (va_Qi (fun (r : Int32) (_ : Unit) => r = 6) (fun _ t => va_P (dC, dI) vwCl [(h0, .inr (1, [v0, v1, v2, .int 6]))] t.heap ∧ va_K (dC, dI) vwCl [] t ∧ va_D (va_A [(h0, .inr (1, [v0, v1, v2, .int 6]))] sz) [(h0, .inr (1, [v0, v1, v2, .int 6]))]) (va_A [(h0, .inr (1, [v0, v1, v2, .int 6]))] sz)) 0 0 (va_A [(h0, .inr (1, [v0, v1, v2, .int 6]))] sz) := by
  refine Met.ofW (cc := cJ4_length_8abf5) (maxL := 1) (ret := (some .int)) (by decide) rfl ?_
  intro p e s m args below meth c s₁ B hml hv
  obtain ⟨rfl, hsz, hP, hK, hD0, hF⟩ := hv
  have hx := B.exec
  have hb := B.bytes
  have hr := B.returns
  have hts := atoms_spec (ws := wbJ4_length_8abf5) B.pre
  have hta : ∀ w ∈ wsALL, w.before _ s = true := fun w h => hts w (List.mem_cons_of_mem _ h)
  have hown : s.vm.findClass RJ4 = some m.cls := findClass_of_methodNamed B.named
  have hlocks := B.notSynchronized
  subst hsz
  have hD := hD0.self (sz := s.heap.size)
  generalize hAe : va_A [(h0, .inr (1, [v0, v1, v2, .int 6]))] s.heap.size = A at hD hF ⊢
  have hA : ∀ q : Nat, s.heap.size ≤ q → A q := fun q h => by rw [← hAe]; exact Or.inr h
  have hS : va_S A s.heap s.heap [] := va_S.rf
  have hP : va_P (dC, dI) vwCl [(h0, .inr (1, [v0, v1, v2, .int 6]))] s.heap := hP
  have hl := lv_entry ([.ref h0]) (n := 1) (Nat.le_of_ble_eq_true rfl)
  rw [lg_entry_eq]
  generalize (lg_sl ([.ref h0]) ++ List.replicate (1 - (lg_sl ([.ref h0])).length) Slot.unset).toArray = ls at hl ⊢
  have hl : lv_has ls 1 [(0, .ref h0)] := hl
  refine lv_aload_n hx hb dJ4_length_8abf5_0 rfl (lv_at hl 0 rfl) ?_
  have hPc := hP.sub (ws' := [(h0, .inr (1, [v0, v1, v2, .int 6]))]) [0] rfl
  have hDc := hD.sub (ws' := [(h0, .inr (1, [v0, v1, v2, .int 6]))]) [0] (by decide) rfl
  have hKc := hK.sub (tys' := []) [] rfl
  have hFc := va_free (wc := [(h0, .inr (1, [v0, v1, v2, .int 6]))]) hD hS hA [0] rfl
  refine va_calli (va_runSU (hK.1 1 _ rfl).2 (As := []) (rest := []) ⟨hx, hb, hml, hown, hts⟩ (kJ5_length_8abf5_6 l dC dI g s.heap.size h0 v0 v1 v2 ) (va_cwSU 0 hts (ns_gp (List.forall_mem_cons.mpr ⟨wm320, (List.forall_mem_cons.mpr ⟨wm321, (List.forall_mem_cons.mpr ⟨wm308, (List.forall_mem_cons.mpr ⟨wm322, (List.forall_mem_cons.mpr ⟨wm144, (fun _ h9 => nomatch h9)⟩)⟩)⟩)⟩)⟩) wm319) rfl rfl rfl (by decide +kernel) ⟨Nat.le_of_ble_eq_true rfl, Nat.le_of_ble_eq_true rfl⟩) ⟨fun a U gg mk q => by obtain ⟨q0, q1, qP, qK, qD, qF⟩ := q; exact ⟨q0, q1, qP, va_K.moved (u := U) (U := U.calling gg mk a) (Vm.Alike.refl U.vm) qK, qD, ns_same qF⟩, va_recv hK hP (ci := 1) (q0 := 0) rfl rfl, fun U hU hW => ⟨rfl, by rw [hU], by rw [hU]; exact hPc, va_K.moved hW.alike hKc, hDc.weaken (fun _ _ _ _ => trivial), ns_call hF hS hFc hU hW⟩⟩ rfl rfl hl.1 rfl (lv_room (Nat.le_of_ble_eq_true rfl)) dJ4_length_8abf5_1 ⟨Nat.le_of_ble_eq_true rfl, Nat.le_of_ble_eq_true rfl⟩) hS (fun q _ h => hFc q h) hFc (fun r9 u t H1 locs ht hvm hw hB hz1 hk1 hS => ?_)
  obtain rfl := hw.symm
  obtain ⟨hP1, hK1, hD1⟩ := hB
  rw [ht] at hP1
  have hK1 := va_K.moved hvm.symm hK1
  obtain ⟨hP, hD⟩ := va_join (wr := []) (w1 := [(h0, .inr (1, [v0, v1, v2, .int 6]))]) hP hD [0] [] rfl rfl (by decide) (by decide) hk1 hFc hP1 hD1
  have hK := (hK.sub (tys' := []) [] rfl).app hK1
  generalize H1 = H at hP hS ⊢
  have hP : va_P (dC, dI) vwCl [(h0, .inr (1, [v0, v1, v2, .int 6]))] H := hP
  have hD : va_D A [(h0, .inr (1, [v0, v1, v2, .int 6]))] := hD
  have hK : va_K (dC, dI) vwCl [] s := hK
  refine W.widen (k := 0) (n := 0) (Nat.le_of_ble_eq_true rfl) (Nat.le_of_ble_eq_true rfl) ?_
  have hP9 := hP.sub (ws' := [(h0, .inr (1, [v0, v1, v2, .int 6]))]) [0] rfl
  have hD9 := hD.sub (ws' := [(h0, .inr (1, [v0, v1, v2, .int 6]))]) [0] (by decide) rfl
  have hK9 := hK.sub (tys' := []) [] rfl
  refine W.widen (k := 0) (n := 0) (Nat.le_of_ble_eq_true rfl) (Nat.le_of_ble_eq_true rfl) ?_
  exact W.iret (v := 6) hx hb hr (fun t ht hW => ⟨⟨_, (), rfl, rfl, by rw [ht]; exact hP9, va_K.moved hW.alike hK9, hD9⟩, hS.F ht⟩) hS.2.2 dJ4_length_8abf5_4

set_option maxHeartbeats 4000000 in
set_option maxRecDepth 100000 in
theorem kX9_needCodes_8 (l : Launch) (dC : Nat → ClassId) (dI : Nat → Nat → Nat) (g : Nat → Nat) (sz : Nat) (h0 : Nat) (h1 : Nat) (h2 : Nat) (v0 : Value) (v1 : Value) (v2 : Value) (v3 : Value) (v4 : Value) (v5 : Value) (v6 : Value) (v7 : Value) (v8 : Value) (v9 : Value) (v10 : Value) (v11 : Value) (v12 : Value) (v13 : Value) (v14 : Value) (cc0 : ClassId) (x0 : Int32) (x1 : Int32) (x2 : Int32) (x3 : Int32) (x4 : Int32) (x5 : Int32) (ex0 : (-1 : Int) ≤ x0.toInt ∧ x0.toInt ≤ (21 : Int)) (ex1 : (-1 : Int) ≤ x1.toInt ∧ x1.toInt ≤ (21 : Int)) (ex2 : (-1 : Int) ≤ x2.toInt ∧ x2.toInt ≤ (21 : Int)) (ex3 : (-1 : Int) ≤ x3.toInt ∧ x3.toInt ≤ (21 : Int)) (ex4 : (-1 : Int) ≤ x4.toInt ∧ x4.toInt ≤ (21 : Int)) (ex5 : (22 : Int) ≤ x5.toInt ∧ x5.toInt ≤ (2147483647 : Int)) (hlt : l.stackTraces = false) : vx_Met l yX9_needCodes wbX9_needCodes ({ frames := 6, cells := 1, slots := 6, locals := 82 }) (va_Pc [.ref h0] (fun U => U.heap.size = sz ∧ va_P (dC, dI) vwCl [(h0, .inr (16, [v0, v1, .ref h1, v2, v3, v4, v5, v6, v7, v8, v9, v10, v11, v12, v13, v14])), (h1, .inr (11, [.ref h2, .int 6])), (h2, .inl (cc0, 6, .inl (upd (upd (upd (upd (upd (upd (fun _ => 0) 0 x0) 1 x1) 2 x2) 3 x3) 4 x4) 5 x5)))] U.heap ∧ va_K (dC, dI) vwCl [(cc0, .int)] U ∧ va_D (fun _ => True) [(h0, .inr (16, [v0, v1, .ref h1, v2, v3, v4, v5, v6, v7, v8, v9, v10, v11, v12, v13, v14])), (h1, .inr (11, [.ref h2, .int 6])), (h2, .inl (cc0, 6, .inl (upd (upd (upd (upd (upd (upd (fun _ => 0) 0 x0) 1 x1) 2 x2) 3 x3) 4 x4) 5 x5)))] ∧ ns_F g (va_A [(h0, .inr (16, [v0, v1, .ref h1, v2, v3, v4, v5, v6, v7, v8, v9, v10, v11, v12, v13, v14])), (h1, .inr (11, [.ref h2, .int 6])), (h2, .inl (cc0, 6, .inl (upd (upd (upd (upd (upd (upd (fun _ => 0) 0 x0) 1 x1) 2 x2) 3 x3) 4 x4) 5 x5)))] sz) U U.heap)) (va_Qv (fun _ : Unit => False) (fun _ _ => True) (va_A [(h0, .inr (16, [v0, v1, .ref h1, v2, v3, v4, v5, v6, v7, v8, v9, v10, v11, v12, v13, v14])), (h1, .inr (11, [.ref h2, .int 6])), (h2, .inl (cc0, 6, .inl (upd (upd (upd (upd (upd (upd (fun _ => 0) 0 x0) 1 x1) 2 x2) 3 x3) 4 x4) 5 x5)))] sz)) (vx_X (fun _ : Unit => True) (fun E _ _ => E = "java/lang/IllegalArgumentException") (va_A [(h0, .inr (16, [v0, v1, .ref h1, v2, v3, v4, v5, v6, v7, v8, v9, v10, v11, v12, v13, v14])), (h1, .inr (11, [.ref h2, .int 6])), (h2, .inl (cc0, 6, .inl (upd (upd (upd (upd (upd (upd (fun _ => 0) 0 x0) 1 x1) 2 x2) 3 x3) 4 x4) 5 x5)))] sz)) 1 6 (va_A [(h0, .inr (16, [v0, v1, .ref h1, v2, v3, v4, v5, v6, v7, v8, v9, v10, v11, v12, v13, v14])), (h1, .inr (11, [.ref h2, .int 6])), (h2, .inl (cc0, 6, .inl (upd (upd (upd (upd (upd (upd (fun _ => 0) 0 x0) 1 x1) 2 x2) 3 x3) 4 x4) 5 x5)))] sz) := by
  refine vx_ofW (cc := cX9_needCodes) (maxL := 3) (ret := none) (by decide) rfl ?_
  intro p e s m args below meth c s₁ B hml hnox hv
  obtain ⟨rfl, hsz, hP, hK, hD0, hF⟩ := hv
  have hx := B.exec
  have hb := B.bytes
  have hr := B.returns
  have hts := atoms_spec (ws := wbX9_needCodes) B.pre
  have hta : ∀ w ∈ wsALL, w.before _ s = true := fun w h => hts w (List.mem_cons_of_mem _ h)
  have hown : s.vm.findClass RX9 = some m.cls := findClass_of_methodNamed B.named
  have hlocks := B.notSynchronized
  subst hsz
  have hD := hD0.self (sz := s.heap.size)
  generalize hAe : va_A [(h0, .inr (16, [v0, v1, .ref h1, v2, v3, v4, v5, v6, v7, v8, v9, v10, v11, v12, v13, v14])), (h1, .inr (11, [.ref h2, .int 6])), (h2, .inl (cc0, 6, .inl (upd (upd (upd (upd (upd (upd (fun _ => 0) 0 x0) 1 x1) 2 x2) 3 x3) 4 x4) 5 x5)))] s.heap.size = A at hD hF ⊢
  have hA : ∀ q : Nat, s.heap.size ≤ q → A q := fun q h => by rw [← hAe]; exact Or.inr h
  have hS : va_S A s.heap s.heap [] := va_S.rf
  have hP : va_P (dC, dI) vwCl [(h0, .inr (16, [v0, v1, .ref h1, v2, v3, v4, v5, v6, v7, v8, v9, v10, v11, v12, v13, v14])), (h1, .inr (11, [.ref h2, .int 6])), (h2, .inl (cc0, 6, .inl (upd (upd (upd (upd (upd (upd (fun _ => 0) 0 x0) 1 x1) 2 x2) 3 x3) 4 x4) 5 x5)))] s.heap := hP
  have hl := lv_entry ([.ref h0]) (n := 3) (Nat.le_of_ble_eq_true rfl)
  rw [lg_entry_eq]
  generalize (lg_sl ([.ref h0]) ++ List.replicate (3 - (lg_sl ([.ref h0])).length) Slot.unset).toArray = ls at hl ⊢
  have hl : lv_has ls 3 [(0, .ref h0)] := hl
  refine lv_iconst (v := 0) hx hb dX9_needCodes_0 (by decide) ?_
  refine lv_istore_n (lv' := [(1, .int 0), (0, .ref h0)]) hx hb dX9_needCodes_1 rfl hl (by decide) rfl (fun ls hl => ?_)
  refine lv_iload_n hx hb dX9_needCodes_2 rfl (lv_at hl 0 rfl) ?_
  refine lv_aload_n hx hb dX9_needCodes_3 rfl (lv_at hl 1 rfl) ?_
  refine va_get (D := (dC, dI)) (ci := 16) (v := .ref h1) (C := RX9) (T := TX9) (N := 16) hx hb hta naX9 hown hK hP 0 rfl rfl 2 (by decide) (hta _ wm33) (fun _ h9 => h9) rfl dX9_needCodes_4 ?_
  have hPc := hP.sub (ws' := [(h1, .inr (11, [.ref h2, .int 6]))]) [1] rfl
  have hDc := hD.sub (ws' := [(h1, .inr (11, [.ref h2, .int 6]))]) [1] (by decide) rfl
  have hKc := hK.sub (tys' := []) [] rfl
  have hFc := va_free (wc := [(h1, .inr (11, [.ref h2, .int 6]))]) hD hS hA [1] rfl
  refine va_calli (va_runV (As := []) (rest := [.int 0]) ⟨hx, hb, hml, hown, hts⟩ (kX4_size_7 l dC dI g s.heap.size h1 (.ref h2) ) (cwV 0 hts (ns_gp (List.forall_mem_cons.mpr ⟨wm549, (List.forall_mem_cons.mpr ⟨wm249, (List.forall_mem_cons.mpr ⟨wm250, (List.forall_mem_cons.mpr ⟨wm12, (fun _ h9 => nomatch h9)⟩)⟩)⟩)⟩) wm247) rfl rfl rfl (by decide +kernel) ⟨Nat.le_of_ble_eq_true rfl, Nat.le_of_ble_eq_true rfl⟩) ⟨fun a U gg mk q => by obtain ⟨q0, q1, qP, qK, qD, qF⟩ := q; exact ⟨q0, q1, qP, va_K.moved (u := U) (U := U.calling gg mk a) (Vm.Alike.refl U.vm) qK, qD, ns_same qF⟩, va_recv hK hP (ci := 11) (q0 := 1) rfl rfl, fun U hU hW => ⟨rfl, by rw [hU], by rw [hU]; exact hPc, va_K.moved hW.alike hKc, hDc.weaken (fun _ _ _ _ => trivial), ns_call hF hS hFc hU hW⟩⟩ rfl rfl hl.1 rfl (lv_room (Nat.le_of_ble_eq_true rfl)) dX9_needCodes_7 ⟨Nat.le_of_ble_eq_true rfl, Nat.le_of_ble_eq_true rfl⟩) hS (fun q _ h => hFc q h) hFc (fun r9 u t H1 locs ht hvm hw hB hz1 hk1 hS => ?_)
  obtain rfl := hw.symm
  obtain ⟨hP1, hK1, hD1⟩ := hB
  rw [ht] at hP1
  have hK1 := va_K.moved hvm.symm hK1
  obtain ⟨hP, hD⟩ := va_join (wr := [(h0, .inr (16, [v0, v1, .ref h1, v2, v3, v4, v5, v6, v7, v8, v9, v10, v11, v12, v13, v14])), (h2, .inl (cc0, 6, .inl (upd (upd (upd (upd (upd (upd (fun _ => 0) 0 x0) 1 x1) 2 x2) 3 x3) 4 x4) 5 x5)))]) (w1 := [(h1, .inr (11, [.ref h2, .int 6]))]) hP hD [1] [0, 2] rfl rfl (by decide) (by decide) hk1 hFc hP1 hD1
  have hK := (hK.sub (tys' := [(cc0, .int)]) [0] rfl).app hK1
  generalize H1 = H at hP hS ⊢
  have hP : va_P (dC, dI) vwCl [(h0, .inr (16, [v0, v1, .ref h1, v2, v3, v4, v5, v6, v7, v8, v9, v10, v11, v12, v13, v14])), (h2, .inl (cc0, 6, .inl (upd (upd (upd (upd (upd (upd (fun _ => 0) 0 x0) 1 x1) 2 x2) 3 x3) 4 x4) 5 x5))), (h1, .inr (11, [.ref h2, .int 6]))] H := hP
  have hD : va_D A [(h0, .inr (16, [v0, v1, .ref h1, v2, v3, v4, v5, v6, v7, v8, v9, v10, v11, v12, v13, v14])), (h2, .inl (cc0, 6, .inl (upd (upd (upd (upd (upd (upd (fun _ => 0) 0 x0) 1 x1) 2 x2) 3 x3) 4 x4) 5 x5))), (h1, .inr (11, [.ref h2, .int 6]))] := hD
  have hK : va_K (dC, dI) vwCl [(cc0, .int)] s := hK
  refine W.widen (k := 0) (n := 0) (Nat.le_of_ble_eq_true rfl) (Nat.le_of_ble_eq_true rfl) ?_
  refine lv_icmp_ge (tgt := 55) hx hb dX9_needCodes_10 (by decide) (fun c1 => absurd c1 (by decide)) (fun c1 => ?_)
  refine lv_aload_n hx hb dX9_needCodes_13 rfl (lv_at hl 1 rfl) ?_
  refine va_get (D := (dC, dI)) (ci := 16) (v := .ref h1) (C := RX9) (T := TX9) (N := 16) hx hb hta naX9 hown hK hP 0 rfl rfl 2 (by decide) (hta _ wm33) (fun _ h9 => h9) rfl dX9_needCodes_14 ?_
  refine lv_iload_n hx hb dX9_needCodes_17 rfl (lv_at hl 0 rfl) ?_
  have hPc := hP.sub (ws' := [(h1, .inr (11, [.ref h2, .int 6])), (h2, .inl (cc0, 6, .inl (upd (upd (upd (upd (upd (upd (fun _ => 0) 0 x0) 1 x1) 2 x2) 3 x3) 4 x4) 5 x5)))]) [2, 1] rfl
  have hDc := hD.sub (ws' := [(h1, .inr (11, [.ref h2, .int 6])), (h2, .inl (cc0, 6, .inl (upd (upd (upd (upd (upd (upd (fun _ => 0) 0 x0) 1 x1) 2 x2) 3 x3) 4 x4) 5 x5)))]) [2, 1] (by decide) rfl
  have hKc := hK.sub (tys' := [(cc0, .int)]) [0] rfl
  have hFc := va_free (wc := [(h1, .inr (11, [.ref h2, .int 6])), (h2, .inl (cc0, 6, .inl (upd (upd (upd (upd (upd (upd (fun _ => 0) 0 x0) 1 x1) 2 x2) 3 x3) 4 x4) 5 x5)))]) hD hS hA [2, 1] rfl
  refine va_calli (va_runV (As := [.int 0]) (rest := []) ⟨hx, hb, hml, hown, hts⟩ (kX4_get_28 l dC dI g H.size h1 h2 cc0 x0 x1 x2 x3 x4 x5 ⟨by omega, by omega⟩ ⟨by omega, by omega⟩ ⟨by omega, by omega⟩ ⟨by omega, by omega⟩ ⟨by omega, by omega⟩ ⟨by omega, by omega⟩) (cwV 1 hts (ns_gp (List.forall_mem_cons.mpr ⟨wm550, (List.forall_mem_cons.mpr ⟨wm551, (List.forall_mem_cons.mpr ⟨wm552, (List.forall_mem_cons.mpr ⟨wm12, (fun _ h9 => nomatch h9)⟩)⟩)⟩)⟩) wm548) rfl rfl rfl (by decide +kernel) ⟨Nat.le_of_ble_eq_true rfl, Nat.le_of_ble_eq_true rfl⟩) ⟨fun a U gg mk q => by obtain ⟨q0, q1, qP, qK, qD, qF⟩ := q; exact ⟨q0, q1, qP, va_K.moved (u := U) (U := U.calling gg mk a) (Vm.Alike.refl U.vm) qK, qD, ns_same qF⟩, va_recv hK hP (ci := 11) (q0 := 2) rfl rfl, fun U hU hW => ⟨rfl, by rw [hU], by rw [hU]; exact hPc, va_K.moved hW.alike hKc, hDc.weaken (fun _ _ _ _ => trivial), ns_call hF hS hFc hU hW⟩⟩ rfl rfl hl.1 rfl (lv_room (Nat.le_of_ble_eq_true rfl)) dX9_needCodes_18 ⟨Nat.le_of_ble_eq_true rfl, Nat.le_of_ble_eq_true rfl⟩) hS (fun q _ h => hFc q h) hFc (fun r9 u t H1 locs ht hvm hw hB hz1 hk1 hS => ?_)
  obtain rfl := hw.symm
  obtain ⟨hP1, hK1, hD1⟩ := hB
  rw [ht] at hP1
  have hK1 := va_K.moved hvm.symm hK1
  obtain ⟨hP, hD⟩ := va_join (wr := [(h0, .inr (16, [v0, v1, .ref h1, v2, v3, v4, v5, v6, v7, v8, v9, v10, v11, v12, v13, v14]))]) (w1 := [(h1, .inr (11, [.ref h2, .int 6])), (h2, .inl (cc0, 6, .inl (upd (upd (upd (upd (upd (upd (fun _ => 0) 0 x0) 1 x1) 2 x2) 3 x3) 4 x4) 5 x5)))]) hP hD [2, 1] [0] rfl rfl (by decide) (by decide) hk1 hFc hP1 hD1
  have hK := (hK.sub (tys' := []) [] rfl).app hK1
  generalize H1 = H at hP hS ⊢
  have hP : va_P (dC, dI) vwCl [(h0, .inr (16, [v0, v1, .ref h1, v2, v3, v4, v5, v6, v7, v8, v9, v10, v11, v12, v13, v14])), (h1, .inr (11, [.ref h2, .int 6])), (h2, .inl (cc0, 6, .inl (upd (upd (upd (upd (upd (upd (fun _ => 0) 0 x0) 1 x1) 2 x2) 3 x3) 4 x4) 5 x5)))] H := hP
  have hD : va_D A [(h0, .inr (16, [v0, v1, .ref h1, v2, v3, v4, v5, v6, v7, v8, v9, v10, v11, v12, v13, v14])), (h1, .inr (11, [.ref h2, .int 6])), (h2, .inl (cc0, 6, .inl (upd (upd (upd (upd (upd (upd (fun _ => 0) 0 x0) 1 x1) 2 x2) 3 x3) 4 x4) 5 x5)))] := hD
  have hK : va_K (dC, dI) vwCl [(cc0, .int)] s := hK
  refine W.widen (k := 0) (n := 0) (Nat.le_of_ble_eq_true rfl) (Nat.le_of_ble_eq_true rfl) ?_
  refine lv_iconst (v := (-1)) hx hb dX9_needCodes_21 (by decide) ?_
  refine lv_icmp_lt (tgt := 38) hx hb dX9_needCodes_22 (by decide) (fun c2 => absurd c2 (fun z => absurd (show x0.toInt < (-1 : Int) from Int32.lt_iff_toInt_lt.mp z) (by omega))) (fun c2 => ?_)
  refine lv_aload_n hx hb dX9_needCodes_25 rfl (lv_at hl 1 rfl) ?_
  refine va_get (D := (dC, dI)) (ci := 16) (v := .ref h1) (C := RX9) (T := TX9) (N := 16) hx hb hta naX9 hown hK hP 0 rfl rfl 2 (by decide) (hta _ wm33) (fun _ h9 => h9) rfl dX9_needCodes_26 ?_
  refine lv_iload_n hx hb dX9_needCodes_29 rfl (lv_at hl 0 rfl) ?_
  have hPc := hP.sub (ws' := [(h1, .inr (11, [.ref h2, .int 6])), (h2, .inl (cc0, 6, .inl (upd (upd (upd (upd (upd (upd (fun _ => 0) 0 x0) 1 x1) 2 x2) 3 x3) 4 x4) 5 x5)))]) [1, 2] rfl
  have hDc := hD.sub (ws' := [(h1, .inr (11, [.ref h2, .int 6])), (h2, .inl (cc0, 6, .inl (upd (upd (upd (upd (upd (upd (fun _ => 0) 0 x0) 1 x1) 2 x2) 3 x3) 4 x4) 5 x5)))]) [1, 2] (by decide) rfl
  have hKc := hK.sub (tys' := [(cc0, .int)]) [0] rfl
  have hFc := va_free (wc := [(h1, .inr (11, [.ref h2, .int 6])), (h2, .inl (cc0, 6, .inl (upd (upd (upd (upd (upd (upd (fun _ => 0) 0 x0) 1 x1) 2 x2) 3 x3) 4 x4) 5 x5)))]) hD hS hA [1, 2] rfl
  refine va_calli (va_runV (As := [.int 0]) (rest := []) ⟨hx, hb, hml, hown, hts⟩ (kX4_get_28 l dC dI g H.size h1 h2 cc0 x0 x1 x2 x3 x4 x5 ⟨by omega, by omega⟩ ⟨by omega, by omega⟩ ⟨by omega, by omega⟩ ⟨by omega, by omega⟩ ⟨by omega, by omega⟩ ⟨by omega, by omega⟩) (cwV 1 hts (ns_gp (List.forall_mem_cons.mpr ⟨wm550, (List.forall_mem_cons.mpr ⟨wm551, (List.forall_mem_cons.mpr ⟨wm552, (List.forall_mem_cons.mpr ⟨wm12, (fun _ h9 => nomatch h9)⟩)⟩)⟩)⟩) wm548) rfl rfl rfl (by decide +kernel) ⟨Nat.le_of_ble_eq_true rfl, Nat.le_of_ble_eq_true rfl⟩) ⟨fun a U gg mk q => by obtain ⟨q0, q1, qP, qK, qD, qF⟩ := q; exact ⟨q0, q1, qP, va_K.moved (u := U) (U := U.calling gg mk a) (Vm.Alike.refl U.vm) qK, qD, ns_same qF⟩, va_recv hK hP (ci := 11) (q0 := 1) rfl rfl, fun U hU hW => ⟨rfl, by rw [hU], by rw [hU]; exact hPc, va_K.moved hW.alike hKc, hDc.weaken (fun _ _ _ _ => trivial), ns_call hF hS hFc hU hW⟩⟩ rfl rfl hl.1 rfl (lv_room (Nat.le_of_ble_eq_true rfl)) dX9_needCodes_30 ⟨Nat.le_of_ble_eq_true rfl, Nat.le_of_ble_eq_true rfl⟩) hS (fun q _ h => hFc q h) hFc (fun r9 u t H1 locs ht hvm hw hB hz1 hk1 hS => ?_)
  obtain rfl := hw.symm
  obtain ⟨hP1, hK1, hD1⟩ := hB
  rw [ht] at hP1
  have hK1 := va_K.moved hvm.symm hK1
  obtain ⟨hP, hD⟩ := va_join (wr := [(h0, .inr (16, [v0, v1, .ref h1, v2, v3, v4, v5, v6, v7, v8, v9, v10, v11, v12, v13, v14]))]) (w1 := [(h1, .inr (11, [.ref h2, .int 6])), (h2, .inl (cc0, 6, .inl (upd (upd (upd (upd (upd (upd (fun _ => 0) 0 x0) 1 x1) 2 x2) 3 x3) 4 x4) 5 x5)))]) hP hD [1, 2] [0] rfl rfl (by decide) (by decide) hk1 hFc hP1 hD1
  have hK := (hK.sub (tys' := []) [] rfl).app hK1
  generalize H1 = H at hP hS ⊢
  have hP : va_P (dC, dI) vwCl [(h0, .inr (16, [v0, v1, .ref h1, v2, v3, v4, v5, v6, v7, v8, v9, v10, v11, v12, v13, v14])), (h1, .inr (11, [.ref h2, .int 6])), (h2, .inl (cc0, 6, .inl (upd (upd (upd (upd (upd (upd (fun _ => 0) 0 x0) 1 x1) 2 x2) 3 x3) 4 x4) 5 x5)))] H := hP
  have hD : va_D A [(h0, .inr (16, [v0, v1, .ref h1, v2, v3, v4, v5, v6, v7, v8, v9, v10, v11, v12, v13, v14])), (h1, .inr (11, [.ref h2, .int 6])), (h2, .inl (cc0, 6, .inl (upd (upd (upd (upd (upd (upd (fun _ => 0) 0 x0) 1 x1) 2 x2) 3 x3) 4 x4) 5 x5)))] := hD
  have hK : va_K (dC, dI) vwCl [(cc0, .int)] s := hK
  refine W.widen (k := 0) (n := 0) (Nat.le_of_ble_eq_true rfl) (Nat.le_of_ble_eq_true rfl) ?_
  refine lv_bipush (v := 21) hx hb dX9_needCodes_33 (by decide) ?_
  refine lv_icmp_le (tgt := 49) hx hb dX9_needCodes_35 (by decide) (fun c3 => ?_) (fun c3 => absurd (show x0 ≤ (21 : Int32) from Int32.le_iff_toInt_le.mpr (show x0.toInt ≤ (21 : Int) by omega)) c3)
  refine lv_iinc (v := 1) (lv' := [(1, .int 1), (0, .ref h0)]) hx hb dX9_needCodes_49 hl (k := 0) rfl (by decide) (by decide) rfl (fun ls hl => ?_)
  refine lv_goto (tgt := 2) hx hb dX9_needCodes_52 (by decide) ?_
  refine lv_iload_n hx hb dX9_needCodes_2 rfl (lv_at hl 0 rfl) ?_
  refine lv_aload_n hx hb dX9_needCodes_3 rfl (lv_at hl 1 rfl) ?_
  refine va_get (D := (dC, dI)) (ci := 16) (v := .ref h1) (C := RX9) (T := TX9) (N := 16) hx hb hta naX9 hown hK hP 0 rfl rfl 2 (by decide) (hta _ wm33) (fun _ h9 => h9) rfl dX9_needCodes_4 ?_
  have hPc := hP.sub (ws' := [(h1, .inr (11, [.ref h2, .int 6]))]) [1] rfl
  have hDc := hD.sub (ws' := [(h1, .inr (11, [.ref h2, .int 6]))]) [1] (by decide) rfl
  have hKc := hK.sub (tys' := []) [] rfl
  have hFc := va_free (wc := [(h1, .inr (11, [.ref h2, .int 6]))]) hD hS hA [1] rfl
  refine va_calli (va_runV (As := []) (rest := [.int 1]) ⟨hx, hb, hml, hown, hts⟩ (kX4_size_7 l dC dI g H.size h1 (.ref h2) ) (cwV 0 hts (ns_gp (List.forall_mem_cons.mpr ⟨wm549, (List.forall_mem_cons.mpr ⟨wm249, (List.forall_mem_cons.mpr ⟨wm250, (List.forall_mem_cons.mpr ⟨wm12, (fun _ h9 => nomatch h9)⟩)⟩)⟩)⟩) wm247) rfl rfl rfl (by decide +kernel) ⟨Nat.le_of_ble_eq_true rfl, Nat.le_of_ble_eq_true rfl⟩) ⟨fun a U gg mk q => by obtain ⟨q0, q1, qP, qK, qD, qF⟩ := q; exact ⟨q0, q1, qP, va_K.moved (u := U) (U := U.calling gg mk a) (Vm.Alike.refl U.vm) qK, qD, ns_same qF⟩, va_recv hK hP (ci := 11) (q0 := 1) rfl rfl, fun U hU hW => ⟨rfl, by rw [hU], by rw [hU]; exact hPc, va_K.moved hW.alike hKc, hDc.weaken (fun _ _ _ _ => trivial), ns_call hF hS hFc hU hW⟩⟩ rfl rfl hl.1 rfl (lv_room (Nat.le_of_ble_eq_true rfl)) dX9_needCodes_7 ⟨Nat.le_of_ble_eq_true rfl, Nat.le_of_ble_eq_true rfl⟩) hS (fun q _ h => hFc q h) hFc (fun r9 u t H1 locs ht hvm hw hB hz1 hk1 hS => ?_)
  obtain rfl := hw.symm
  obtain ⟨hP1, hK1, hD1⟩ := hB
  rw [ht] at hP1
  have hK1 := va_K.moved hvm.symm hK1
  obtain ⟨hP, hD⟩ := va_join (wr := [(h0, .inr (16, [v0, v1, .ref h1, v2, v3, v4, v5, v6, v7, v8, v9, v10, v11, v12, v13, v14])), (h2, .inl (cc0, 6, .inl (upd (upd (upd (upd (upd (upd (fun _ => 0) 0 x0) 1 x1) 2 x2) 3 x3) 4 x4) 5 x5)))]) (w1 := [(h1, .inr (11, [.ref h2, .int 6]))]) hP hD [1] [0, 2] rfl rfl (by decide) (by decide) hk1 hFc hP1 hD1
  have hK := (hK.sub (tys' := [(cc0, .int)]) [0] rfl).app hK1
  generalize H1 = H at hP hS ⊢
  have hP : va_P (dC, dI) vwCl [(h0, .inr (16, [v0, v1, .ref h1, v2, v3, v4, v5, v6, v7, v8, v9, v10, v11, v12, v13, v14])), (h2, .inl (cc0, 6, .inl (upd (upd (upd (upd (upd (upd (fun _ => 0) 0 x0) 1 x1) 2 x2) 3 x3) 4 x4) 5 x5))), (h1, .inr (11, [.ref h2, .int 6]))] H := hP
  have hD : va_D A [(h0, .inr (16, [v0, v1, .ref h1, v2, v3, v4, v5, v6, v7, v8, v9, v10, v11, v12, v13, v14])), (h2, .inl (cc0, 6, .inl (upd (upd (upd (upd (upd (upd (fun _ => 0) 0 x0) 1 x1) 2 x2) 3 x3) 4 x4) 5 x5))), (h1, .inr (11, [.ref h2, .int 6]))] := hD
  have hK : va_K (dC, dI) vwCl [(cc0, .int)] s := hK
  refine W.widen (k := 0) (n := 0) (Nat.le_of_ble_eq_true rfl) (Nat.le_of_ble_eq_true rfl) ?_
  refine lv_icmp_ge (tgt := 55) hx hb dX9_needCodes_10 (by decide) (fun c4 => absurd c4 (by decide)) (fun c4 => ?_)
  refine lv_aload_n hx hb dX9_needCodes_13 rfl (lv_at hl 1 rfl) ?_
  refine va_get (D := (dC, dI)) (ci := 16) (v := .ref h1) (C := RX9) (T := TX9) (N := 16) hx hb hta naX9 hown hK hP 0 rfl rfl 2 (by decide) (hta _ wm33) (fun _ h9 => h9) rfl dX9_needCodes_14 ?_
  refine lv_iload_n hx hb dX9_needCodes_17 rfl (lv_at hl 0 rfl) ?_
  have hPc := hP.sub (ws' := [(h1, .inr (11, [.ref h2, .int 6])), (h2, .inl (cc0, 6, .inl (upd (upd (upd (upd (upd (upd (fun _ => 0) 0 x0) 1 x1) 2 x2) 3 x3) 4 x4) 5 x5)))]) [2, 1] rfl
  have hDc := hD.sub (ws' := [(h1, .inr (11, [.ref h2, .int 6])), (h2, .inl (cc0, 6, .inl (upd (upd (upd (upd (upd (upd (fun _ => 0) 0 x0) 1 x1) 2 x2) 3 x3) 4 x4) 5 x5)))]) [2, 1] (by decide) rfl
  have hKc := hK.sub (tys' := [(cc0, .int)]) [0] rfl
  have hFc := va_free (wc := [(h1, .inr (11, [.ref h2, .int 6])), (h2, .inl (cc0, 6, .inl (upd (upd (upd (upd (upd (upd (fun _ => 0) 0 x0) 1 x1) 2 x2) 3 x3) 4 x4) 5 x5)))]) hD hS hA [2, 1] rfl
  refine va_calli (va_runV (As := [.int 1]) (rest := []) ⟨hx, hb, hml, hown, hts⟩ (kX4_get_29 l dC dI g H.size h1 h2 cc0 x0 x1 x2 x3 x4 x5 ⟨by omega, by omega⟩ ⟨by omega, by omega⟩ ⟨by omega, by omega⟩ ⟨by omega, by omega⟩ ⟨by omega, by omega⟩ ⟨by omega, by omega⟩) (cwV 1 hts (ns_gp (List.forall_mem_cons.mpr ⟨wm550, (List.forall_mem_cons.mpr ⟨wm551, (List.forall_mem_cons.mpr ⟨wm552, (List.forall_mem_cons.mpr ⟨wm12, (fun _ h9 => nomatch h9)⟩)⟩)⟩)⟩) wm548) rfl rfl rfl (by decide +kernel) ⟨Nat.le_of_ble_eq_true rfl, Nat.le_of_ble_eq_true rfl⟩) ⟨fun a U gg mk q => by obtain ⟨q0, q1, qP, qK, qD, qF⟩ := q; exact ⟨q0, q1, qP, va_K.moved (u := U) (U := U.calling gg mk a) (Vm.Alike.refl U.vm) qK, qD, ns_same qF⟩, va_recv hK hP (ci := 11) (q0 := 2) rfl rfl, fun U hU hW => ⟨rfl, by rw [hU], by rw [hU]; exact hPc, va_K.moved hW.alike hKc, hDc.weaken (fun _ _ _ _ => trivial), ns_call hF hS hFc hU hW⟩⟩ rfl rfl hl.1 rfl (lv_room (Nat.le_of_ble_eq_true rfl)) dX9_needCodes_18 ⟨Nat.le_of_ble_eq_true rfl, Nat.le_of_ble_eq_true rfl⟩) hS (fun q _ h => hFc q h) hFc (fun r9 u t H1 locs ht hvm hw hB hz1 hk1 hS => ?_)
  obtain rfl := hw.symm
  obtain ⟨hP1, hK1, hD1⟩ := hB
  rw [ht] at hP1
  have hK1 := va_K.moved hvm.symm hK1
  obtain ⟨hP, hD⟩ := va_join (wr := [(h0, .inr (16, [v0, v1, .ref h1, v2, v3, v4, v5, v6, v7, v8, v9, v10, v11, v12, v13, v14]))]) (w1 := [(h1, .inr (11, [.ref h2, .int 6])), (h2, .inl (cc0, 6, .inl (upd (upd (upd (upd (upd (upd (fun _ => 0) 0 x0) 1 x1) 2 x2) 3 x3) 4 x4) 5 x5)))]) hP hD [2, 1] [0] rfl rfl (by decide) (by decide) hk1 hFc hP1 hD1
  have hK := (hK.sub (tys' := []) [] rfl).app hK1
  generalize H1 = H at hP hS ⊢
  have hP : va_P (dC, dI) vwCl [(h0, .inr (16, [v0, v1, .ref h1, v2, v3, v4, v5, v6, v7, v8, v9, v10, v11, v12, v13, v14])), (h1, .inr (11, [.ref h2, .int 6])), (h2, .inl (cc0, 6, .inl (upd (upd (upd (upd (upd (upd (fun _ => 0) 0 x0) 1 x1) 2 x2) 3 x3) 4 x4) 5 x5)))] H := hP
  have hD : va_D A [(h0, .inr (16, [v0, v1, .ref h1, v2, v3, v4, v5, v6, v7, v8, v9, v10, v11, v12, v13, v14])), (h1, .inr (11, [.ref h2, .int 6])), (h2, .inl (cc0, 6, .inl (upd (upd (upd (upd (upd (upd (fun _ => 0) 0 x0) 1 x1) 2 x2) 3 x3) 4 x4) 5 x5)))] := hD
  have hK : va_K (dC, dI) vwCl [(cc0, .int)] s := hK
  refine W.widen (k := 0) (n := 0) (Nat.le_of_ble_eq_true rfl) (Nat.le_of_ble_eq_true rfl) ?_
  refine lv_iconst (v := (-1)) hx hb dX9_needCodes_21 (by decide) ?_
  refine lv_icmp_lt (tgt := 38) hx hb dX9_needCodes_22 (by decide) (fun c5 => absurd c5 (fun z => absurd (show x1.toInt < (-1 : Int) from Int32.lt_iff_toInt_lt.mp z) (by omega))) (fun c5 => ?_)
  refine lv_aload_n hx hb dX9_needCodes_25 rfl (lv_at hl 1 rfl) ?_
  refine va_get (D := (dC, dI)) (ci := 16) (v := .ref h1) (C := RX9) (T := TX9) (N := 16) hx hb hta naX9 hown hK hP 0 rfl rfl 2 (by decide) (hta _ wm33) (fun _ h9 => h9) rfl dX9_needCodes_26 ?_
  refine lv_iload_n hx hb dX9_needCodes_29 rfl (lv_at hl 0 rfl) ?_
  have hPc := hP.sub (ws' := [(h1, .inr (11, [.ref h2, .int 6])), (h2, .inl (cc0, 6, .inl (upd (upd (upd (upd (upd (upd (fun _ => 0) 0 x0) 1 x1) 2 x2) 3 x3) 4 x4) 5 x5)))]) [1, 2] rfl
  have hDc := hD.sub (ws' := [(h1, .inr (11, [.ref h2, .int 6])), (h2, .inl (cc0, 6, .inl (upd (upd (upd (upd (upd (upd (fun _ => 0) 0 x0) 1 x1) 2 x2) 3 x3) 4 x4) 5 x5)))]) [1, 2] (by decide) rfl
  have hKc := hK.sub (tys' := [(cc0, .int)]) [0] rfl
  have hFc := va_free (wc := [(h1, .inr (11, [.ref h2, .int 6])), (h2, .inl (cc0, 6, .inl (upd (upd (upd (upd (upd (upd (fun _ => 0) 0 x0) 1 x1) 2 x2) 3 x3) 4 x4) 5 x5)))]) hD hS hA [1, 2] rfl
  refine va_calli (va_runV (As := [.int 1]) (rest := []) ⟨hx, hb, hml, hown, hts⟩ (kX4_get_29 l dC dI g H.size h1 h2 cc0 x0 x1 x2 x3 x4 x5 ⟨by omega, by omega⟩ ⟨by omega, by omega⟩ ⟨by omega, by omega⟩ ⟨by omega, by omega⟩ ⟨by omega, by omega⟩ ⟨by omega, by omega⟩) (cwV 1 hts (ns_gp (List.forall_mem_cons.mpr ⟨wm550, (List.forall_mem_cons.mpr ⟨wm551, (List.forall_mem_cons.mpr ⟨wm552, (List.forall_mem_cons.mpr ⟨wm12, (fun _ h9 => nomatch h9)⟩)⟩)⟩)⟩) wm548) rfl rfl rfl (by decide +kernel) ⟨Nat.le_of_ble_eq_true rfl, Nat.le_of_ble_eq_true rfl⟩) ⟨fun a U gg mk q => by obtain ⟨q0, q1, qP, qK, qD, qF⟩ := q; exact ⟨q0, q1, qP, va_K.moved (u := U) (U := U.calling gg mk a) (Vm.Alike.refl U.vm) qK, qD, ns_same qF⟩, va_recv hK hP (ci := 11) (q0 := 1) rfl rfl, fun U hU hW => ⟨rfl, by rw [hU], by rw [hU]; exact hPc, va_K.moved hW.alike hKc, hDc.weaken (fun _ _ _ _ => trivial), ns_call hF hS hFc hU hW⟩⟩ rfl rfl hl.1 rfl (lv_room (Nat.le_of_ble_eq_true rfl)) dX9_needCodes_30 ⟨Nat.le_of_ble_eq_true rfl, Nat.le_of_ble_eq_true rfl⟩) hS (fun q _ h => hFc q h) hFc (fun r9 u t H1 locs ht hvm hw hB hz1 hk1 hS => ?_)
  obtain rfl := hw.symm
  obtain ⟨hP1, hK1, hD1⟩ := hB
  rw [ht] at hP1
  have hK1 := va_K.moved hvm.symm hK1
  obtain ⟨hP, hD⟩ := va_join (wr := [(h0, .inr (16, [v0, v1, .ref h1, v2, v3, v4, v5, v6, v7, v8, v9, v10, v11, v12, v13, v14]))]) (w1 := [(h1, .inr (11, [.ref h2, .int 6])), (h2, .inl (cc0, 6, .inl (upd (upd (upd (upd (upd (upd (fun _ => 0) 0 x0) 1 x1) 2 x2) 3 x3) 4 x4) 5 x5)))]) hP hD [1, 2] [0] rfl rfl (by decide) (by decide) hk1 hFc hP1 hD1
  have hK := (hK.sub (tys' := []) [] rfl).app hK1
  generalize H1 = H at hP hS ⊢
  have hP : va_P (dC, dI) vwCl [(h0, .inr (16, [v0, v1, .ref h1, v2, v3, v4, v5, v6, v7, v8, v9, v10, v11, v12, v13, v14])), (h1, .inr (11, [.ref h2, .int 6])), (h2, .inl (cc0, 6, .inl (upd (upd (upd (upd (upd (upd (fun _ => 0) 0 x0) 1 x1) 2 x2) 3 x3) 4 x4) 5 x5)))] H := hP
  have hD : va_D A [(h0, .inr (16, [v0, v1, .ref h1, v2, v3, v4, v5, v6, v7, v8, v9, v10, v11, v12, v13, v14])), (h1, .inr (11, [.ref h2, .int 6])), (h2, .inl (cc0, 6, .inl (upd (upd (upd (upd (upd (upd (fun _ => 0) 0 x0) 1 x1) 2 x2) 3 x3) 4 x4) 5 x5)))] := hD
  have hK : va_K (dC, dI) vwCl [(cc0, .int)] s := hK
  refine W.widen (k := 0) (n := 0) (Nat.le_of_ble_eq_true rfl) (Nat.le_of_ble_eq_true rfl) ?_
  refine lv_bipush (v := 21) hx hb dX9_needCodes_33 (by decide) ?_
  refine lv_icmp_le (tgt := 49) hx hb dX9_needCodes_35 (by decide) (fun c6 => ?_) (fun c6 => absurd (show x1 ≤ (21 : Int32) from Int32.le_iff_toInt_le.mpr (show x1.toInt ≤ (21 : Int) by omega)) c6)
  refine lv_iinc (v := 2) (lv' := [(1, .int 2), (0, .ref h0)]) hx hb dX9_needCodes_49 hl (k := 0) rfl (by decide) (by decide) rfl (fun ls hl => ?_)
  refine lv_goto (tgt := 2) hx hb dX9_needCodes_52 (by decide) ?_
  refine lv_iload_n hx hb dX9_needCodes_2 rfl (lv_at hl 0 rfl) ?_
  refine lv_aload_n hx hb dX9_needCodes_3 rfl (lv_at hl 1 rfl) ?_
  refine va_get (D := (dC, dI)) (ci := 16) (v := .ref h1) (C := RX9) (T := TX9) (N := 16) hx hb hta naX9 hown hK hP 0 rfl rfl 2 (by decide) (hta _ wm33) (fun _ h9 => h9) rfl dX9_needCodes_4 ?_
  have hPc := hP.sub (ws' := [(h1, .inr (11, [.ref h2, .int 6]))]) [1] rfl
  have hDc := hD.sub (ws' := [(h1, .inr (11, [.ref h2, .int 6]))]) [1] (by decide) rfl
  have hKc := hK.sub (tys' := []) [] rfl
  have hFc := va_free (wc := [(h1, .inr (11, [.ref h2, .int 6]))]) hD hS hA [1] rfl
  refine va_calli (va_runV (As := []) (rest := [.int 2]) ⟨hx, hb, hml, hown, hts⟩ (kX4_size_7 l dC dI g H.size h1 (.ref h2) ) (cwV 0 hts (ns_gp (List.forall_mem_cons.mpr ⟨wm549, (List.forall_mem_cons.mpr ⟨wm249, (List.forall_mem_cons.mpr ⟨wm250, (List.forall_mem_cons.mpr ⟨wm12, (fun _ h9 => nomatch h9)⟩)⟩)⟩)⟩) wm247) rfl rfl rfl (by decide +kernel) ⟨Nat.le_of_ble_eq_true rfl, Nat.le_of_ble_eq_true rfl⟩) ⟨fun a U gg mk q => by obtain ⟨q0, q1, qP, qK, qD, qF⟩ := q; exact ⟨q0, q1, qP, va_K.moved (u := U) (U := U.calling gg mk a) (Vm.Alike.refl U.vm) qK, qD, ns_same qF⟩, va_recv hK hP (ci := 11) (q0 := 1) rfl rfl, fun U hU hW => ⟨rfl, by rw [hU], by rw [hU]; exact hPc, va_K.moved hW.alike hKc, hDc.weaken (fun _ _ _ _ => trivial), ns_call hF hS hFc hU hW⟩⟩ rfl rfl hl.1 rfl (lv_room (Nat.le_of_ble_eq_true rfl)) dX9_needCodes_7 ⟨Nat.le_of_ble_eq_true rfl, Nat.le_of_ble_eq_true rfl⟩) hS (fun q _ h => hFc q h) hFc (fun r9 u t H1 locs ht hvm hw hB hz1 hk1 hS => ?_)
  obtain rfl := hw.symm
  obtain ⟨hP1, hK1, hD1⟩ := hB
  rw [ht] at hP1
  have hK1 := va_K.moved hvm.symm hK1
  obtain ⟨hP, hD⟩ := va_join (wr := [(h0, .inr (16, [v0, v1, .ref h1, v2, v3, v4, v5, v6, v7, v8, v9, v10, v11, v12, v13, v14])), (h2, .inl (cc0, 6, .inl (upd (upd (upd (upd (upd (upd (fun _ => 0) 0 x0) 1 x1) 2 x2) 3 x3) 4 x4) 5 x5)))]) (w1 := [(h1, .inr (11, [.ref h2, .int 6]))]) hP hD [1] [0, 2] rfl rfl (by decide) (by decide) hk1 hFc hP1 hD1
  have hK := (hK.sub (tys' := [(cc0, .int)]) [0] rfl).app hK1
  generalize H1 = H at hP hS ⊢
  have hP : va_P (dC, dI) vwCl [(h0, .inr (16, [v0, v1, .ref h1, v2, v3, v4, v5, v6, v7, v8, v9, v10, v11, v12, v13, v14])), (h2, .inl (cc0, 6, .inl (upd (upd (upd (upd (upd (upd (fun _ => 0) 0 x0) 1 x1) 2 x2) 3 x3) 4 x4) 5 x5))), (h1, .inr (11, [.ref h2, .int 6]))] H := hP
  have hD : va_D A [(h0, .inr (16, [v0, v1, .ref h1, v2, v3, v4, v5, v6, v7, v8, v9, v10, v11, v12, v13, v14])), (h2, .inl (cc0, 6, .inl (upd (upd (upd (upd (upd (upd (fun _ => 0) 0 x0) 1 x1) 2 x2) 3 x3) 4 x4) 5 x5))), (h1, .inr (11, [.ref h2, .int 6]))] := hD
  have hK : va_K (dC, dI) vwCl [(cc0, .int)] s := hK
  refine W.widen (k := 0) (n := 0) (Nat.le_of_ble_eq_true rfl) (Nat.le_of_ble_eq_true rfl) ?_
  refine lv_icmp_ge (tgt := 55) hx hb dX9_needCodes_10 (by decide) (fun c7 => absurd c7 (by decide)) (fun c7 => ?_)
  refine lv_aload_n hx hb dX9_needCodes_13 rfl (lv_at hl 1 rfl) ?_
  refine va_get (D := (dC, dI)) (ci := 16) (v := .ref h1) (C := RX9) (T := TX9) (N := 16) hx hb hta naX9 hown hK hP 0 rfl rfl 2 (by decide) (hta _ wm33) (fun _ h9 => h9) rfl dX9_needCodes_14 ?_
  refine lv_iload_n hx hb dX9_needCodes_17 rfl (lv_at hl 0 rfl) ?_
  have hPc := hP.sub (ws' := [(h1, .inr (11, [.ref h2, .int 6])), (h2, .inl (cc0, 6, .inl (upd (upd (upd (upd (upd (upd (fun _ => 0) 0 x0) 1 x1) 2 x2) 3 x3) 4 x4) 5 x5)))]) [2, 1] rfl
  have hDc := hD.sub (ws' := [(h1, .inr (11, [.ref h2, .int 6])), (h2, .inl (cc0, 6, .inl (upd (upd (upd (upd (upd (upd (fun _ => 0) 0 x0) 1 x1) 2 x2) 3 x3) 4 x4) 5 x5)))]) [2, 1] (by decide) rfl
  have hKc := hK.sub (tys' := [(cc0, .int)]) [0] rfl
  have hFc := va_free (wc := [(h1, .inr (11, [.ref h2, .int 6])), (h2, .inl (cc0, 6, .inl (upd (upd (upd (upd (upd (upd (fun _ => 0) 0 x0) 1 x1) 2 x2) 3 x3) 4 x4) 5 x5)))]) hD hS hA [2, 1] rfl
  refine va_calli (va_runV (As := [.int 2]) (rest := []) ⟨hx, hb, hml, hown, hts⟩ (kX4_get_30 l dC dI g H.size h1 h2 cc0 x0 x1 x2 x3 x4 x5 ⟨by omega, by omega⟩ ⟨by omega, by omega⟩ ⟨by omega, by omega⟩ ⟨by omega, by omega⟩ ⟨by omega, by omega⟩ ⟨by omega, by omega⟩) (cwV 1 hts (ns_gp (List.forall_mem_cons.mpr ⟨wm550, (List.forall_mem_cons.mpr ⟨wm551, (List.forall_mem_cons.mpr ⟨wm552, (List.forall_mem_cons.mpr ⟨wm12, (fun _ h9 => nomatch h9)⟩)⟩)⟩)⟩) wm548) rfl rfl rfl (by decide +kernel) ⟨Nat.le_of_ble_eq_true rfl, Nat.le_of_ble_eq_true rfl⟩) ⟨fun a U gg mk q => by obtain ⟨q0, q1, qP, qK, qD, qF⟩ := q; exact ⟨q0, q1, qP, va_K.moved (u := U) (U := U.calling gg mk a) (Vm.Alike.refl U.vm) qK, qD, ns_same qF⟩, va_recv hK hP (ci := 11) (q0 := 2) rfl rfl, fun U hU hW => ⟨rfl, by rw [hU], by rw [hU]; exact hPc, va_K.moved hW.alike hKc, hDc.weaken (fun _ _ _ _ => trivial), ns_call hF hS hFc hU hW⟩⟩ rfl rfl hl.1 rfl (lv_room (Nat.le_of_ble_eq_true rfl)) dX9_needCodes_18 ⟨Nat.le_of_ble_eq_true rfl, Nat.le_of_ble_eq_true rfl⟩) hS (fun q _ h => hFc q h) hFc (fun r9 u t H1 locs ht hvm hw hB hz1 hk1 hS => ?_)
  obtain rfl := hw.symm
  obtain ⟨hP1, hK1, hD1⟩ := hB
  rw [ht] at hP1
  have hK1 := va_K.moved hvm.symm hK1
  obtain ⟨hP, hD⟩ := va_join (wr := [(h0, .inr (16, [v0, v1, .ref h1, v2, v3, v4, v5, v6, v7, v8, v9, v10, v11, v12, v13, v14]))]) (w1 := [(h1, .inr (11, [.ref h2, .int 6])), (h2, .inl (cc0, 6, .inl (upd (upd (upd (upd (upd (upd (fun _ => 0) 0 x0) 1 x1) 2 x2) 3 x3) 4 x4) 5 x5)))]) hP hD [2, 1] [0] rfl rfl (by decide) (by decide) hk1 hFc hP1 hD1
  have hK := (hK.sub (tys' := []) [] rfl).app hK1
  generalize H1 = H at hP hS ⊢
  have hP : va_P (dC, dI) vwCl [(h0, .inr (16, [v0, v1, .ref h1, v2, v3, v4, v5, v6, v7, v8, v9, v10, v11, v12, v13, v14])), (h1, .inr (11, [.ref h2, .int 6])), (h2, .inl (cc0, 6, .inl (upd (upd (upd (upd (upd (upd (fun _ => 0) 0 x0) 1 x1) 2 x2) 3 x3) 4 x4) 5 x5)))] H := hP
  have hD : va_D A [(h0, .inr (16, [v0, v1, .ref h1, v2, v3, v4, v5, v6, v7, v8, v9, v10, v11, v12, v13, v14])), (h1, .inr (11, [.ref h2, .int 6])), (h2, .inl (cc0, 6, .inl (upd (upd (upd (upd (upd (upd (fun _ => 0) 0 x0) 1 x1) 2 x2) 3 x3) 4 x4) 5 x5)))] := hD
  have hK : va_K (dC, dI) vwCl [(cc0, .int)] s := hK
  refine W.widen (k := 0) (n := 0) (Nat.le_of_ble_eq_true rfl) (Nat.le_of_ble_eq_true rfl) ?_
  refine lv_iconst (v := (-1)) hx hb dX9_needCodes_21 (by decide) ?_
  refine lv_icmp_lt (tgt := 38) hx hb dX9_needCodes_22 (by decide) (fun c8 => absurd c8 (fun z => absurd (show x2.toInt < (-1 : Int) from Int32.lt_iff_toInt_lt.mp z) (by omega))) (fun c8 => ?_)
  refine lv_aload_n hx hb dX9_needCodes_25 rfl (lv_at hl 1 rfl) ?_
  refine va_get (D := (dC, dI)) (ci := 16) (v := .ref h1) (C := RX9) (T := TX9) (N := 16) hx hb hta naX9 hown hK hP 0 rfl rfl 2 (by decide) (hta _ wm33) (fun _ h9 => h9) rfl dX9_needCodes_26 ?_
  refine lv_iload_n hx hb dX9_needCodes_29 rfl (lv_at hl 0 rfl) ?_
  have hPc := hP.sub (ws' := [(h1, .inr (11, [.ref h2, .int 6])), (h2, .inl (cc0, 6, .inl (upd (upd (upd (upd (upd (upd (fun _ => 0) 0 x0) 1 x1) 2 x2) 3 x3) 4 x4) 5 x5)))]) [1, 2] rfl
  have hDc := hD.sub (ws' := [(h1, .inr (11, [.ref h2, .int 6])), (h2, .inl (cc0, 6, .inl (upd (upd (upd (upd (upd (upd (fun _ => 0) 0 x0) 1 x1) 2 x2) 3 x3) 4 x4) 5 x5)))]) [1, 2] (by decide) rfl
  have hKc := hK.sub (tys' := [(cc0, .int)]) [0] rfl
  have hFc := va_free (wc := [(h1, .inr (11, [.ref h2, .int 6])), (h2, .inl (cc0, 6, .inl (upd (upd (upd (upd (upd (upd (fun _ => 0) 0 x0) 1 x1) 2 x2) 3 x3) 4 x4) 5 x5)))]) hD hS hA [1, 2] rfl
  refine va_calli (va_runV (As := [.int 2]) (rest := []) ⟨hx, hb, hml, hown, hts⟩ (kX4_get_30 l dC dI g H.size h1 h2 cc0 x0 x1 x2 x3 x4 x5 ⟨by omega, by omega⟩ ⟨by omega, by omega⟩ ⟨by omega, by omega⟩ ⟨by omega, by omega⟩ ⟨by omega, by omega⟩ ⟨by omega, by omega⟩) (cwV 1 hts (ns_gp (List.forall_mem_cons.mpr ⟨wm550, (List.forall_mem_cons.mpr ⟨wm551, (List.forall_mem_cons.mpr ⟨wm552, (List.forall_mem_cons.mpr ⟨wm12, (fun _ h9 => nomatch h9)⟩)⟩)⟩)⟩) wm548) rfl rfl rfl (by decide +kernel) ⟨Nat.le_of_ble_eq_true rfl, Nat.le_of_ble_eq_true rfl⟩) ⟨fun a U gg mk q => by obtain ⟨q0, q1, qP, qK, qD, qF⟩ := q; exact ⟨q0, q1, qP, va_K.moved (u := U) (U := U.calling gg mk a) (Vm.Alike.refl U.vm) qK, qD, ns_same qF⟩, va_recv hK hP (ci := 11) (q0 := 1) rfl rfl, fun U hU hW => ⟨rfl, by rw [hU], by rw [hU]; exact hPc, va_K.moved hW.alike hKc, hDc.weaken (fun _ _ _ _ => trivial), ns_call hF hS hFc hU hW⟩⟩ rfl rfl hl.1 rfl (lv_room (Nat.le_of_ble_eq_true rfl)) dX9_needCodes_30 ⟨Nat.le_of_ble_eq_true rfl, Nat.le_of_ble_eq_true rfl⟩) hS (fun q _ h => hFc q h) hFc (fun r9 u t H1 locs ht hvm hw hB hz1 hk1 hS => ?_)
  obtain rfl := hw.symm
  obtain ⟨hP1, hK1, hD1⟩ := hB
  rw [ht] at hP1
  have hK1 := va_K.moved hvm.symm hK1
  obtain ⟨hP, hD⟩ := va_join (wr := [(h0, .inr (16, [v0, v1, .ref h1, v2, v3, v4, v5, v6, v7, v8, v9, v10, v11, v12, v13, v14]))]) (w1 := [(h1, .inr (11, [.ref h2, .int 6])), (h2, .inl (cc0, 6, .inl (upd (upd (upd (upd (upd (upd (fun _ => 0) 0 x0) 1 x1) 2 x2) 3 x3) 4 x4) 5 x5)))]) hP hD [1, 2] [0] rfl rfl (by decide) (by decide) hk1 hFc hP1 hD1
  have hK := (hK.sub (tys' := []) [] rfl).app hK1
  generalize H1 = H at hP hS ⊢
  have hP : va_P (dC, dI) vwCl [(h0, .inr (16, [v0, v1, .ref h1, v2, v3, v4, v5, v6, v7, v8, v9, v10, v11, v12, v13, v14])), (h1, .inr (11, [.ref h2, .int 6])), (h2, .inl (cc0, 6, .inl (upd (upd (upd (upd (upd (upd (fun _ => 0) 0 x0) 1 x1) 2 x2) 3 x3) 4 x4) 5 x5)))] H := hP
  have hD : va_D A [(h0, .inr (16, [v0, v1, .ref h1, v2, v3, v4, v5, v6, v7, v8, v9, v10, v11, v12, v13, v14])), (h1, .inr (11, [.ref h2, .int 6])), (h2, .inl (cc0, 6, .inl (upd (upd (upd (upd (upd (upd (fun _ => 0) 0 x0) 1 x1) 2 x2) 3 x3) 4 x4) 5 x5)))] := hD
  have hK : va_K (dC, dI) vwCl [(cc0, .int)] s := hK
  refine W.widen (k := 0) (n := 0) (Nat.le_of_ble_eq_true rfl) (Nat.le_of_ble_eq_true rfl) ?_
  refine lv_bipush (v := 21) hx hb dX9_needCodes_33 (by decide) ?_
  refine lv_icmp_le (tgt := 49) hx hb dX9_needCodes_35 (by decide) (fun c9 => ?_) (fun c9 => absurd (show x2 ≤ (21 : Int32) from Int32.le_iff_toInt_le.mpr (show x2.toInt ≤ (21 : Int) by omega)) c9)
  refine lv_iinc (v := 3) (lv' := [(1, .int 3), (0, .ref h0)]) hx hb dX9_needCodes_49 hl (k := 0) rfl (by decide) (by decide) rfl (fun ls hl => ?_)
  refine lv_goto (tgt := 2) hx hb dX9_needCodes_52 (by decide) ?_
  refine lv_iload_n hx hb dX9_needCodes_2 rfl (lv_at hl 0 rfl) ?_
  refine lv_aload_n hx hb dX9_needCodes_3 rfl (lv_at hl 1 rfl) ?_
  refine va_get (D := (dC, dI)) (ci := 16) (v := .ref h1) (C := RX9) (T := TX9) (N := 16) hx hb hta naX9 hown hK hP 0 rfl rfl 2 (by decide) (hta _ wm33) (fun _ h9 => h9) rfl dX9_needCodes_4 ?_
  have hPc := hP.sub (ws' := [(h1, .inr (11, [.ref h2, .int 6]))]) [1] rfl
  have hDc := hD.sub (ws' := [(h1, .inr (11, [.ref h2, .int 6]))]) [1] (by decide) rfl
  have hKc := hK.sub (tys' := []) [] rfl
  have hFc := va_free (wc := [(h1, .inr (11, [.ref h2, .int 6]))]) hD hS hA [1] rfl
  refine va_calli (va_runV (As := []) (rest := [.int 3]) ⟨hx, hb, hml, hown, hts⟩ (kX4_size_7 l dC dI g H.size h1 (.ref h2) ) (cwV 0 hts (ns_gp (List.forall_mem_cons.mpr ⟨wm549, (List.forall_mem_cons.mpr ⟨wm249, (List.forall_mem_cons.mpr ⟨wm250, (List.forall_mem_cons.mpr ⟨wm12, (fun _ h9 => nomatch h9)⟩)⟩)⟩)⟩) wm247) rfl rfl rfl (by decide +kernel) ⟨Nat.le_of_ble_eq_true rfl, Nat.le_of_ble_eq_true rfl⟩) ⟨fun a U gg mk q => by obtain ⟨q0, q1, qP, qK, qD, qF⟩ := q; exact ⟨q0, q1, qP, va_K.moved (u := U) (U := U.calling gg mk a) (Vm.Alike.refl U.vm) qK, qD, ns_same qF⟩, va_recv hK hP (ci := 11) (q0 := 1) rfl rfl, fun U hU hW => ⟨rfl, by rw [hU], by rw [hU]; exact hPc, va_K.moved hW.alike hKc, hDc.weaken (fun _ _ _ _ => trivial), ns_call hF hS hFc hU hW⟩⟩ rfl rfl hl.1 rfl (lv_room (Nat.le_of_ble_eq_true rfl)) dX9_needCodes_7 ⟨Nat.le_of_ble_eq_true rfl, Nat.le_of_ble_eq_true rfl⟩) hS (fun q _ h => hFc q h) hFc (fun r9 u t H1 locs ht hvm hw hB hz1 hk1 hS => ?_)
  obtain rfl := hw.symm
  obtain ⟨hP1, hK1, hD1⟩ := hB
  rw [ht] at hP1
  have hK1 := va_K.moved hvm.symm hK1
  obtain ⟨hP, hD⟩ := va_join (wr := [(h0, .inr (16, [v0, v1, .ref h1, v2, v3, v4, v5, v6, v7, v8, v9, v10, v11, v12, v13, v14])), (h2, .inl (cc0, 6, .inl (upd (upd (upd (upd (upd (upd (fun _ => 0) 0 x0) 1 x1) 2 x2) 3 x3) 4 x4) 5 x5)))]) (w1 := [(h1, .inr (11, [.ref h2, .int 6]))]) hP hD [1] [0, 2] rfl rfl (by decide) (by decide) hk1 hFc hP1 hD1
  have hK := (hK.sub (tys' := [(cc0, .int)]) [0] rfl).app hK1
  generalize H1 = H at hP hS ⊢
  have hP : va_P (dC, dI) vwCl [(h0, .inr (16, [v0, v1, .ref h1, v2, v3, v4, v5, v6, v7, v8, v9, v10, v11, v12, v13, v14])), (h2, .inl (cc0, 6, .inl (upd (upd (upd (upd (upd (upd (fun _ => 0) 0 x0) 1 x1) 2 x2) 3 x3) 4 x4) 5 x5))), (h1, .inr (11, [.ref h2, .int 6]))] H := hP
  have hD : va_D A [(h0, .inr (16, [v0, v1, .ref h1, v2, v3, v4, v5, v6, v7, v8, v9, v10, v11, v12, v13, v14])), (h2, .inl (cc0, 6, .inl (upd (upd (upd (upd (upd (upd (fun _ => 0) 0 x0) 1 x1) 2 x2) 3 x3) 4 x4) 5 x5))), (h1, .inr (11, [.ref h2, .int 6]))] := hD
  have hK : va_K (dC, dI) vwCl [(cc0, .int)] s := hK
  refine W.widen (k := 0) (n := 0) (Nat.le_of_ble_eq_true rfl) (Nat.le_of_ble_eq_true rfl) ?_
  refine lv_icmp_ge (tgt := 55) hx hb dX9_needCodes_10 (by decide) (fun c10 => absurd c10 (by decide)) (fun c10 => ?_)
  refine lv_aload_n hx hb dX9_needCodes_13 rfl (lv_at hl 1 rfl) ?_
  refine va_get (D := (dC, dI)) (ci := 16) (v := .ref h1) (C := RX9) (T := TX9) (N := 16) hx hb hta naX9 hown hK hP 0 rfl rfl 2 (by decide) (hta _ wm33) (fun _ h9 => h9) rfl dX9_needCodes_14 ?_
  refine lv_iload_n hx hb dX9_needCodes_17 rfl (lv_at hl 0 rfl) ?_
  have hPc := hP.sub (ws' := [(h1, .inr (11, [.ref h2, .int 6])), (h2, .inl (cc0, 6, .inl (upd (upd (upd (upd (upd (upd (fun _ => 0) 0 x0) 1 x1) 2 x2) 3 x3) 4 x4) 5 x5)))]) [2, 1] rfl
  have hDc := hD.sub (ws' := [(h1, .inr (11, [.ref h2, .int 6])), (h2, .inl (cc0, 6, .inl (upd (upd (upd (upd (upd (upd (fun _ => 0) 0 x0) 1 x1) 2 x2) 3 x3) 4 x4) 5 x5)))]) [2, 1] (by decide) rfl
  have hKc := hK.sub (tys' := [(cc0, .int)]) [0] rfl
  have hFc := va_free (wc := [(h1, .inr (11, [.ref h2, .int 6])), (h2, .inl (cc0, 6, .inl (upd (upd (upd (upd (upd (upd (fun _ => 0) 0 x0) 1 x1) 2 x2) 3 x3) 4 x4) 5 x5)))]) hD hS hA [2, 1] rfl
  refine va_calli (va_runV (As := [.int 3]) (rest := []) ⟨hx, hb, hml, hown, hts⟩ (kX4_get_31 l dC dI g H.size h1 h2 cc0 x0 x1 x2 x3 x4 x5 ⟨by omega, by omega⟩ ⟨by omega, by omega⟩ ⟨by omega, by omega⟩ ⟨by omega, by omega⟩ ⟨by omega, by omega⟩ ⟨by omega, by omega⟩) (cwV 1 hts (ns_gp (List.forall_mem_cons.mpr ⟨wm550, (List.forall_mem_cons.mpr ⟨wm551, (List.forall_mem_cons.mpr ⟨wm552, (List.forall_mem_cons.mpr ⟨wm12, (fun _ h9 => nomatch h9)⟩)⟩)⟩)⟩) wm548) rfl rfl rfl (by decide +kernel) ⟨Nat.le_of_ble_eq_true rfl, Nat.le_of_ble_eq_true rfl⟩) ⟨fun a U gg mk q => by obtain ⟨q0, q1, qP, qK, qD, qF⟩ := q; exact ⟨q0, q1, qP, va_K.moved (u := U) (U := U.calling gg mk a) (Vm.Alike.refl U.vm) qK, qD, ns_same qF⟩, va_recv hK hP (ci := 11) (q0 := 2) rfl rfl, fun U hU hW => ⟨rfl, by rw [hU], by rw [hU]; exact hPc, va_K.moved hW.alike hKc, hDc.weaken (fun _ _ _ _ => trivial), ns_call hF hS hFc hU hW⟩⟩ rfl rfl hl.1 rfl (lv_room (Nat.le_of_ble_eq_true rfl)) dX9_needCodes_18 ⟨Nat.le_of_ble_eq_true rfl, Nat.le_of_ble_eq_true rfl⟩) hS (fun q _ h => hFc q h) hFc (fun r9 u t H1 locs ht hvm hw hB hz1 hk1 hS => ?_)
  obtain rfl := hw.symm
  obtain ⟨hP1, hK1, hD1⟩ := hB
  rw [ht] at hP1
  have hK1 := va_K.moved hvm.symm hK1
  obtain ⟨hP, hD⟩ := va_join (wr := [(h0, .inr (16, [v0, v1, .ref h1, v2, v3, v4, v5, v6, v7, v8, v9, v10, v11, v12, v13, v14]))]) (w1 := [(h1, .inr (11, [.ref h2, .int 6])), (h2, .inl (cc0, 6, .inl (upd (upd (upd (upd (upd (upd (fun _ => 0) 0 x0) 1 x1) 2 x2) 3 x3) 4 x4) 5 x5)))]) hP hD [2, 1] [0] rfl rfl (by decide) (by decide) hk1 hFc hP1 hD1
  have hK := (hK.sub (tys' := []) [] rfl).app hK1
  generalize H1 = H at hP hS ⊢
  have hP : va_P (dC, dI) vwCl [(h0, .inr (16, [v0, v1, .ref h1, v2, v3, v4, v5, v6, v7, v8, v9, v10, v11, v12, v13, v14])), (h1, .inr (11, [.ref h2, .int 6])), (h2, .inl (cc0, 6, .inl (upd (upd (upd (upd (upd (upd (fun _ => 0) 0 x0) 1 x1) 2 x2) 3 x3) 4 x4) 5 x5)))] H := hP
  have hD : va_D A [(h0, .inr (16, [v0, v1, .ref h1, v2, v3, v4, v5, v6, v7, v8, v9, v10, v11, v12, v13, v14])), (h1, .inr (11, [.ref h2, .int 6])), (h2, .inl (cc0, 6, .inl (upd (upd (upd (upd (upd (upd (fun _ => 0) 0 x0) 1 x1) 2 x2) 3 x3) 4 x4) 5 x5)))] := hD
  have hK : va_K (dC, dI) vwCl [(cc0, .int)] s := hK
  refine W.widen (k := 0) (n := 0) (Nat.le_of_ble_eq_true rfl) (Nat.le_of_ble_eq_true rfl) ?_
  refine lv_iconst (v := (-1)) hx hb dX9_needCodes_21 (by decide) ?_
  refine lv_icmp_lt (tgt := 38) hx hb dX9_needCodes_22 (by decide) (fun c11 => absurd c11 (fun z => absurd (show x3.toInt < (-1 : Int) from Int32.lt_iff_toInt_lt.mp z) (by omega))) (fun c11 => ?_)
  refine lv_aload_n hx hb dX9_needCodes_25 rfl (lv_at hl 1 rfl) ?_
  refine va_get (D := (dC, dI)) (ci := 16) (v := .ref h1) (C := RX9) (T := TX9) (N := 16) hx hb hta naX9 hown hK hP 0 rfl rfl 2 (by decide) (hta _ wm33) (fun _ h9 => h9) rfl dX9_needCodes_26 ?_
  refine lv_iload_n hx hb dX9_needCodes_29 rfl (lv_at hl 0 rfl) ?_
  have hPc := hP.sub (ws' := [(h1, .inr (11, [.ref h2, .int 6])), (h2, .inl (cc0, 6, .inl (upd (upd (upd (upd (upd (upd (fun _ => 0) 0 x0) 1 x1) 2 x2) 3 x3) 4 x4) 5 x5)))]) [1, 2] rfl
  have hDc := hD.sub (ws' := [(h1, .inr (11, [.ref h2, .int 6])), (h2, .inl (cc0, 6, .inl (upd (upd (upd (upd (upd (upd (fun _ => 0) 0 x0) 1 x1) 2 x2) 3 x3) 4 x4) 5 x5)))]) [1, 2] (by decide) rfl
  have hKc := hK.sub (tys' := [(cc0, .int)]) [0] rfl
  have hFc := va_free (wc := [(h1, .inr (11, [.ref h2, .int 6])), (h2, .inl (cc0, 6, .inl (upd (upd (upd (upd (upd (upd (fun _ => 0) 0 x0) 1 x1) 2 x2) 3 x3) 4 x4) 5 x5)))]) hD hS hA [1, 2] rfl
  refine va_calli (va_runV (As := [.int 3]) (rest := []) ⟨hx, hb, hml, hown, hts⟩ (kX4_get_31 l dC dI g H.size h1 h2 cc0 x0 x1 x2 x3 x4 x5 ⟨by omega, by omega⟩ ⟨by omega, by omega⟩ ⟨by omega, by omega⟩ ⟨by omega, by omega⟩ ⟨by omega, by omega⟩ ⟨by omega, by omega⟩) (cwV 1 hts (ns_gp (List.forall_mem_cons.mpr ⟨wm550, (List.forall_mem_cons.mpr ⟨wm551, (List.forall_mem_cons.mpr ⟨wm552, (List.forall_mem_cons.mpr ⟨wm12, (fun _ h9 => nomatch h9)⟩)⟩)⟩)⟩) wm548) rfl rfl rfl (by decide +kernel) ⟨Nat.le_of_ble_eq_true rfl, Nat.le_of_ble_eq_true rfl⟩) ⟨fun a U gg mk q => by obtain ⟨q0, q1, qP, qK, qD, qF⟩ := q; exact ⟨q0, q1, qP, va_K.moved (u := U) (U := U.calling gg mk a) (Vm.Alike.refl U.vm) qK, qD, ns_same qF⟩, va_recv hK hP (ci := 11) (q0 := 1) rfl rfl, fun U hU hW => ⟨rfl, by rw [hU], by rw [hU]; exact hPc, va_K.moved hW.alike hKc, hDc.weaken (fun _ _ _ _ => trivial), ns_call hF hS hFc hU hW⟩⟩ rfl rfl hl.1 rfl (lv_room (Nat.le_of_ble_eq_true rfl)) dX9_needCodes_30 ⟨Nat.le_of_ble_eq_true rfl, Nat.le_of_ble_eq_true rfl⟩) hS (fun q _ h => hFc q h) hFc (fun r9 u t H1 locs ht hvm hw hB hz1 hk1 hS => ?_)
  obtain rfl := hw.symm
  obtain ⟨hP1, hK1, hD1⟩ := hB
  rw [ht] at hP1
  have hK1 := va_K.moved hvm.symm hK1
  obtain ⟨hP, hD⟩ := va_join (wr := [(h0, .inr (16, [v0, v1, .ref h1, v2, v3, v4, v5, v6, v7, v8, v9, v10, v11, v12, v13, v14]))]) (w1 := [(h1, .inr (11, [.ref h2, .int 6])), (h2, .inl (cc0, 6, .inl (upd (upd (upd (upd (upd (upd (fun _ => 0) 0 x0) 1 x1) 2 x2) 3 x3) 4 x4) 5 x5)))]) hP hD [1, 2] [0] rfl rfl (by decide) (by decide) hk1 hFc hP1 hD1
  have hK := (hK.sub (tys' := []) [] rfl).app hK1
  generalize H1 = H at hP hS ⊢
  have hP : va_P (dC, dI) vwCl [(h0, .inr (16, [v0, v1, .ref h1, v2, v3, v4, v5, v6, v7, v8, v9, v10, v11, v12, v13, v14])), (h1, .inr (11, [.ref h2, .int 6])), (h2, .inl (cc0, 6, .inl (upd (upd (upd (upd (upd (upd (fun _ => 0) 0 x0) 1 x1) 2 x2) 3 x3) 4 x4) 5 x5)))] H := hP
  have hD : va_D A [(h0, .inr (16, [v0, v1, .ref h1, v2, v3, v4, v5, v6, v7, v8, v9, v10, v11, v12, v13, v14])), (h1, .inr (11, [.ref h2, .int 6])), (h2, .inl (cc0, 6, .inl (upd (upd (upd (upd (upd (upd (fun _ => 0) 0 x0) 1 x1) 2 x2) 3 x3) 4 x4) 5 x5)))] := hD
  have hK : va_K (dC, dI) vwCl [(cc0, .int)] s := hK
  refine W.widen (k := 0) (n := 0) (Nat.le_of_ble_eq_true rfl) (Nat.le_of_ble_eq_true rfl) ?_
  refine lv_bipush (v := 21) hx hb dX9_needCodes_33 (by decide) ?_
  refine lv_icmp_le (tgt := 49) hx hb dX9_needCodes_35 (by decide) (fun c12 => ?_) (fun c12 => absurd (show x3 ≤ (21 : Int32) from Int32.le_iff_toInt_le.mpr (show x3.toInt ≤ (21 : Int) by omega)) c12)
  refine lv_iinc (v := 4) (lv' := [(1, .int 4), (0, .ref h0)]) hx hb dX9_needCodes_49 hl (k := 0) rfl (by decide) (by decide) rfl (fun ls hl => ?_)
  refine lv_goto (tgt := 2) hx hb dX9_needCodes_52 (by decide) ?_
  refine lv_iload_n hx hb dX9_needCodes_2 rfl (lv_at hl 0 rfl) ?_
  refine lv_aload_n hx hb dX9_needCodes_3 rfl (lv_at hl 1 rfl) ?_
  refine va_get (D := (dC, dI)) (ci := 16) (v := .ref h1) (C := RX9) (T := TX9) (N := 16) hx hb hta naX9 hown hK hP 0 rfl rfl 2 (by decide) (hta _ wm33) (fun _ h9 => h9) rfl dX9_needCodes_4 ?_
  have hPc := hP.sub (ws' := [(h1, .inr (11, [.ref h2, .int 6]))]) [1] rfl
  have hDc := hD.sub (ws' := [(h1, .inr (11, [.ref h2, .int 6]))]) [1] (by decide) rfl
  have hKc := hK.sub (tys' := []) [] rfl
  have hFc := va_free (wc := [(h1, .inr (11, [.ref h2, .int 6]))]) hD hS hA [1] rfl
  refine va_calli (va_runV (As := []) (rest := [.int 4]) ⟨hx, hb, hml, hown, hts⟩ (kX4_size_7 l dC dI g H.size h1 (.ref h2) ) (cwV 0 hts (ns_gp (List.forall_mem_cons.mpr ⟨wm549, (List.forall_mem_cons.mpr ⟨wm249, (List.forall_mem_cons.mpr ⟨wm250, (List.forall_mem_cons.mpr ⟨wm12, (fun _ h9 => nomatch h9)⟩)⟩)⟩)⟩) wm247) rfl rfl rfl (by decide +kernel) ⟨Nat.le_of_ble_eq_true rfl, Nat.le_of_ble_eq_true rfl⟩) ⟨fun a U gg mk q => by obtain ⟨q0, q1, qP, qK, qD, qF⟩ := q; exact ⟨q0, q1, qP, va_K.moved (u := U) (U := U.calling gg mk a) (Vm.Alike.refl U.vm) qK, qD, ns_same qF⟩, va_recv hK hP (ci := 11) (q0 := 1) rfl rfl, fun U hU hW => ⟨rfl, by rw [hU], by rw [hU]; exact hPc, va_K.moved hW.alike hKc, hDc.weaken (fun _ _ _ _ => trivial), ns_call hF hS hFc hU hW⟩⟩ rfl rfl hl.1 rfl (lv_room (Nat.le_of_ble_eq_true rfl)) dX9_needCodes_7 ⟨Nat.le_of_ble_eq_true rfl, Nat.le_of_ble_eq_true rfl⟩) hS (fun q _ h => hFc q h) hFc (fun r9 u t H1 locs ht hvm hw hB hz1 hk1 hS => ?_)
  obtain rfl := hw.symm
  obtain ⟨hP1, hK1, hD1⟩ := hB
  rw [ht] at hP1
  have hK1 := va_K.moved hvm.symm hK1
  obtain ⟨hP, hD⟩ := va_join (wr := [(h0, .inr (16, [v0, v1, .ref h1, v2, v3, v4, v5, v6, v7, v8, v9, v10, v11, v12, v13, v14])), (h2, .inl (cc0, 6, .inl (upd (upd (upd (upd (upd (upd (fun _ => 0) 0 x0) 1 x1) 2 x2) 3 x3) 4 x4) 5 x5)))]) (w1 := [(h1, .inr (11, [.ref h2, .int 6]))]) hP hD [1] [0, 2] rfl rfl (by decide) (by decide) hk1 hFc hP1 hD1
  have hK := (hK.sub (tys' := [(cc0, .int)]) [0] rfl).app hK1
  generalize H1 = H at hP hS ⊢
  have hP : va_P (dC, dI) vwCl [(h0, .inr (16, [v0, v1, .ref h1, v2, v3, v4, v5, v6, v7, v8, v9, v10, v11, v12, v13, v14])), (h2, .inl (cc0, 6, .inl (upd (upd (upd (upd (upd (upd (fun _ => 0) 0 x0) 1 x1) 2 x2) 3 x3) 4 x4) 5 x5))), (h1, .inr (11, [.ref h2, .int 6]))] H := hP
  have hD : va_D A [(h0, .inr (16, [v0, v1, .ref h1, v2, v3, v4, v5, v6, v7, v8, v9, v10, v11, v12, v13, v14])), (h2, .inl (cc0, 6, .inl (upd (upd (upd (upd (upd (upd (fun _ => 0) 0 x0) 1 x1) 2 x2) 3 x3) 4 x4) 5 x5))), (h1, .inr (11, [.ref h2, .int 6]))] := hD
  have hK : va_K (dC, dI) vwCl [(cc0, .int)] s := hK
  refine W.widen (k := 0) (n := 0) (Nat.le_of_ble_eq_true rfl) (Nat.le_of_ble_eq_true rfl) ?_
  refine lv_icmp_ge (tgt := 55) hx hb dX9_needCodes_10 (by decide) (fun c13 => absurd c13 (by decide)) (fun c13 => ?_)
  refine lv_aload_n hx hb dX9_needCodes_13 rfl (lv_at hl 1 rfl) ?_
  refine va_get (D := (dC, dI)) (ci := 16) (v := .ref h1) (C := RX9) (T := TX9) (N := 16) hx hb hta naX9 hown hK hP 0 rfl rfl 2 (by decide) (hta _ wm33) (fun _ h9 => h9) rfl dX9_needCodes_14 ?_
  refine lv_iload_n hx hb dX9_needCodes_17 rfl (lv_at hl 0 rfl) ?_
  have hPc := hP.sub (ws' := [(h1, .inr (11, [.ref h2, .int 6])), (h2, .inl (cc0, 6, .inl (upd (upd (upd (upd (upd (upd (fun _ => 0) 0 x0) 1 x1) 2 x2) 3 x3) 4 x4) 5 x5)))]) [2, 1] rfl
  have hDc := hD.sub (ws' := [(h1, .inr (11, [.ref h2, .int 6])), (h2, .inl (cc0, 6, .inl (upd (upd (upd (upd (upd (upd (fun _ => 0) 0 x0) 1 x1) 2 x2) 3 x3) 4 x4) 5 x5)))]) [2, 1] (by decide) rfl
  have hKc := hK.sub (tys' := [(cc0, .int)]) [0] rfl
  have hFc := va_free (wc := [(h1, .inr (11, [.ref h2, .int 6])), (h2, .inl (cc0, 6, .inl (upd (upd (upd (upd (upd (upd (fun _ => 0) 0 x0) 1 x1) 2 x2) 3 x3) 4 x4) 5 x5)))]) hD hS hA [2, 1] rfl
  refine va_calli (va_runV (As := [.int 4]) (rest := []) ⟨hx, hb, hml, hown, hts⟩ (kX4_get_32 l dC dI g H.size h1 h2 cc0 x0 x1 x2 x3 x4 x5 ⟨by omega, by omega⟩ ⟨by omega, by omega⟩ ⟨by omega, by omega⟩ ⟨by omega, by omega⟩ ⟨by omega, by omega⟩ ⟨by omega, by omega⟩) (cwV 1 hts (ns_gp (List.forall_mem_cons.mpr ⟨wm550, (List.forall_mem_cons.mpr ⟨wm551, (List.forall_mem_cons.mpr ⟨wm552, (List.forall_mem_cons.mpr ⟨wm12, (fun _ h9 => nomatch h9)⟩)⟩)⟩)⟩) wm548) rfl rfl rfl (by decide +kernel) ⟨Nat.le_of_ble_eq_true rfl, Nat.le_of_ble_eq_true rfl⟩) ⟨fun a U gg mk q => by obtain ⟨q0, q1, qP, qK, qD, qF⟩ := q; exact ⟨q0, q1, qP, va_K.moved (u := U) (U := U.calling gg mk a) (Vm.Alike.refl U.vm) qK, qD, ns_same qF⟩, va_recv hK hP (ci := 11) (q0 := 2) rfl rfl, fun U hU hW => ⟨rfl, by rw [hU], by rw [hU]; exact hPc, va_K.moved hW.alike hKc, hDc.weaken (fun _ _ _ _ => trivial), ns_call hF hS hFc hU hW⟩⟩ rfl rfl hl.1 rfl (lv_room (Nat.le_of_ble_eq_true rfl)) dX9_needCodes_18 ⟨Nat.le_of_ble_eq_true rfl, Nat.le_of_ble_eq_true rfl⟩) hS (fun q _ h => hFc q h) hFc (fun r9 u t H1 locs ht hvm hw hB hz1 hk1 hS => ?_)
  obtain rfl := hw.symm
  obtain ⟨hP1, hK1, hD1⟩ := hB
  rw [ht] at hP1
  have hK1 := va_K.moved hvm.symm hK1
  obtain ⟨hP, hD⟩ := va_join (wr := [(h0, .inr (16, [v0, v1, .ref h1, v2, v3, v4, v5, v6, v7, v8, v9, v10, v11, v12, v13, v14]))]) (w1 := [(h1, .inr (11, [.ref h2, .int 6])), (h2, .inl (cc0, 6, .inl (upd (upd (upd (upd (upd (upd (fun _ => 0) 0 x0) 1 x1) 2 x2) 3 x3) 4 x4) 5 x5)))]) hP hD [2, 1] [0] rfl rfl (by decide) (by decide) hk1 hFc hP1 hD1
  have hK := (hK.sub (tys' := []) [] rfl).app hK1
  generalize H1 = H at hP hS ⊢
  have hP : va_P (dC, dI) vwCl [(h0, .inr (16, [v0, v1, .ref h1, v2, v3, v4, v5, v6, v7, v8, v9, v10, v11, v12, v13, v14])), (h1, .inr (11, [.ref h2, .int 6])), (h2, .inl (cc0, 6, .inl (upd (upd (upd (upd (upd (upd (fun _ => 0) 0 x0) 1 x1) 2 x2) 3 x3) 4 x4) 5 x5)))] H := hP
  have hD : va_D A [(h0, .inr (16, [v0, v1, .ref h1, v2, v3, v4, v5, v6, v7, v8, v9, v10, v11, v12, v13, v14])), (h1, .inr (11, [.ref h2, .int 6])), (h2, .inl (cc0, 6, .inl (upd (upd (upd (upd (upd (upd (fun _ => 0) 0 x0) 1 x1) 2 x2) 3 x3) 4 x4) 5 x5)))] := hD
  have hK : va_K (dC, dI) vwCl [(cc0, .int)] s := hK
  refine W.widen (k := 0) (n := 0) (Nat.le_of_ble_eq_true rfl) (Nat.le_of_ble_eq_true rfl) ?_
  refine lv_iconst (v := (-1)) hx hb dX9_needCodes_21 (by decide) ?_
  refine lv_icmp_lt (tgt := 38) hx hb dX9_needCodes_22 (by decide) (fun c14 => absurd c14 (fun z => absurd (show x4.toInt < (-1 : Int) from Int32.lt_iff_toInt_lt.mp z) (by omega))) (fun c14 => ?_)
  refine lv_aload_n hx hb dX9_needCodes_25 rfl (lv_at hl 1 rfl) ?_
  refine va_get (D := (dC, dI)) (ci := 16) (v := .ref h1) (C := RX9) (T := TX9) (N := 16) hx hb hta naX9 hown hK hP 0 rfl rfl 2 (by decide) (hta _ wm33) (fun _ h9 => h9) rfl dX9_needCodes_26 ?_
  refine lv_iload_n hx hb dX9_needCodes_29 rfl (lv_at hl 0 rfl) ?_
  have hPc := hP.sub (ws' := [(h1, .inr (11, [.ref h2, .int 6])), (h2, .inl (cc0, 6, .inl (upd (upd (upd (upd (upd (upd (fun _ => 0) 0 x0) 1 x1) 2 x2) 3 x3) 4 x4) 5 x5)))]) [1, 2] rfl
  have hDc := hD.sub (ws' := [(h1, .inr (11, [.ref h2, .int 6])), (h2, .inl (cc0, 6, .inl (upd (upd (upd (upd (upd (upd (fun _ => 0) 0 x0) 1 x1) 2 x2) 3 x3) 4 x4) 5 x5)))]) [1, 2] (by decide) rfl
  have hKc := hK.sub (tys' := [(cc0, .int)]) [0] rfl
  have hFc := va_free (wc := [(h1, .inr (11, [.ref h2, .int 6])), (h2, .inl (cc0, 6, .inl (upd (upd (upd (upd (upd (upd (fun _ => 0) 0 x0) 1 x1) 2 x2) 3 x3) 4 x4) 5 x5)))]) hD hS hA [1, 2] rfl
  refine va_calli (va_runV (As := [.int 4]) (rest := []) ⟨hx, hb, hml, hown, hts⟩ (kX4_get_32 l dC dI g H.size h1 h2 cc0 x0 x1 x2 x3 x4 x5 ⟨by omega, by omega⟩ ⟨by omega, by omega⟩ ⟨by omega, by omega⟩ ⟨by omega, by omega⟩ ⟨by omega, by omega⟩ ⟨by omega, by omega⟩) (cwV 1 hts (ns_gp (List.forall_mem_cons.mpr ⟨wm550, (List.forall_mem_cons.mpr ⟨wm551, (List.forall_mem_cons.mpr ⟨wm552, (List.forall_mem_cons.mpr ⟨wm12, (fun _ h9 => nomatch h9)⟩)⟩)⟩)⟩) wm548) rfl rfl rfl (by decide +kernel) ⟨Nat.le_of_ble_eq_true rfl, Nat.le_of_ble_eq_true rfl⟩) ⟨fun a U gg mk q => by obtain ⟨q0, q1, qP, qK, qD, qF⟩ := q; exact ⟨q0, q1, qP, va_K.moved (u := U) (U := U.calling gg mk a) (Vm.Alike.refl U.vm) qK, qD, ns_same qF⟩, va_recv hK hP (ci := 11) (q0 := 1) rfl rfl, fun U hU hW => ⟨rfl, by rw [hU], by rw [hU]; exact hPc, va_K.moved hW.alike hKc, hDc.weaken (fun _ _ _ _ => trivial), ns_call hF hS hFc hU hW⟩⟩ rfl rfl hl.1 rfl (lv_room (Nat.le_of_ble_eq_true rfl)) dX9_needCodes_30 ⟨Nat.le_of_ble_eq_true rfl, Nat.le_of_ble_eq_true rfl⟩) hS (fun q _ h => hFc q h) hFc (fun r9 u t H1 locs ht hvm hw hB hz1 hk1 hS => ?_)
  obtain rfl := hw.symm
  obtain ⟨hP1, hK1, hD1⟩ := hB
  rw [ht] at hP1
  have hK1 := va_K.moved hvm.symm hK1
  obtain ⟨hP, hD⟩ := va_join (wr := [(h0, .inr (16, [v0, v1, .ref h1, v2, v3, v4, v5, v6, v7, v8, v9, v10, v11, v12, v13, v14]))]) (w1 := [(h1, .inr (11, [.ref h2, .int 6])), (h2, .inl (cc0, 6, .inl (upd (upd (upd (upd (upd (upd (fun _ => 0) 0 x0) 1 x1) 2 x2) 3 x3) 4 x4) 5 x5)))]) hP hD [1, 2] [0] rfl rfl (by decide) (by decide) hk1 hFc hP1 hD1
  have hK := (hK.sub (tys' := []) [] rfl).app hK1
  generalize H1 = H at hP hS ⊢
  have hP : va_P (dC, dI) vwCl [(h0, .inr (16, [v0, v1, .ref h1, v2, v3, v4, v5, v6, v7, v8, v9, v10, v11, v12, v13, v14])), (h1, .inr (11, [.ref h2, .int 6])), (h2, .inl (cc0, 6, .inl (upd (upd (upd (upd (upd (upd (fun _ => 0) 0 x0) 1 x1) 2 x2) 3 x3) 4 x4) 5 x5)))] H := hP
  have hD : va_D A [(h0, .inr (16, [v0, v1, .ref h1, v2, v3, v4, v5, v6, v7, v8, v9, v10, v11, v12, v13, v14])), (h1, .inr (11, [.ref h2, .int 6])), (h2, .inl (cc0, 6, .inl (upd (upd (upd (upd (upd (upd (fun _ => 0) 0 x0) 1 x1) 2 x2) 3 x3) 4 x4) 5 x5)))] := hD
  have hK : va_K (dC, dI) vwCl [(cc0, .int)] s := hK
  refine W.widen (k := 0) (n := 0) (Nat.le_of_ble_eq_true rfl) (Nat.le_of_ble_eq_true rfl) ?_
  refine lv_bipush (v := 21) hx hb dX9_needCodes_33 (by decide) ?_
  refine lv_icmp_le (tgt := 49) hx hb dX9_needCodes_35 (by decide) (fun c15 => ?_) (fun c15 => absurd (show x4 ≤ (21 : Int32) from Int32.le_iff_toInt_le.mpr (show x4.toInt ≤ (21 : Int) by omega)) c15)
  refine lv_iinc (v := 5) (lv' := [(1, .int 5), (0, .ref h0)]) hx hb dX9_needCodes_49 hl (k := 0) rfl (by decide) (by decide) rfl (fun ls hl => ?_)
  refine lv_goto (tgt := 2) hx hb dX9_needCodes_52 (by decide) ?_
  refine lv_iload_n hx hb dX9_needCodes_2 rfl (lv_at hl 0 rfl) ?_
  refine lv_aload_n hx hb dX9_needCodes_3 rfl (lv_at hl 1 rfl) ?_
  refine va_get (D := (dC, dI)) (ci := 16) (v := .ref h1) (C := RX9) (T := TX9) (N := 16) hx hb hta naX9 hown hK hP 0 rfl rfl 2 (by decide) (hta _ wm33) (fun _ h9 => h9) rfl dX9_needCodes_4 ?_
  have hPc := hP.sub (ws' := [(h1, .inr (11, [.ref h2, .int 6]))]) [1] rfl
  have hDc := hD.sub (ws' := [(h1, .inr (11, [.ref h2, .int 6]))]) [1] (by decide) rfl
  have hKc := hK.sub (tys' := []) [] rfl
  have hFc := va_free (wc := [(h1, .inr (11, [.ref h2, .int 6]))]) hD hS hA [1] rfl
  refine va_calli (va_runV (As := []) (rest := [.int 5]) ⟨hx, hb, hml, hown, hts⟩ (kX4_size_7 l dC dI g H.size h1 (.ref h2) ) (cwV 0 hts (ns_gp (List.forall_mem_cons.mpr ⟨wm549, (List.forall_mem_cons.mpr ⟨wm249, (List.forall_mem_cons.mpr ⟨wm250, (List.forall_mem_cons.mpr ⟨wm12, (fun _ h9 => nomatch h9)⟩)⟩)⟩)⟩) wm247) rfl rfl rfl (by decide +kernel) ⟨Nat.le_of_ble_eq_true rfl, Nat.le_of_ble_eq_true rfl⟩) ⟨fun a U gg mk q => by obtain ⟨q0, q1, qP, qK, qD, qF⟩ := q; exact ⟨q0, q1, qP, va_K.moved (u := U) (U := U.calling gg mk a) (Vm.Alike.refl U.vm) qK, qD, ns_same qF⟩, va_recv hK hP (ci := 11) (q0 := 1) rfl rfl, fun U hU hW => ⟨rfl, by rw [hU], by rw [hU]; exact hPc, va_K.moved hW.alike hKc, hDc.weaken (fun _ _ _ _ => trivial), ns_call hF hS hFc hU hW⟩⟩ rfl rfl hl.1 rfl (lv_room (Nat.le_of_ble_eq_true rfl)) dX9_needCodes_7 ⟨Nat.le_of_ble_eq_true rfl, Nat.le_of_ble_eq_true rfl⟩) hS (fun q _ h => hFc q h) hFc (fun r9 u t H1 locs ht hvm hw hB hz1 hk1 hS => ?_)
  obtain rfl := hw.symm
  obtain ⟨hP1, hK1, hD1⟩ := hB
  rw [ht] at hP1
  have hK1 := va_K.moved hvm.symm hK1
  obtain ⟨hP, hD⟩ := va_join (wr := [(h0, .inr (16, [v0, v1, .ref h1, v2, v3, v4, v5, v6, v7, v8, v9, v10, v11, v12, v13, v14])), (h2, .inl (cc0, 6, .inl (upd (upd (upd (upd (upd (upd (fun _ => 0) 0 x0) 1 x1) 2 x2) 3 x3) 4 x4) 5 x5)))]) (w1 := [(h1, .inr (11, [.ref h2, .int 6]))]) hP hD [1] [0, 2] rfl rfl (by decide) (by decide) hk1 hFc hP1 hD1
  have hK := (hK.sub (tys' := [(cc0, .int)]) [0] rfl).app hK1
  generalize H1 = H at hP hS ⊢
  have hP : va_P (dC, dI) vwCl [(h0, .inr (16, [v0, v1, .ref h1, v2, v3, v4, v5, v6, v7, v8, v9, v10, v11, v12, v13, v14])), (h2, .inl (cc0, 6, .inl (upd (upd (upd (upd (upd (upd (fun _ => 0) 0 x0) 1 x1) 2 x2) 3 x3) 4 x4) 5 x5))), (h1, .inr (11, [.ref h2, .int 6]))] H := hP
  have hD : va_D A [(h0, .inr (16, [v0, v1, .ref h1, v2, v3, v4, v5, v6, v7, v8, v9, v10, v11, v12, v13, v14])), (h2, .inl (cc0, 6, .inl (upd (upd (upd (upd (upd (upd (fun _ => 0) 0 x0) 1 x1) 2 x2) 3 x3) 4 x4) 5 x5))), (h1, .inr (11, [.ref h2, .int 6]))] := hD
  have hK : va_K (dC, dI) vwCl [(cc0, .int)] s := hK
  refine W.widen (k := 0) (n := 0) (Nat.le_of_ble_eq_true rfl) (Nat.le_of_ble_eq_true rfl) ?_
  refine lv_icmp_ge (tgt := 55) hx hb dX9_needCodes_10 (by decide) (fun c16 => absurd c16 (by decide)) (fun c16 => ?_)
  refine lv_aload_n hx hb dX9_needCodes_13 rfl (lv_at hl 1 rfl) ?_
  refine va_get (D := (dC, dI)) (ci := 16) (v := .ref h1) (C := RX9) (T := TX9) (N := 16) hx hb hta naX9 hown hK hP 0 rfl rfl 2 (by decide) (hta _ wm33) (fun _ h9 => h9) rfl dX9_needCodes_14 ?_
  refine lv_iload_n hx hb dX9_needCodes_17 rfl (lv_at hl 0 rfl) ?_
  have hPc := hP.sub (ws' := [(h1, .inr (11, [.ref h2, .int 6])), (h2, .inl (cc0, 6, .inl (upd (upd (upd (upd (upd (upd (fun _ => 0) 0 x0) 1 x1) 2 x2) 3 x3) 4 x4) 5 x5)))]) [2, 1] rfl
  have hDc := hD.sub (ws' := [(h1, .inr (11, [.ref h2, .int 6])), (h2, .inl (cc0, 6, .inl (upd (upd (upd (upd (upd (upd (fun _ => 0) 0 x0) 1 x1) 2 x2) 3 x3) 4 x4) 5 x5)))]) [2, 1] (by decide) rfl
  have hKc := hK.sub (tys' := [(cc0, .int)]) [0] rfl
  have hFc := va_free (wc := [(h1, .inr (11, [.ref h2, .int 6])), (h2, .inl (cc0, 6, .inl (upd (upd (upd (upd (upd (upd (fun _ => 0) 0 x0) 1 x1) 2 x2) 3 x3) 4 x4) 5 x5)))]) hD hS hA [2, 1] rfl
  refine va_calli (va_runV (As := [.int 5]) (rest := []) ⟨hx, hb, hml, hown, hts⟩ (kX4_get_33 l dC dI g H.size h1 h2 cc0 x0 x1 x2 x3 x4 x5 ⟨by omega, by omega⟩ ⟨by omega, by omega⟩ ⟨by omega, by omega⟩ ⟨by omega, by omega⟩ ⟨by omega, by omega⟩ ⟨by omega, by omega⟩) (cwV 1 hts (ns_gp (List.forall_mem_cons.mpr ⟨wm550, (List.forall_mem_cons.mpr ⟨wm551, (List.forall_mem_cons.mpr ⟨wm552, (List.forall_mem_cons.mpr ⟨wm12, (fun _ h9 => nomatch h9)⟩)⟩)⟩)⟩) wm548) rfl rfl rfl (by decide +kernel) ⟨Nat.le_of_ble_eq_true rfl, Nat.le_of_ble_eq_true rfl⟩) ⟨fun a U gg mk q => by obtain ⟨q0, q1, qP, qK, qD, qF⟩ := q; exact ⟨q0, q1, qP, va_K.moved (u := U) (U := U.calling gg mk a) (Vm.Alike.refl U.vm) qK, qD, ns_same qF⟩, va_recv hK hP (ci := 11) (q0 := 2) rfl rfl, fun U hU hW => ⟨rfl, by rw [hU], by rw [hU]; exact hPc, va_K.moved hW.alike hKc, hDc.weaken (fun _ _ _ _ => trivial), ns_call hF hS hFc hU hW⟩⟩ rfl rfl hl.1 rfl (lv_room (Nat.le_of_ble_eq_true rfl)) dX9_needCodes_18 ⟨Nat.le_of_ble_eq_true rfl, Nat.le_of_ble_eq_true rfl⟩) hS (fun q _ h => hFc q h) hFc (fun r9 u t H1 locs ht hvm hw hB hz1 hk1 hS => ?_)
  obtain rfl := hw.symm
  obtain ⟨hP1, hK1, hD1⟩ := hB
  rw [ht] at hP1
  have hK1 := va_K.moved hvm.symm hK1
  obtain ⟨hP, hD⟩ := va_join (wr := [(h0, .inr (16, [v0, v1, .ref h1, v2, v3, v4, v5, v6, v7, v8, v9, v10, v11, v12, v13, v14]))]) (w1 := [(h1, .inr (11, [.ref h2, .int 6])), (h2, .inl (cc0, 6, .inl (upd (upd (upd (upd (upd (upd (fun _ => 0) 0 x0) 1 x1) 2 x2) 3 x3) 4 x4) 5 x5)))]) hP hD [2, 1] [0] rfl rfl (by decide) (by decide) hk1 hFc hP1 hD1
  have hK := (hK.sub (tys' := []) [] rfl).app hK1
  generalize H1 = H at hP hS ⊢
  have hP : va_P (dC, dI) vwCl [(h0, .inr (16, [v0, v1, .ref h1, v2, v3, v4, v5, v6, v7, v8, v9, v10, v11, v12, v13, v14])), (h1, .inr (11, [.ref h2, .int 6])), (h2, .inl (cc0, 6, .inl (upd (upd (upd (upd (upd (upd (fun _ => 0) 0 x0) 1 x1) 2 x2) 3 x3) 4 x4) 5 x5)))] H := hP
  have hD : va_D A [(h0, .inr (16, [v0, v1, .ref h1, v2, v3, v4, v5, v6, v7, v8, v9, v10, v11, v12, v13, v14])), (h1, .inr (11, [.ref h2, .int 6])), (h2, .inl (cc0, 6, .inl (upd (upd (upd (upd (upd (upd (fun _ => 0) 0 x0) 1 x1) 2 x2) 3 x3) 4 x4) 5 x5)))] := hD
  have hK : va_K (dC, dI) vwCl [(cc0, .int)] s := hK
  refine W.widen (k := 0) (n := 0) (Nat.le_of_ble_eq_true rfl) (Nat.le_of_ble_eq_true rfl) ?_
  refine lv_iconst (v := (-1)) hx hb dX9_needCodes_21 (by decide) ?_
  refine lv_icmp_lt (tgt := 38) hx hb dX9_needCodes_22 (by decide) (fun c17 => absurd c17 (fun z => absurd (show x5.toInt < (-1 : Int) from Int32.lt_iff_toInt_lt.mp z) (by omega))) (fun c17 => ?_)
  refine lv_aload_n hx hb dX9_needCodes_25 rfl (lv_at hl 1 rfl) ?_
  refine va_get (D := (dC, dI)) (ci := 16) (v := .ref h1) (C := RX9) (T := TX9) (N := 16) hx hb hta naX9 hown hK hP 0 rfl rfl 2 (by decide) (hta _ wm33) (fun _ h9 => h9) rfl dX9_needCodes_26 ?_
  refine lv_iload_n hx hb dX9_needCodes_29 rfl (lv_at hl 0 rfl) ?_
  have hPc := hP.sub (ws' := [(h1, .inr (11, [.ref h2, .int 6])), (h2, .inl (cc0, 6, .inl (upd (upd (upd (upd (upd (upd (fun _ => 0) 0 x0) 1 x1) 2 x2) 3 x3) 4 x4) 5 x5)))]) [1, 2] rfl
  have hDc := hD.sub (ws' := [(h1, .inr (11, [.ref h2, .int 6])), (h2, .inl (cc0, 6, .inl (upd (upd (upd (upd (upd (upd (fun _ => 0) 0 x0) 1 x1) 2 x2) 3 x3) 4 x4) 5 x5)))]) [1, 2] (by decide) rfl
  have hKc := hK.sub (tys' := [(cc0, .int)]) [0] rfl
  have hFc := va_free (wc := [(h1, .inr (11, [.ref h2, .int 6])), (h2, .inl (cc0, 6, .inl (upd (upd (upd (upd (upd (upd (fun _ => 0) 0 x0) 1 x1) 2 x2) 3 x3) 4 x4) 5 x5)))]) hD hS hA [1, 2] rfl
  refine va_calli (va_runV (As := [.int 5]) (rest := []) ⟨hx, hb, hml, hown, hts⟩ (kX4_get_33 l dC dI g H.size h1 h2 cc0 x0 x1 x2 x3 x4 x5 ⟨by omega, by omega⟩ ⟨by omega, by omega⟩ ⟨by omega, by omega⟩ ⟨by omega, by omega⟩ ⟨by omega, by omega⟩ ⟨by omega, by omega⟩) (cwV 1 hts (ns_gp (List.forall_mem_cons.mpr ⟨wm550, (List.forall_mem_cons.mpr ⟨wm551, (List.forall_mem_cons.mpr ⟨wm552, (List.forall_mem_cons.mpr ⟨wm12, (fun _ h9 => nomatch h9)⟩)⟩)⟩)⟩) wm548) rfl rfl rfl (by decide +kernel) ⟨Nat.le_of_ble_eq_true rfl, Nat.le_of_ble_eq_true rfl⟩) ⟨fun a U gg mk q => by obtain ⟨q0, q1, qP, qK, qD, qF⟩ := q; exact ⟨q0, q1, qP, va_K.moved (u := U) (U := U.calling gg mk a) (Vm.Alike.refl U.vm) qK, qD, ns_same qF⟩, va_recv hK hP (ci := 11) (q0 := 1) rfl rfl, fun U hU hW => ⟨rfl, by rw [hU], by rw [hU]; exact hPc, va_K.moved hW.alike hKc, hDc.weaken (fun _ _ _ _ => trivial), ns_call hF hS hFc hU hW⟩⟩ rfl rfl hl.1 rfl (lv_room (Nat.le_of_ble_eq_true rfl)) dX9_needCodes_30 ⟨Nat.le_of_ble_eq_true rfl, Nat.le_of_ble_eq_true rfl⟩) hS (fun q _ h => hFc q h) hFc (fun r9 u t H1 locs ht hvm hw hB hz1 hk1 hS => ?_)
  obtain rfl := hw.symm
  obtain ⟨hP1, hK1, hD1⟩ := hB
  rw [ht] at hP1
  have hK1 := va_K.moved hvm.symm hK1
  obtain ⟨hP, hD⟩ := va_join (wr := [(h0, .inr (16, [v0, v1, .ref h1, v2, v3, v4, v5, v6, v7, v8, v9, v10, v11, v12, v13, v14]))]) (w1 := [(h1, .inr (11, [.ref h2, .int 6])), (h2, .inl (cc0, 6, .inl (upd (upd (upd (upd (upd (upd (fun _ => 0) 0 x0) 1 x1) 2 x2) 3 x3) 4 x4) 5 x5)))]) hP hD [1, 2] [0] rfl rfl (by decide) (by decide) hk1 hFc hP1 hD1
  have hK := (hK.sub (tys' := []) [] rfl).app hK1
  generalize H1 = H at hP hS ⊢
  have hP : va_P (dC, dI) vwCl [(h0, .inr (16, [v0, v1, .ref h1, v2, v3, v4, v5, v6, v7, v8, v9, v10, v11, v12, v13, v14])), (h1, .inr (11, [.ref h2, .int 6])), (h2, .inl (cc0, 6, .inl (upd (upd (upd (upd (upd (upd (fun _ => 0) 0 x0) 1 x1) 2 x2) 3 x3) 4 x4) 5 x5)))] H := hP
  have hD : va_D A [(h0, .inr (16, [v0, v1, .ref h1, v2, v3, v4, v5, v6, v7, v8, v9, v10, v11, v12, v13, v14])), (h1, .inr (11, [.ref h2, .int 6])), (h2, .inl (cc0, 6, .inl (upd (upd (upd (upd (upd (upd (fun _ => 0) 0 x0) 1 x1) 2 x2) 3 x3) 4 x4) 5 x5)))] := hD
  have hK : va_K (dC, dI) vwCl [(cc0, .int)] s := hK
  refine W.widen (k := 0) (n := 0) (Nat.le_of_ble_eq_true rfl) (Nat.le_of_ble_eq_true rfl) ?_
  refine lv_bipush (v := 21) hx hb dX9_needCodes_33 (by decide) ?_
  refine lv_icmp_le (tgt := 49) hx hb dX9_needCodes_35 (by decide) (fun c18 => absurd c18 (fun z => absurd (show x5.toInt ≤ (21 : Int) from Int32.le_iff_toInt_le.mp z) (by omega))) (fun c18 => ?_)
  exact vx_throwSW hx hb hlt (text := "a code is -1 to 21") (sa := (g 30)) (names := ["java/lang/RuntimeException", "java/lang/Exception"]) hown (by decide) (by decide) (hta _ wm225) (hta _ wm226) (ns_f31 hF) (vx_hat (B := [.declares ⟨"java/lang/RuntimeException", "<init>", "(Ljava/lang/String;)V"⟩, .declares ⟨"java/lang/Exception", "<init>", "(Ljava/lang/String;)V"⟩, .declares ⟨"java/lang/Throwable", "<init>", "(Ljava/lang/String;)V"⟩, .castable "java/lang/IllegalArgumentException" "java/lang/IllegalArgumentException"]) (fun w9 h9 => hta w9 (vm0 w9 h9)) (by decide +kernel) (vx_c (va_Nw.use rfl (ns_f12 hF)) (vx_c (va_Nw.use rfl (ns_f13 hF)) (vx_c (va_Nw.use rfl (ns_f14 hF)) (vx_c (va_Nw.use rfl (ns_f11 hF)) vx_n))))) (by decide +kernel) (ns_f18 hF) (ns_f19 hF) hS (by rw [hml]; exact hl.1) dX9_needCodes_38 dX9_needCodes_41 dX9_needCodes_42 dX9_needCodes_45 dX9_needCodes_48 (fun x hx => (hnox x hx).elim) (Nat.le_of_ble_eq_true rfl) (Nat.le_of_ble_eq_true rfl) (Nat.le_of_ble_eq_true rfl) (Nat.le_of_ble_eq_true rfl) hlocks (fun t9 hal hsz9 hk9 => ⟨(), trivial, rfl, Nat.le_trans hS.1 hsz9, fun q hq1 hq2 => (hk9 q (Nat.lt_of_lt_of_le hq1 hS.1)).trans (hS.2.1 q hq1 hq2)⟩) hS.2.2 (Nat.le_of_ble_eq_true rfl) (Nat.le_of_ble_eq_true rfl)
set_option maxHeartbeats 4000000 in
set_option maxRecDepth 100000 in
theorem kX9_needCodes_12 (l : Launch) (dC : Nat → ClassId) (dI : Nat → Nat → Nat) (g : Nat → Nat) (sz : Nat) (h0 : Nat) (h1 : Nat) (h2 : Nat) (v0 : Value) (v1 : Value) (v2 : Value) (v3 : Value) (v4 : Value) (v5 : Value) (v6 : Value) (v7 : Value) (v8 : Value) (v9 : Value) (v10 : Value) (v11 : Value) (v12 : Value) (v13 : Value) (v14 : Value) (cc0 : ClassId) (x0 : Int32) (x1 : Int32) (x2 : Int32) (x3 : Int32) (x4 : Int32) (x5 : Int32) (ex0 : (-1 : Int) ≤ x0.toInt ∧ x0.toInt ≤ (21 : Int)) (ex1 : (22 : Int) ≤ x1.toInt ∧ x1.toInt ≤ (2147483647 : Int)) (hlt : l.stackTraces = false) : vx_Met l yX9_needCodes wbX9_needCodes ({ frames := 6, cells := 1, slots := 6, locals := 82 }) (va_Pc [.ref h0] (fun U => U.heap.size = sz ∧ va_P (dC, dI) vwCl [(h0, .inr (16, [v0, v1, .ref h1, v2, v3, v4, v5, v6, v7, v8, v9, v10, v11, v12, v13, v14])), (h1, .inr (11, [.ref h2, .int 6])), (h2, .inl (cc0, 6, .inl (upd (upd (upd (upd (upd (upd (fun _ => 0) 0 x0) 1 x1) 2 x2) 3 x3) 4 x4) 5 x5)))] U.heap ∧ va_K (dC, dI) vwCl [(cc0, .int)] U ∧ va_D (fun _ => True) [(h0, .inr (16, [v0, v1, .ref h1, v2, v3, v4, v5, v6, v7, v8, v9, v10, v11, v12, v13, v14])), (h1, .inr (11, [.ref h2, .int 6])), (h2, .inl (cc0, 6, .inl (upd (upd (upd (upd (upd (upd (fun _ => 0) 0 x0) 1 x1) 2 x2) 3 x3) 4 x4) 5 x5)))] ∧ ns_F g (va_A [(h0, .inr (16, [v0, v1, .ref h1, v2, v3, v4, v5, v6, v7, v8, v9, v10, v11, v12, v13, v14])), (h1, .inr (11, [.ref h2, .int 6])), (h2, .inl (cc0, 6, .inl (upd (upd (upd (upd (upd (upd (fun _ => 0) 0 x0) 1 x1) 2 x2) 3 x3) 4 x4) 5 x5)))] sz) U U.heap)) (va_Qv (fun _ : Unit => False) (fun _ _ => True) (va_A [(h0, .inr (16, [v0, v1, .ref h1, v2, v3, v4, v5, v6, v7, v8, v9, v10, v11, v12, v13, v14])), (h1, .inr (11, [.ref h2, .int 6])), (h2, .inl (cc0, 6, .inl (upd (upd (upd (upd (upd (upd (fun _ => 0) 0 x0) 1 x1) 2 x2) 3 x3) 4 x4) 5 x5)))] sz)) (vx_X (fun _ : Unit => True) (fun E _ _ => E = "java/lang/IllegalArgumentException") (va_A [(h0, .inr (16, [v0, v1, .ref h1, v2, v3, v4, v5, v6, v7, v8, v9, v10, v11, v12, v13, v14])), (h1, .inr (11, [.ref h2, .int 6])), (h2, .inl (cc0, 6, .inl (upd (upd (upd (upd (upd (upd (fun _ => 0) 0 x0) 1 x1) 2 x2) 3 x3) 4 x4) 5 x5)))] sz)) 1 6 (va_A [(h0, .inr (16, [v0, v1, .ref h1, v2, v3, v4, v5, v6, v7, v8, v9, v10, v11, v12, v13, v14])), (h1, .inr (11, [.ref h2, .int 6])), (h2, .inl (cc0, 6, .inl (upd (upd (upd (upd (upd (upd (fun _ => 0) 0 x0) 1 x1) 2 x2) 3 x3) 4 x4) 5 x5)))] sz) := by
  refine vx_ofW (cc := cX9_needCodes) (maxL := 3) (ret := none) (by decide) rfl ?_
  intro p e s m args below meth c s₁ B hml hnox hv
  obtain ⟨rfl, hsz, hP, hK, hD0, hF⟩ := hv
  have hx := B.exec
  have hb := B.bytes
  have hr := B.returns
  have hts := atoms_spec (ws := wbX9_needCodes) B.pre
  have hta : ∀ w ∈ wsALL, w.before _ s = true := fun w h => hts w (List.mem_cons_of_mem _ h)
  have hown : s.vm.findClass RX9 = some m.cls := findClass_of_methodNamed B.named
  have hlocks := B.notSynchronized
  subst hsz
  have hD := hD0.self (sz := s.heap.size)
  generalize hAe : va_A [(h0, .inr (16, [v0, v1, .ref h1, v2, v3, v4, v5, v6, v7, v8, v9, v10, v11, v12, v13, v14])), (h1, .inr (11, [.ref h2, .int 6])), (h2, .inl (cc0, 6, .inl (upd (upd (upd (upd (upd (upd (fun _ => 0) 0 x0) 1 x1) 2 x2) 3 x3) 4 x4) 5 x5)))] s.heap.size = A at hD hF ⊢
  have hA : ∀ q : Nat, s.heap.size ≤ q → A q := fun q h => by rw [← hAe]; exact Or.inr h
  have hS : va_S A s.heap s.heap [] := va_S.rf
  have hP : va_P (dC, dI) vwCl [(h0, .inr (16, [v0, v1, .ref h1, v2, v3, v4, v5, v6, v7, v8, v9, v10, v11, v12, v13, v14])), (h1, .inr (11, [.ref h2, .int 6])), (h2, .inl (cc0, 6, .inl (upd (upd (upd (upd (upd (upd (fun _ => 0) 0 x0) 1 x1) 2 x2) 3 x3) 4 x4) 5 x5)))] s.heap := hP
  have hl := lv_entry ([.ref h0]) (n := 3) (Nat.le_of_ble_eq_true rfl)
  rw [lg_entry_eq]
  generalize (lg_sl ([.ref h0]) ++ List.replicate (3 - (lg_sl ([.ref h0])).length) Slot.unset).toArray = ls at hl ⊢
  have hl : lv_has ls 3 [(0, .ref h0)] := hl
  refine lv_iconst (v := 0) hx hb dX9_needCodes_0 (by decide) ?_
  refine lv_istore_n (lv' := [(1, .int 0), (0, .ref h0)]) hx hb dX9_needCodes_1 rfl hl (by decide) rfl (fun ls hl => ?_)
  refine lv_iload_n hx hb dX9_needCodes_2 rfl (lv_at hl 0 rfl) ?_
  refine lv_aload_n hx hb dX9_needCodes_3 rfl (lv_at hl 1 rfl) ?_
  refine va_get (D := (dC, dI)) (ci := 16) (v := .ref h1) (C := RX9) (T := TX9) (N := 16) hx hb hta naX9 hown hK hP 0 rfl rfl 2 (by decide) (hta _ wm33) (fun _ h9 => h9) rfl dX9_needCodes_4 ?_
  have hPc := hP.sub (ws' := [(h1, .inr (11, [.ref h2, .int 6]))]) [1] rfl
  have hDc := hD.sub (ws' := [(h1, .inr (11, [.ref h2, .int 6]))]) [1] (by decide) rfl
  have hKc := hK.sub (tys' := []) [] rfl
  have hFc := va_free (wc := [(h1, .inr (11, [.ref h2, .int 6]))]) hD hS hA [1] rfl
  refine va_calli (va_runV (As := []) (rest := [.int 0]) ⟨hx, hb, hml, hown, hts⟩ (kX4_size_7 l dC dI g s.heap.size h1 (.ref h2) ) (cwV 0 hts (ns_gp (List.forall_mem_cons.mpr ⟨wm549, (List.forall_mem_cons.mpr ⟨wm249, (List.forall_mem_cons.mpr ⟨wm250, (List.forall_mem_cons.mpr ⟨wm12, (fun _ h9 => nomatch h9)⟩)⟩)⟩)⟩) wm247) rfl rfl rfl (by decide +kernel) ⟨Nat.le_of_ble_eq_true rfl, Nat.le_of_ble_eq_true rfl⟩) ⟨fun a U gg mk q => by obtain ⟨q0, q1, qP, qK, qD, qF⟩ := q; exact ⟨q0, q1, qP, va_K.moved (u := U) (U := U.calling gg mk a) (Vm.Alike.refl U.vm) qK, qD, ns_same qF⟩, va_recv hK hP (ci := 11) (q0 := 1) rfl rfl, fun U hU hW => ⟨rfl, by rw [hU], by rw [hU]; exact hPc, va_K.moved hW.alike hKc, hDc.weaken (fun _ _ _ _ => trivial), ns_call hF hS hFc hU hW⟩⟩ rfl rfl hl.1 rfl (lv_room (Nat.le_of_ble_eq_true rfl)) dX9_needCodes_7 ⟨Nat.le_of_ble_eq_true rfl, Nat.le_of_ble_eq_true rfl⟩) hS (fun q _ h => hFc q h) hFc (fun r9 u t H1 locs ht hvm hw hB hz1 hk1 hS => ?_)
  obtain rfl := hw.symm
  obtain ⟨hP1, hK1, hD1⟩ := hB
  rw [ht] at hP1
  have hK1 := va_K.moved hvm.symm hK1
  obtain ⟨hP, hD⟩ := va_join (wr := [(h0, .inr (16, [v0, v1, .ref h1, v2, v3, v4, v5, v6, v7, v8, v9, v10, v11, v12, v13, v14])), (h2, .inl (cc0, 6, .inl (upd (upd (upd (upd (upd (upd (fun _ => 0) 0 x0) 1 x1) 2 x2) 3 x3) 4 x4) 5 x5)))]) (w1 := [(h1, .inr (11, [.ref h2, .int 6]))]) hP hD [1] [0, 2] rfl rfl (by decide) (by decide) hk1 hFc hP1 hD1
  have hK := (hK.sub (tys' := [(cc0, .int)]) [0] rfl).app hK1
  generalize H1 = H at hP hS ⊢
  have hP : va_P (dC, dI) vwCl [(h0, .inr (16, [v0, v1, .ref h1, v2, v3, v4, v5, v6, v7, v8, v9, v10, v11, v12, v13, v14])), (h2, .inl (cc0, 6, .inl (upd (upd (upd (upd (upd (upd (fun _ => 0) 0 x0) 1 x1) 2 x2) 3 x3) 4 x4) 5 x5))), (h1, .inr (11, [.ref h2, .int 6]))] H := hP
  have hD : va_D A [(h0, .inr (16, [v0, v1, .ref h1, v2, v3, v4, v5, v6, v7, v8, v9, v10, v11, v12, v13, v14])), (h2, .inl (cc0, 6, .inl (upd (upd (upd (upd (upd (upd (fun _ => 0) 0 x0) 1 x1) 2 x2) 3 x3) 4 x4) 5 x5))), (h1, .inr (11, [.ref h2, .int 6]))] := hD
  have hK : va_K (dC, dI) vwCl [(cc0, .int)] s := hK
  refine W.widen (k := 0) (n := 0) (Nat.le_of_ble_eq_true rfl) (Nat.le_of_ble_eq_true rfl) ?_
  refine lv_icmp_ge (tgt := 55) hx hb dX9_needCodes_10 (by decide) (fun c1 => absurd c1 (by decide)) (fun c1 => ?_)
  refine lv_aload_n hx hb dX9_needCodes_13 rfl (lv_at hl 1 rfl) ?_
  refine va_get (D := (dC, dI)) (ci := 16) (v := .ref h1) (C := RX9) (T := TX9) (N := 16) hx hb hta naX9 hown hK hP 0 rfl rfl 2 (by decide) (hta _ wm33) (fun _ h9 => h9) rfl dX9_needCodes_14 ?_
  refine lv_iload_n hx hb dX9_needCodes_17 rfl (lv_at hl 0 rfl) ?_
  have hPc := hP.sub (ws' := [(h1, .inr (11, [.ref h2, .int 6])), (h2, .inl (cc0, 6, .inl (upd (upd (upd (upd (upd (upd (fun _ => 0) 0 x0) 1 x1) 2 x2) 3 x3) 4 x4) 5 x5)))]) [2, 1] rfl
  have hDc := hD.sub (ws' := [(h1, .inr (11, [.ref h2, .int 6])), (h2, .inl (cc0, 6, .inl (upd (upd (upd (upd (upd (upd (fun _ => 0) 0 x0) 1 x1) 2 x2) 3 x3) 4 x4) 5 x5)))]) [2, 1] (by decide) rfl
  have hKc := hK.sub (tys' := [(cc0, .int)]) [0] rfl
  have hFc := va_free (wc := [(h1, .inr (11, [.ref h2, .int 6])), (h2, .inl (cc0, 6, .inl (upd (upd (upd (upd (upd (upd (fun _ => 0) 0 x0) 1 x1) 2 x2) 3 x3) 4 x4) 5 x5)))]) hD hS hA [2, 1] rfl
  refine va_calli (va_runV (As := [.int 0]) (rest := []) ⟨hx, hb, hml, hown, hts⟩ (kX4_get_46 l dC dI g H.size h1 h2 cc0 x0 x1 x2 x3 x4 x5 ⟨by omega, by omega⟩ ⟨by omega, by omega⟩) (cwV 1 hts (ns_gp (List.forall_mem_cons.mpr ⟨wm550, (List.forall_mem_cons.mpr ⟨wm551, (List.forall_mem_cons.mpr ⟨wm552, (List.forall_mem_cons.mpr ⟨wm12, (fun _ h9 => nomatch h9)⟩)⟩)⟩)⟩) wm548) rfl rfl rfl (by decide +kernel) ⟨Nat.le_of_ble_eq_true rfl, Nat.le_of_ble_eq_true rfl⟩) ⟨fun a U gg mk q => by obtain ⟨q0, q1, qP, qK, qD, qF⟩ := q; exact ⟨q0, q1, qP, va_K.moved (u := U) (U := U.calling gg mk a) (Vm.Alike.refl U.vm) qK, qD, ns_same qF⟩, va_recv hK hP (ci := 11) (q0 := 2) rfl rfl, fun U hU hW => ⟨rfl, by rw [hU], by rw [hU]; exact hPc, va_K.moved hW.alike hKc, hDc.weaken (fun _ _ _ _ => trivial), ns_call hF hS hFc hU hW⟩⟩ rfl rfl hl.1 rfl (lv_room (Nat.le_of_ble_eq_true rfl)) dX9_needCodes_18 ⟨Nat.le_of_ble_eq_true rfl, Nat.le_of_ble_eq_true rfl⟩) hS (fun q _ h => hFc q h) hFc (fun r9 u t H1 locs ht hvm hw hB hz1 hk1 hS => ?_)
  obtain rfl := hw.symm
  obtain ⟨hP1, hK1, hD1⟩ := hB
  rw [ht] at hP1
  have hK1 := va_K.moved hvm.symm hK1
  obtain ⟨hP, hD⟩ := va_join (wr := [(h0, .inr (16, [v0, v1, .ref h1, v2, v3, v4, v5, v6, v7, v8, v9, v10, v11, v12, v13, v14]))]) (w1 := [(h1, .inr (11, [.ref h2, .int 6])), (h2, .inl (cc0, 6, .inl (upd (upd (upd (upd (upd (upd (fun _ => 0) 0 x0) 1 x1) 2 x2) 3 x3) 4 x4) 5 x5)))]) hP hD [2, 1] [0] rfl rfl (by decide) (by decide) hk1 hFc hP1 hD1
  have hK := (hK.sub (tys' := []) [] rfl).app hK1
  generalize H1 = H at hP hS ⊢
  have hP : va_P (dC, dI) vwCl [(h0, .inr (16, [v0, v1, .ref h1, v2, v3, v4, v5, v6, v7, v8, v9, v10, v11, v12, v13, v14])), (h1, .inr (11, [.ref h2, .int 6])), (h2, .inl (cc0, 6, .inl (upd (upd (upd (upd (upd (upd (fun _ => 0) 0 x0) 1 x1) 2 x2) 3 x3) 4 x4) 5 x5)))] H := hP
  have hD : va_D A [(h0, .inr (16, [v0, v1, .ref h1, v2, v3, v4, v5, v6, v7, v8, v9, v10, v11, v12, v13, v14])), (h1, .inr (11, [.ref h2, .int 6])), (h2, .inl (cc0, 6, .inl (upd (upd (upd (upd (upd (upd (fun _ => 0) 0 x0) 1 x1) 2 x2) 3 x3) 4 x4) 5 x5)))] := hD
  have hK : va_K (dC, dI) vwCl [(cc0, .int)] s := hK
  refine W.widen (k := 0) (n := 0) (Nat.le_of_ble_eq_true rfl) (Nat.le_of_ble_eq_true rfl) ?_
  refine lv_iconst (v := (-1)) hx hb dX9_needCodes_21 (by decide) ?_
  refine lv_icmp_lt (tgt := 38) hx hb dX9_needCodes_22 (by decide) (fun c2 => absurd c2 (fun z => absurd (show x0.toInt < (-1 : Int) from Int32.lt_iff_toInt_lt.mp z) (by omega))) (fun c2 => ?_)
  refine lv_aload_n hx hb dX9_needCodes_25 rfl (lv_at hl 1 rfl) ?_
  refine va_get (D := (dC, dI)) (ci := 16) (v := .ref h1) (C := RX9) (T := TX9) (N := 16) hx hb hta naX9 hown hK hP 0 rfl rfl 2 (by decide) (hta _ wm33) (fun _ h9 => h9) rfl dX9_needCodes_26 ?_
  refine lv_iload_n hx hb dX9_needCodes_29 rfl (lv_at hl 0 rfl) ?_
  have hPc := hP.sub (ws' := [(h1, .inr (11, [.ref h2, .int 6])), (h2, .inl (cc0, 6, .inl (upd (upd (upd (upd (upd (upd (fun _ => 0) 0 x0) 1 x1) 2 x2) 3 x3) 4 x4) 5 x5)))]) [1, 2] rfl
  have hDc := hD.sub (ws' := [(h1, .inr (11, [.ref h2, .int 6])), (h2, .inl (cc0, 6, .inl (upd (upd (upd (upd (upd (upd (fun _ => 0) 0 x0) 1 x1) 2 x2) 3 x3) 4 x4) 5 x5)))]) [1, 2] (by decide) rfl
  have hKc := hK.sub (tys' := [(cc0, .int)]) [0] rfl
  have hFc := va_free (wc := [(h1, .inr (11, [.ref h2, .int 6])), (h2, .inl (cc0, 6, .inl (upd (upd (upd (upd (upd (upd (fun _ => 0) 0 x0) 1 x1) 2 x2) 3 x3) 4 x4) 5 x5)))]) hD hS hA [1, 2] rfl
  refine va_calli (va_runV (As := [.int 0]) (rest := []) ⟨hx, hb, hml, hown, hts⟩ (kX4_get_46 l dC dI g H.size h1 h2 cc0 x0 x1 x2 x3 x4 x5 ⟨by omega, by omega⟩ ⟨by omega, by omega⟩) (cwV 1 hts (ns_gp (List.forall_mem_cons.mpr ⟨wm550, (List.forall_mem_cons.mpr ⟨wm551, (List.forall_mem_cons.mpr ⟨wm552, (List.forall_mem_cons.mpr ⟨wm12, (fun _ h9 => nomatch h9)⟩)⟩)⟩)⟩) wm548) rfl rfl rfl (by decide +kernel) ⟨Nat.le_of_ble_eq_true rfl, Nat.le_of_ble_eq_true rfl⟩) ⟨fun a U gg mk q => by obtain ⟨q0, q1, qP, qK, qD, qF⟩ := q; exact ⟨q0, q1, qP, va_K.moved (u := U) (U := U.calling gg mk a) (Vm.Alike.refl U.vm) qK, qD, ns_same qF⟩, va_recv hK hP (ci := 11) (q0 := 1) rfl rfl, fun U hU hW => ⟨rfl, by rw [hU], by rw [hU]; exact hPc, va_K.moved hW.alike hKc, hDc.weaken (fun _ _ _ _ => trivial), ns_call hF hS hFc hU hW⟩⟩ rfl rfl hl.1 rfl (lv_room (Nat.le_of_ble_eq_true rfl)) dX9_needCodes_30 ⟨Nat.le_of_ble_eq_true rfl, Nat.le_of_ble_eq_true rfl⟩) hS (fun q _ h => hFc q h) hFc (fun r9 u t H1 locs ht hvm hw hB hz1 hk1 hS => ?_)
  obtain rfl := hw.symm
  obtain ⟨hP1, hK1, hD1⟩ := hB
  rw [ht] at hP1
  have hK1 := va_K.moved hvm.symm hK1
  obtain ⟨hP, hD⟩ := va_join (wr := [(h0, .inr (16, [v0, v1, .ref h1, v2, v3, v4, v5, v6, v7, v8, v9, v10, v11, v12, v13, v14]))]) (w1 := [(h1, .inr (11, [.ref h2, .int 6])), (h2, .inl (cc0, 6, .inl (upd (upd (upd (upd (upd (upd (fun _ => 0) 0 x0) 1 x1) 2 x2) 3 x3) 4 x4) 5 x5)))]) hP hD [1, 2] [0] rfl rfl (by decide) (by decide) hk1 hFc hP1 hD1
  have hK := (hK.sub (tys' := []) [] rfl).app hK1
  generalize H1 = H at hP hS ⊢
  have hP : va_P (dC, dI) vwCl [(h0, .inr (16, [v0, v1, .ref h1, v2, v3, v4, v5, v6, v7, v8, v9, v10, v11, v12, v13, v14])), (h1, .inr (11, [.ref h2, .int 6])), (h2, .inl (cc0, 6, .inl (upd (upd (upd (upd (upd (upd (fun _ => 0) 0 x0) 1 x1) 2 x2) 3 x3) 4 x4) 5 x5)))] H := hP
  have hD : va_D A [(h0, .inr (16, [v0, v1, .ref h1, v2, v3, v4, v5, v6, v7, v8, v9, v10, v11, v12, v13, v14])), (h1, .inr (11, [.ref h2, .int 6])), (h2, .inl (cc0, 6, .inl (upd (upd (upd (upd (upd (upd (fun _ => 0) 0 x0) 1 x1) 2 x2) 3 x3) 4 x4) 5 x5)))] := hD
  have hK : va_K (dC, dI) vwCl [(cc0, .int)] s := hK
  refine W.widen (k := 0) (n := 0) (Nat.le_of_ble_eq_true rfl) (Nat.le_of_ble_eq_true rfl) ?_
  refine lv_bipush (v := 21) hx hb dX9_needCodes_33 (by decide) ?_
  refine lv_icmp_le (tgt := 49) hx hb dX9_needCodes_35 (by decide) (fun c3 => ?_) (fun c3 => absurd (show x0 ≤ (21 : Int32) from Int32.le_iff_toInt_le.mpr (show x0.toInt ≤ (21 : Int) by omega)) c3)
  refine lv_iinc (v := 1) (lv' := [(1, .int 1), (0, .ref h0)]) hx hb dX9_needCodes_49 hl (k := 0) rfl (by decide) (by decide) rfl (fun ls hl => ?_)
  refine lv_goto (tgt := 2) hx hb dX9_needCodes_52 (by decide) ?_
  refine lv_iload_n hx hb dX9_needCodes_2 rfl (lv_at hl 0 rfl) ?_
  refine lv_aload_n hx hb dX9_needCodes_3 rfl (lv_at hl 1 rfl) ?_
  refine va_get (D := (dC, dI)) (ci := 16) (v := .ref h1) (C := RX9) (T := TX9) (N := 16) hx hb hta naX9 hown hK hP 0 rfl rfl 2 (by decide) (hta _ wm33) (fun _ h9 => h9) rfl dX9_needCodes_4 ?_
  have hPc := hP.sub (ws' := [(h1, .inr (11, [.ref h2, .int 6]))]) [1] rfl
  have hDc := hD.sub (ws' := [(h1, .inr (11, [.ref h2, .int 6]))]) [1] (by decide) rfl
  have hKc := hK.sub (tys' := []) [] rfl
  have hFc := va_free (wc := [(h1, .inr (11, [.ref h2, .int 6]))]) hD hS hA [1] rfl
  refine va_calli (va_runV (As := []) (rest := [.int 1]) ⟨hx, hb, hml, hown, hts⟩ (kX4_size_7 l dC dI g H.size h1 (.ref h2) ) (cwV 0 hts (ns_gp (List.forall_mem_cons.mpr ⟨wm549, (List.forall_mem_cons.mpr ⟨wm249, (List.forall_mem_cons.mpr ⟨wm250, (List.forall_mem_cons.mpr ⟨wm12, (fun _ h9 => nomatch h9)⟩)⟩)⟩)⟩) wm247) rfl rfl rfl (by decide +kernel) ⟨Nat.le_of_ble_eq_true rfl, Nat.le_of_ble_eq_true rfl⟩) ⟨fun a U gg mk q => by obtain ⟨q0, q1, qP, qK, qD, qF⟩ := q; exact ⟨q0, q1, qP, va_K.moved (u := U) (U := U.calling gg mk a) (Vm.Alike.refl U.vm) qK, qD, ns_same qF⟩, va_recv hK hP (ci := 11) (q0 := 1) rfl rfl, fun U hU hW => ⟨rfl, by rw [hU], by rw [hU]; exact hPc, va_K.moved hW.alike hKc, hDc.weaken (fun _ _ _ _ => trivial), ns_call hF hS hFc hU hW⟩⟩ rfl rfl hl.1 rfl (lv_room (Nat.le_of_ble_eq_true rfl)) dX9_needCodes_7 ⟨Nat.le_of_ble_eq_true rfl, Nat.le_of_ble_eq_true rfl⟩) hS (fun q _ h => hFc q h) hFc (fun r9 u t H1 locs ht hvm hw hB hz1 hk1 hS => ?_)
  obtain rfl := hw.symm
  obtain ⟨hP1, hK1, hD1⟩ := hB
  rw [ht] at hP1
  have hK1 := va_K.moved hvm.symm hK1
  obtain ⟨hP, hD⟩ := va_join (wr := [(h0, .inr (16, [v0, v1, .ref h1, v2, v3, v4, v5, v6, v7, v8, v9, v10, v11, v12, v13, v14])), (h2, .inl (cc0, 6, .inl (upd (upd (upd (upd (upd (upd (fun _ => 0) 0 x0) 1 x1) 2 x2) 3 x3) 4 x4) 5 x5)))]) (w1 := [(h1, .inr (11, [.ref h2, .int 6]))]) hP hD [1] [0, 2] rfl rfl (by decide) (by decide) hk1 hFc hP1 hD1
  have hK := (hK.sub (tys' := [(cc0, .int)]) [0] rfl).app hK1
  generalize H1 = H at hP hS ⊢
  have hP : va_P (dC, dI) vwCl [(h0, .inr (16, [v0, v1, .ref h1, v2, v3, v4, v5, v6, v7, v8, v9, v10, v11, v12, v13, v14])), (h2, .inl (cc0, 6, .inl (upd (upd (upd (upd (upd (upd (fun _ => 0) 0 x0) 1 x1) 2 x2) 3 x3) 4 x4) 5 x5))), (h1, .inr (11, [.ref h2, .int 6]))] H := hP
  have hD : va_D A [(h0, .inr (16, [v0, v1, .ref h1, v2, v3, v4, v5, v6, v7, v8, v9, v10, v11, v12, v13, v14])), (h2, .inl (cc0, 6, .inl (upd (upd (upd (upd (upd (upd (fun _ => 0) 0 x0) 1 x1) 2 x2) 3 x3) 4 x4) 5 x5))), (h1, .inr (11, [.ref h2, .int 6]))] := hD
  have hK : va_K (dC, dI) vwCl [(cc0, .int)] s := hK
  refine W.widen (k := 0) (n := 0) (Nat.le_of_ble_eq_true rfl) (Nat.le_of_ble_eq_true rfl) ?_
  refine lv_icmp_ge (tgt := 55) hx hb dX9_needCodes_10 (by decide) (fun c4 => absurd c4 (by decide)) (fun c4 => ?_)
  refine lv_aload_n hx hb dX9_needCodes_13 rfl (lv_at hl 1 rfl) ?_
  refine va_get (D := (dC, dI)) (ci := 16) (v := .ref h1) (C := RX9) (T := TX9) (N := 16) hx hb hta naX9 hown hK hP 0 rfl rfl 2 (by decide) (hta _ wm33) (fun _ h9 => h9) rfl dX9_needCodes_14 ?_
  refine lv_iload_n hx hb dX9_needCodes_17 rfl (lv_at hl 0 rfl) ?_
  have hPc := hP.sub (ws' := [(h1, .inr (11, [.ref h2, .int 6])), (h2, .inl (cc0, 6, .inl (upd (upd (upd (upd (upd (upd (fun _ => 0) 0 x0) 1 x1) 2 x2) 3 x3) 4 x4) 5 x5)))]) [2, 1] rfl
  have hDc := hD.sub (ws' := [(h1, .inr (11, [.ref h2, .int 6])), (h2, .inl (cc0, 6, .inl (upd (upd (upd (upd (upd (upd (fun _ => 0) 0 x0) 1 x1) 2 x2) 3 x3) 4 x4) 5 x5)))]) [2, 1] (by decide) rfl
  have hKc := hK.sub (tys' := [(cc0, .int)]) [0] rfl
  have hFc := va_free (wc := [(h1, .inr (11, [.ref h2, .int 6])), (h2, .inl (cc0, 6, .inl (upd (upd (upd (upd (upd (upd (fun _ => 0) 0 x0) 1 x1) 2 x2) 3 x3) 4 x4) 5 x5)))]) hD hS hA [2, 1] rfl
  refine va_calli (va_runV (As := [.int 1]) (rest := []) ⟨hx, hb, hml, hown, hts⟩ (kX4_get_47 l dC dI g H.size h1 h2 cc0 x0 x1 x2 x3 x4 x5 ⟨by omega, by omega⟩ ⟨by omega, by omega⟩) (cwV 1 hts (ns_gp (List.forall_mem_cons.mpr ⟨wm550, (List.forall_mem_cons.mpr ⟨wm551, (List.forall_mem_cons.mpr ⟨wm552, (List.forall_mem_cons.mpr ⟨wm12, (fun _ h9 => nomatch h9)⟩)⟩)⟩)⟩) wm548) rfl rfl rfl (by decide +kernel) ⟨Nat.le_of_ble_eq_true rfl, Nat.le_of_ble_eq_true rfl⟩) ⟨fun a U gg mk q => by obtain ⟨q0, q1, qP, qK, qD, qF⟩ := q; exact ⟨q0, q1, qP, va_K.moved (u := U) (U := U.calling gg mk a) (Vm.Alike.refl U.vm) qK, qD, ns_same qF⟩, va_recv hK hP (ci := 11) (q0 := 2) rfl rfl, fun U hU hW => ⟨rfl, by rw [hU], by rw [hU]; exact hPc, va_K.moved hW.alike hKc, hDc.weaken (fun _ _ _ _ => trivial), ns_call hF hS hFc hU hW⟩⟩ rfl rfl hl.1 rfl (lv_room (Nat.le_of_ble_eq_true rfl)) dX9_needCodes_18 ⟨Nat.le_of_ble_eq_true rfl, Nat.le_of_ble_eq_true rfl⟩) hS (fun q _ h => hFc q h) hFc (fun r9 u t H1 locs ht hvm hw hB hz1 hk1 hS => ?_)
  obtain rfl := hw.symm
  obtain ⟨hP1, hK1, hD1⟩ := hB
  rw [ht] at hP1
  have hK1 := va_K.moved hvm.symm hK1
  obtain ⟨hP, hD⟩ := va_join (wr := [(h0, .inr (16, [v0, v1, .ref h1, v2, v3, v4, v5, v6, v7, v8, v9, v10, v11, v12, v13, v14]))]) (w1 := [(h1, .inr (11, [.ref h2, .int 6])), (h2, .inl (cc0, 6, .inl (upd (upd (upd (upd (upd (upd (fun _ => 0) 0 x0) 1 x1) 2 x2) 3 x3) 4 x4) 5 x5)))]) hP hD [2, 1] [0] rfl rfl (by decide) (by decide) hk1 hFc hP1 hD1
  have hK := (hK.sub (tys' := []) [] rfl).app hK1
  generalize H1 = H at hP hS ⊢
  have hP : va_P (dC, dI) vwCl [(h0, .inr (16, [v0, v1, .ref h1, v2, v3, v4, v5, v6, v7, v8, v9, v10, v11, v12, v13, v14])), (h1, .inr (11, [.ref h2, .int 6])), (h2, .inl (cc0, 6, .inl (upd (upd (upd (upd (upd (upd (fun _ => 0) 0 x0) 1 x1) 2 x2) 3 x3) 4 x4) 5 x5)))] H := hP
  have hD : va_D A [(h0, .inr (16, [v0, v1, .ref h1, v2, v3, v4, v5, v6, v7, v8, v9, v10, v11, v12, v13, v14])), (h1, .inr (11, [.ref h2, .int 6])), (h2, .inl (cc0, 6, .inl (upd (upd (upd (upd (upd (upd (fun _ => 0) 0 x0) 1 x1) 2 x2) 3 x3) 4 x4) 5 x5)))] := hD
  have hK : va_K (dC, dI) vwCl [(cc0, .int)] s := hK
  refine W.widen (k := 0) (n := 0) (Nat.le_of_ble_eq_true rfl) (Nat.le_of_ble_eq_true rfl) ?_
  refine lv_iconst (v := (-1)) hx hb dX9_needCodes_21 (by decide) ?_
  refine lv_icmp_lt (tgt := 38) hx hb dX9_needCodes_22 (by decide) (fun c5 => absurd c5 (fun z => absurd (show x1.toInt < (-1 : Int) from Int32.lt_iff_toInt_lt.mp z) (by omega))) (fun c5 => ?_)
  refine lv_aload_n hx hb dX9_needCodes_25 rfl (lv_at hl 1 rfl) ?_
  refine va_get (D := (dC, dI)) (ci := 16) (v := .ref h1) (C := RX9) (T := TX9) (N := 16) hx hb hta naX9 hown hK hP 0 rfl rfl 2 (by decide) (hta _ wm33) (fun _ h9 => h9) rfl dX9_needCodes_26 ?_
  refine lv_iload_n hx hb dX9_needCodes_29 rfl (lv_at hl 0 rfl) ?_
  have hPc := hP.sub (ws' := [(h1, .inr (11, [.ref h2, .int 6])), (h2, .inl (cc0, 6, .inl (upd (upd (upd (upd (upd (upd (fun _ => 0) 0 x0) 1 x1) 2 x2) 3 x3) 4 x4) 5 x5)))]) [1, 2] rfl
  have hDc := hD.sub (ws' := [(h1, .inr (11, [.ref h2, .int 6])), (h2, .inl (cc0, 6, .inl (upd (upd (upd (upd (upd (upd (fun _ => 0) 0 x0) 1 x1) 2 x2) 3 x3) 4 x4) 5 x5)))]) [1, 2] (by decide) rfl
  have hKc := hK.sub (tys' := [(cc0, .int)]) [0] rfl
  have hFc := va_free (wc := [(h1, .inr (11, [.ref h2, .int 6])), (h2, .inl (cc0, 6, .inl (upd (upd (upd (upd (upd (upd (fun _ => 0) 0 x0) 1 x1) 2 x2) 3 x3) 4 x4) 5 x5)))]) hD hS hA [1, 2] rfl
  refine va_calli (va_runV (As := [.int 1]) (rest := []) ⟨hx, hb, hml, hown, hts⟩ (kX4_get_47 l dC dI g H.size h1 h2 cc0 x0 x1 x2 x3 x4 x5 ⟨by omega, by omega⟩ ⟨by omega, by omega⟩) (cwV 1 hts (ns_gp (List.forall_mem_cons.mpr ⟨wm550, (List.forall_mem_cons.mpr ⟨wm551, (List.forall_mem_cons.mpr ⟨wm552, (List.forall_mem_cons.mpr ⟨wm12, (fun _ h9 => nomatch h9)⟩)⟩)⟩)⟩) wm548) rfl rfl rfl (by decide +kernel) ⟨Nat.le_of_ble_eq_true rfl, Nat.le_of_ble_eq_true rfl⟩) ⟨fun a U gg mk q => by obtain ⟨q0, q1, qP, qK, qD, qF⟩ := q; exact ⟨q0, q1, qP, va_K.moved (u := U) (U := U.calling gg mk a) (Vm.Alike.refl U.vm) qK, qD, ns_same qF⟩, va_recv hK hP (ci := 11) (q0 := 1) rfl rfl, fun U hU hW => ⟨rfl, by rw [hU], by rw [hU]; exact hPc, va_K.moved hW.alike hKc, hDc.weaken (fun _ _ _ _ => trivial), ns_call hF hS hFc hU hW⟩⟩ rfl rfl hl.1 rfl (lv_room (Nat.le_of_ble_eq_true rfl)) dX9_needCodes_30 ⟨Nat.le_of_ble_eq_true rfl, Nat.le_of_ble_eq_true rfl⟩) hS (fun q _ h => hFc q h) hFc (fun r9 u t H1 locs ht hvm hw hB hz1 hk1 hS => ?_)
  obtain rfl := hw.symm
  obtain ⟨hP1, hK1, hD1⟩ := hB
  rw [ht] at hP1
  have hK1 := va_K.moved hvm.symm hK1
  obtain ⟨hP, hD⟩ := va_join (wr := [(h0, .inr (16, [v0, v1, .ref h1, v2, v3, v4, v5, v6, v7, v8, v9, v10, v11, v12, v13, v14]))]) (w1 := [(h1, .inr (11, [.ref h2, .int 6])), (h2, .inl (cc0, 6, .inl (upd (upd (upd (upd (upd (upd (fun _ => 0) 0 x0) 1 x1) 2 x2) 3 x3) 4 x4) 5 x5)))]) hP hD [1, 2] [0] rfl rfl (by decide) (by decide) hk1 hFc hP1 hD1
  have hK := (hK.sub (tys' := []) [] rfl).app hK1
  generalize H1 = H at hP hS ⊢
  have hP : va_P (dC, dI) vwCl [(h0, .inr (16, [v0, v1, .ref h1, v2, v3, v4, v5, v6, v7, v8, v9, v10, v11, v12, v13, v14])), (h1, .inr (11, [.ref h2, .int 6])), (h2, .inl (cc0, 6, .inl (upd (upd (upd (upd (upd (upd (fun _ => 0) 0 x0) 1 x1) 2 x2) 3 x3) 4 x4) 5 x5)))] H := hP
  have hD : va_D A [(h0, .inr (16, [v0, v1, .ref h1, v2, v3, v4, v5, v6, v7, v8, v9, v10, v11, v12, v13, v14])), (h1, .inr (11, [.ref h2, .int 6])), (h2, .inl (cc0, 6, .inl (upd (upd (upd (upd (upd (upd (fun _ => 0) 0 x0) 1 x1) 2 x2) 3 x3) 4 x4) 5 x5)))] := hD
  have hK : va_K (dC, dI) vwCl [(cc0, .int)] s := hK
  refine W.widen (k := 0) (n := 0) (Nat.le_of_ble_eq_true rfl) (Nat.le_of_ble_eq_true rfl) ?_
  refine lv_bipush (v := 21) hx hb dX9_needCodes_33 (by decide) ?_
  refine lv_icmp_le (tgt := 49) hx hb dX9_needCodes_35 (by decide) (fun c6 => absurd c6 (fun z => absurd (show x1.toInt ≤ (21 : Int) from Int32.le_iff_toInt_le.mp z) (by omega))) (fun c6 => ?_)
  exact vx_throwSW hx hb hlt (text := "a code is -1 to 21") (sa := (g 30)) (names := ["java/lang/RuntimeException", "java/lang/Exception"]) hown (by decide) (by decide) (hta _ wm225) (hta _ wm226) (ns_f31 hF) (vx_hat (B := [.declares ⟨"java/lang/RuntimeException", "<init>", "(Ljava/lang/String;)V"⟩, .declares ⟨"java/lang/Exception", "<init>", "(Ljava/lang/String;)V"⟩, .declares ⟨"java/lang/Throwable", "<init>", "(Ljava/lang/String;)V"⟩, .castable "java/lang/IllegalArgumentException" "java/lang/IllegalArgumentException"]) (fun w9 h9 => hta w9 (vm0 w9 h9)) (by decide +kernel) (vx_c (va_Nw.use rfl (ns_f12 hF)) (vx_c (va_Nw.use rfl (ns_f13 hF)) (vx_c (va_Nw.use rfl (ns_f14 hF)) (vx_c (va_Nw.use rfl (ns_f11 hF)) vx_n))))) (by decide +kernel) (ns_f18 hF) (ns_f19 hF) hS (by rw [hml]; exact hl.1) dX9_needCodes_38 dX9_needCodes_41 dX9_needCodes_42 dX9_needCodes_45 dX9_needCodes_48 (fun x hx => (hnox x hx).elim) (Nat.le_of_ble_eq_true rfl) (Nat.le_of_ble_eq_true rfl) (Nat.le_of_ble_eq_true rfl) (Nat.le_of_ble_eq_true rfl) hlocks (fun t9 hal hsz9 hk9 => ⟨(), trivial, rfl, Nat.le_trans hS.1 hsz9, fun q hq1 hq2 => (hk9 q (Nat.lt_of_lt_of_le hq1 hS.1)).trans (hS.2.1 q hq1 hq2)⟩) hS.2.2 (Nat.le_of_ble_eq_true rfl) (Nat.le_of_ble_eq_true rfl)
set_option maxHeartbeats 4000000 in
set_option maxRecDepth 100000 in
theorem kJ5_append_3fe6f_15 (l : Launch) (dC : Nat → ClassId) (dI : Nat → Nat → Nat) (g : Nat → Nat) (sz : Nat) (h0 : Nat) (x0 : Int32) (h1 : Nat) (v0 : Value) (cc0 : ClassId) (f0 : Nat → Int32) (hf0 : sb_Fit f0) (ex0 : (0 : Int) ≤ x0.toInt ∧ x0.toInt ≤ (127 : Int)) : Met l yJ5_append_3fe6f wbJ5_append_3fe6f ({ frames := 1, cells := 0, slots := 0, locals := 22 }) (va_Pc [.ref h0, .int x0] (fun U => U.heap.size = sz ∧ va_P (dC, dI) vwCl [(h0, .inr (1, [.ref h1, .int 0, v0, .int 5])), (h1, .inl (cc0, 16, .inl f0))] U.heap ∧ va_K (dC, dI) vwCl [(cc0, .byte)] U ∧ va_D (fun _ => True) [(h0, .inr (1, [.ref h1, .int 0, v0, .int 5])), (h1, .inl (cc0, 16, .inl f0))] ∧ ns_F g (va_A [(h0, .inr (1, [.ref h1, .int 0, v0, .int 5])), (h1, .inl (cc0, 16, .inl f0))] sz) U U.heap)) (va_Qr (fun _ : Unit => True) (fun _ r t => r = h0 ∧ va_P (dC, dI) vwCl [(h1, .inl (cc0, 16, .inl (upd (f0) 5 (vp_nar .byte x0.toInt8.toInt32)))), (h0, .inr (1, [.ref h1, .int 0, v0, .int 6]))] t.heap ∧ va_K (dC, dI) vwCl [(cc0, .byte)] t ∧ va_D (va_A [(h0, .inr (1, [.ref h1, .int 0, v0, .int 5])), (h1, .inl (cc0, 16, .inl f0))] sz) [(h1, .inl (cc0, 16, .inl (upd (f0) 5 (vp_nar .byte x0.toInt8.toInt32)))), (h0, .inr (1, [.ref h1, .int 0, v0, .int 6]))]) (va_A [(h0, .inr (1, [.ref h1, .int 0, v0, .int 5])), (h1, .inl (cc0, 16, .inl f0))] sz)) 0 0 (va_A [(h0, .inr (1, [.ref h1, .int 0, v0, .int 5])), (h1, .inl (cc0, 16, .inl f0))] sz) := by
  refine Met.ofW (cc := cJ5_append_3fe6f) (maxL := 2) (ret := (some (.object "java/lang/AbstractStringBuilder"))) (by decide) rfl ?_
  intro p e s m args below meth c s₁ B hml hv
  obtain ⟨rfl, hsz, hP, hK, hD0, hF⟩ := hv
  have hx := B.exec
  have hb := B.bytes
  have hr := B.returns
  have hts := atoms_spec (ws := wbJ5_append_3fe6f) B.pre
  have hta : ∀ w ∈ wsALL, w.before _ s = true := fun w h => hts w (List.mem_cons_of_mem _ h)
  have hown : s.vm.findClass RJ5 = some m.cls := findClass_of_methodNamed B.named
  have hlocks := B.notSynchronized
  subst hsz
  have hD := hD0.self (sz := s.heap.size)
  generalize hAe : va_A [(h0, .inr (1, [.ref h1, .int 0, v0, .int 5])), (h1, .inl (cc0, 16, .inl f0))] s.heap.size = A at hD hF ⊢
  have hA : ∀ q : Nat, s.heap.size ≤ q → A q := fun q h => by rw [← hAe]; exact Or.inr h
  have hS : va_S A s.heap s.heap [] := va_S.rf
  have hP : va_P (dC, dI) vwCl [(h0, .inr (1, [.ref h1, .int 0, v0, .int 5])), (h1, .inl (cc0, 16, .inl f0))] s.heap := hP
  have hl := lv_entry ([.ref h0, .int x0]) (n := 2) (Nat.le_of_ble_eq_true rfl)
  rw [lg_entry_eq]
  generalize (lg_sl ([.ref h0, .int x0]) ++ List.replicate (2 - (lg_sl ([.ref h0, .int x0])).length) Slot.unset).toArray = ls at hl ⊢
  have hl : lv_has ls 2 [(0, .ref h0), (1, .int x0)] := hl
  refine lv_aload_n hx hb dJ5_append_3fe6f_0 rfl (lv_at hl 0 rfl) ?_
  refine lv_aload_n hx hb dJ5_append_3fe6f_1 rfl (lv_at hl 0 rfl) ?_
  refine va_get (D := (dC, dI)) (ci := 1) (v := .int 5) (C := RJ4) (T := TJ4) (N := 4) hx hb hta naJ4 hown hK hP 0 rfl rfl 3 (by decide) (hta _ wm290) (fun _ h9 => h9) rfl dJ5_append_3fe6f_2 ?_
  refine lv_iconst (v := 1) hx hb dJ5_append_3fe6f_5 (by decide) ?_
  refine lv_iadd hx hb dJ5_append_3fe6f_6 ?_
  refine lv_topi (fun y1 ey1 => ?_)
  obtain rfl : y1 = 6 := ey1.trans (by decide)
  have hPc := hP.sub (ws' := [(h0, .inr (1, [.ref h1, .int 0, v0, .int 5])), (h1, .inl (cc0, 16, .inl f0))]) [0, 1] rfl
  have hDc := hD.sub (ws' := [(h0, .inr (1, [.ref h1, .int 0, v0, .int 5])), (h1, .inl (cc0, 16, .inl f0))]) [0, 1] (by decide) rfl
  have hKc := hK.sub (tys' := [(cc0, .byte)]) [0] rfl
  have hFc := va_free (wc := [(h0, .inr (1, [.ref h1, .int 0, v0, .int 5])), (h1, .inl (cc0, 16, .inl f0))]) hD hS hA [0, 1] rfl
  refine va_callv (va_runU (As := [.int 6]) (rest := []) ⟨hx, hb, hml, hown, hts⟩ (kJ5_ensureCapacityInternal_d00df_6 l dC dI g s.heap.size h0 h1 v0 (.int 5) cc0 f0 hf0 ) (va_cwU 1 hts (ns_gp (List.forall_mem_cons.mpr ⟨wm294, (List.forall_mem_cons.mpr ⟨wm295, (List.forall_mem_cons.mpr ⟨wm296, (List.forall_mem_cons.mpr ⟨wm297, (List.forall_mem_cons.mpr ⟨wm144, (fun _ h9 => nomatch h9)⟩)⟩)⟩)⟩)⟩) wm291) rfl rfl rfl rfl (by decide +kernel) ⟨Nat.le_of_ble_eq_true rfl, Nat.le_of_ble_eq_true rfl⟩) ⟨fun a U gg mk q => by obtain ⟨q0, q1, qP, qK, qD, qF⟩ := q; exact ⟨q0, q1, qP, va_K.moved (u := U) (U := U.calling gg mk a) (Vm.Alike.refl U.vm) qK, qD, ns_same qF⟩, va_recv hK hP (ci := 1) (q0 := 0) rfl rfl, fun U hU hW => ⟨rfl, by rw [hU], by rw [hU]; exact hPc, va_K.moved hW.alike hKc, hDc.weaken (fun _ _ _ _ => trivial), ns_call hF hS hFc hU hW⟩⟩ rfl rfl hl.1 rfl (lv_room (Nat.le_of_ble_eq_true rfl)) dJ5_append_3fe6f_7 ⟨Nat.le_of_ble_eq_true rfl, Nat.le_of_ble_eq_true rfl⟩) hS (fun q _ h => hFc q h) hFc (fun u t H1 locs ht hvm hw hB hz1 hk1 hS => ?_)
  obtain ⟨hP1, hK1, hD1⟩ := hB
  rw [ht] at hP1
  have hK1 := va_K.moved hvm.symm hK1
  obtain ⟨hP, hD⟩ := va_join (wr := []) (w1 := [(h0, .inr (1, [.ref h1, .int 0, v0, .int 5])), (h1, .inl (cc0, 16, .inl f0))]) hP hD [0, 1] [] rfl rfl (by decide) (by decide) hk1 hFc hP1 hD1
  have hK := (hK.sub (tys' := []) [] rfl).app hK1
  generalize H1 = H at hP hS ⊢
  have hP : va_P (dC, dI) vwCl [(h0, .inr (1, [.ref h1, .int 0, v0, .int 5])), (h1, .inl (cc0, 16, .inl f0))] H := hP
  have hD : va_D A [(h0, .inr (1, [.ref h1, .int 0, v0, .int 5])), (h1, .inl (cc0, 16, .inl f0))] := hD
  have hK : va_K (dC, dI) vwCl [(cc0, .byte)] s := hK
  refine W.widen (k := 0) (n := 0) (Nat.le_of_ble_eq_true rfl) (Nat.le_of_ble_eq_true rfl) ?_
  refine lv_aload_n hx hb dJ5_append_3fe6f_10 rfl (lv_at hl 0 rfl) ?_
  have hPc := hP.sub (ws' := [(h0, .inr (1, [.ref h1, .int 0, v0, .int 5]))]) [0] rfl
  have hDc := hD.sub (ws' := [(h0, .inr (1, [.ref h1, .int 0, v0, .int 5]))]) [0] (by decide) rfl
  have hKc := hK.sub (tys' := []) [] rfl
  have hFc := va_free (wc := [(h0, .inr (1, [.ref h1, .int 0, v0, .int 5]))]) hD hS hA [0] rfl
  refine va_calli (va_runU (As := []) (rest := []) ⟨hx, hb, hml, hown, hts⟩ (kJ5_isLatin1_aae02 l dC dI g H.size h0 (.ref h1) v0 (.int 5) ) (va_cwU 0 hts (ns_gp (List.forall_mem_cons.mpr ⟨wm298, (List.forall_mem_cons.mpr ⟨wm299, (List.forall_mem_cons.mpr ⟨wm300, (List.forall_mem_cons.mpr ⟨wm301, (List.forall_mem_cons.mpr ⟨wm144, (fun _ h9 => nomatch h9)⟩)⟩)⟩)⟩)⟩) wm292) rfl rfl rfl rfl (by decide +kernel) ⟨Nat.le_of_ble_eq_true rfl, Nat.le_of_ble_eq_true rfl⟩) ⟨fun a U gg mk q => by obtain ⟨q0, q1, qP, qK, qD, qF⟩ := q; exact ⟨q0, q1, qP, va_K.moved (u := U) (U := U.calling gg mk a) (Vm.Alike.refl U.vm) qK, qD, ns_same qF⟩, va_recv hK hP (ci := 1) (q0 := 0) rfl rfl, fun U hU hW => ⟨rfl, by rw [hU], by rw [hU]; exact hPc, va_K.moved hW.alike hKc, hDc.weaken (fun _ _ _ _ => trivial), ns_call hF hS hFc hU hW⟩⟩ rfl rfl hl.1 rfl (lv_room (Nat.le_of_ble_eq_true rfl)) dJ5_append_3fe6f_11 ⟨Nat.le_of_ble_eq_true rfl, Nat.le_of_ble_eq_true rfl⟩) hS (fun q _ h => hFc q h) hFc (fun r9 u t H1 locs ht hvm hw hB hz1 hk1 hS => ?_)
  obtain rfl := hw.symm
  obtain ⟨hP1, hK1, hD1⟩ := hB
  rw [ht] at hP1
  have hK1 := va_K.moved hvm.symm hK1
  obtain ⟨hP, hD⟩ := va_join (wr := [(h1, .inl (cc0, 16, .inl f0))]) (w1 := [(h0, .inr (1, [.ref h1, .int 0, v0, .int 5]))]) hP hD [0] [1] rfl rfl (by decide) (by decide) hk1 hFc hP1 hD1
  have hK := (hK.sub (tys' := [(cc0, .byte)]) [0] rfl).app hK1
  generalize H1 = H at hP hS ⊢
  have hP : va_P (dC, dI) vwCl [(h1, .inl (cc0, 16, .inl f0)), (h0, .inr (1, [.ref h1, .int 0, v0, .int 5]))] H := hP
  have hD : va_D A [(h1, .inl (cc0, 16, .inl f0)), (h0, .inr (1, [.ref h1, .int 0, v0, .int 5]))] := hD
  have hK : va_K (dC, dI) vwCl [(cc0, .byte)] s := hK
  refine W.widen (k := 0) (n := 0) (Nat.le_of_ble_eq_true rfl) (Nat.le_of_ble_eq_true rfl) ?_
  refine lv_if_eq (tgt := 45) hx hb dJ5_append_3fe6f_14 (by decide) (fun c2 => absurd c2 (by decide)) (fun c2 => ?_)
  refine lv_iload_n hx hb dJ5_append_3fe6f_17 rfl (lv_at hl 1 rfl) ?_
  have hPc := hP.sub (ws' := []) [] rfl
  have hDc := hD.sub (ws' := []) [] (by decide) rfl
  have hKc := hK.sub (tys' := []) [] rfl
  have hFc := va_free (wc := []) hD hS hA [] rfl
  refine va_calli (va_runS (As := [.int x0]) (rest := []) ⟨hx, hb, hml, hown, hts⟩ (kJ1_canEncode_fc78d_2 l dC dI g H.size x0 ⟨by omega, by omega⟩) (va_cwS 1 hts (ns_gp (List.forall_mem_cons.mpr ⟨wm303, (List.forall_mem_cons.mpr ⟨wm304, (List.forall_mem_cons.mpr ⟨wm302, (fun _ h9 => nomatch h9)⟩)⟩)⟩) wm293) rfl rfl rfl (by decide +kernel) ⟨Nat.le_of_ble_eq_true rfl, Nat.le_of_ble_eq_true rfl⟩) ⟨fun a U gg mk q => by obtain ⟨q0, q1, qP, qK, qD, qF⟩ := q; exact ⟨q0, q1, qP, va_K.moved (u := U) (U := U.calling gg mk a) (Vm.Alike.refl U.vm) qK, qD, ns_same qF⟩, fun U hU hW => ⟨rfl, by rw [hU], by rw [hU]; exact hPc, va_K.moved hW.alike hKc, hDc.weaken (fun _ _ _ _ => trivial), ns_call hF hS hFc hU hW⟩⟩ rfl rfl hl.1 rfl (lv_room (Nat.le_of_ble_eq_true rfl)) dJ5_append_3fe6f_18 ⟨Nat.le_of_ble_eq_true rfl, Nat.le_of_ble_eq_true rfl⟩) hS (fun q _ h => hFc q h) hFc (fun r9 u t H1 locs ht hvm hw hB hz1 hk1 hS => ?_)
  obtain rfl := hw.symm
  obtain ⟨hP1, hK1, hD1⟩ := hB
  rw [ht] at hP1
  have hK1 := va_K.moved hvm.symm hK1
  obtain ⟨hP, hD⟩ := va_join (wr := [(h1, .inl (cc0, 16, .inl f0)), (h0, .inr (1, [.ref h1, .int 0, v0, .int 5]))]) (w1 := []) hP hD [] [0, 1] rfl rfl (by decide) (by decide) hk1 hFc hP1 hD1
  have hK := (hK.sub (tys' := [(cc0, .byte)]) [0] rfl).app hK1
  generalize H1 = H at hP hS ⊢
  have hP : va_P (dC, dI) vwCl [(h1, .inl (cc0, 16, .inl f0)), (h0, .inr (1, [.ref h1, .int 0, v0, .int 5]))] H := hP
  have hD : va_D A [(h1, .inl (cc0, 16, .inl f0)), (h0, .inr (1, [.ref h1, .int 0, v0, .int 5]))] := hD
  have hK : va_K (dC, dI) vwCl [(cc0, .byte)] s := hK
  refine W.widen (k := 0) (n := 0) (Nat.le_of_ble_eq_true rfl) (Nat.le_of_ble_eq_true rfl) ?_
  refine lv_if_eq (tgt := 45) hx hb dJ5_append_3fe6f_21 (by decide) (fun c3 => absurd c3 (by decide)) (fun c3 => ?_)
  refine lv_aload_n hx hb dJ5_append_3fe6f_24 rfl (lv_at hl 0 rfl) ?_
  refine va_get (D := (dC, dI)) (ci := 1) (v := .ref h1) (C := RJ4) (T := TJ4) (N := 4) hx hb hta naJ4 hown hK hP 1 rfl rfl 0 (by decide) (hta _ wm141) (fun _ h9 => h9) rfl dJ5_append_3fe6f_25 ?_
  refine lv_aload_n hx hb dJ5_append_3fe6f_28 rfl (lv_at hl 0 rfl) ?_
  refine lv_dup hx hb dJ5_append_3fe6f_29 rfl ?_
  refine va_get (D := (dC, dI)) (ci := 1) (v := .int 5) (C := RJ4) (T := TJ4) (N := 4) hx hb hta naJ4 hown hK hP 1 rfl rfl 3 (by decide) (hta _ wm290) (fun _ h9 => h9) rfl dJ5_append_3fe6f_30 ?_
  refine lv_dup_x1 hx hb dJ5_append_3fe6f_33 rfl rfl ?_
  refine lv_iconst (v := 1) hx hb dJ5_append_3fe6f_34 (by decide) ?_
  refine lv_iadd hx hb dJ5_append_3fe6f_35 ?_
  refine lv_topi (fun y4 ey4 => ?_)
  obtain rfl : y4 = 6 := ey4.trans (by decide)
  refine va_put (D := (dC, dI)) (ci := 1) (v := .int 6) (ty := .int) (C := RJ4) (T := TJ4) (N := 4) hx hb hta naJ4 tyJ4 tyJ4_ok nmJ4 hown hK hP hD hS 1 rfl rfl 3 (by decide) (hta _ wm290) (fun _ h9 => h9) rfl (by decide +kernel) rfl rfl (Nat.le_of_ble_eq_true rfl) dJ5_append_3fe6f_36 (fun H locs hP hD hS => ?_)
  have hP : va_P (dC, dI) vwCl [(h1, .inl (cc0, 16, .inl f0)), (h0, .inr (1, [.ref h1, .int 0, v0, .int 6]))] H := hP
  have hD : va_D A [(h1, .inl (cc0, 16, .inl f0)), (h0, .inr (1, [.ref h1, .int 0, v0, .int 6]))] := hD
  refine lv_iload_n hx hb dJ5_append_3fe6f_39 rfl (lv_at hl 1 rfl) ?_
  refine lv_i2b (v := x0.toInt8.toInt32) hx hb dJ5_append_3fe6f_40 rfl ?_
  refine va_bast hx hb hK hP hD hS 0 0 rfl rfl (vp_in_nI (n := 5) (by decide) (by decide)) dJ5_append_3fe6f_41 (fun H locs hP hD hS => ?_)
  have hP : va_P (dC, dI) vwCl [(h1, .inl (cc0, 16, .inl (upd (f0) 5 (vp_nar .byte x0.toInt8.toInt32)))), (h0, .inr (1, [.ref h1, .int 0, v0, .int 6]))] H := hP
  have hD : va_D A [(h1, .inl (cc0, 16, .inl (upd (f0) 5 (vp_nar .byte x0.toInt8.toInt32)))), (h0, .inr (1, [.ref h1, .int 0, v0, .int 6]))] := hD
  refine lv_goto (tgt := 75) hx hb dJ5_append_3fe6f_42 (by decide) ?_
  refine lv_aload_n hx hb dJ5_append_3fe6f_75 rfl (lv_at hl 0 rfl) ?_
  have hP9 := hP.sub (ws' := [(h1, .inl (cc0, 16, .inl (upd (f0) 5 (vp_nar .byte x0.toInt8.toInt32)))), (h0, .inr (1, [.ref h1, .int 0, v0, .int 6]))]) [0, 1] rfl
  have hD9 := hD.sub (ws' := [(h1, .inl (cc0, 16, .inl (upd (f0) 5 (vp_nar .byte x0.toInt8.toInt32)))), (h0, .inr (1, [.ref h1, .int 0, v0, .int 6]))]) [0, 1] (by decide) rfl
  have hK9 := hK.sub (tys' := [(cc0, .byte)]) [0] rfl
  refine W.widen (k := 0) (n := 0) (Nat.le_of_ble_eq_true rfl) (Nat.le_of_ble_eq_true rfl) ?_
  exact W.aret (v := .ref h0) hx hb hr (by first | exact Or.inl ⟨_, rfl⟩ | exact Or.inr ⟨_, rfl⟩) (Or.inr ⟨_, rfl⟩) (fun t ht hW => ⟨⟨(), _, rfl, trivial, rfl, by rw [ht]; exact hP9, va_K.moved hW.alike hK9, hD9⟩, hS.F ht⟩) hS.2.2 dJ5_append_3fe6f_76
set_option maxHeartbeats 4000000 in
set_option maxRecDepth 100000 in
theorem kX1_faultOf (l : Launch) (dC : Nat → ClassId) (dI : Nat → Nat → Nat) (g : Nat → Nat) (sz : Nat) (h0 : Nat) (h1 : Nat) (h2 : Nat) (v0 : Value) (v1 : Value) (v2 : Value) (v3 : Value) (v4 : Value) : Met l yX1_faultOf wbX1_faultOf ({ frames := 1, cells := 0, slots := 0, locals := 20 }) (va_Pc [.ref h0, .ref h1] (fun U => U.heap.size = sz ∧ va_P (dC, dI) vwCl [(h0, .inr (8, [.ref h2, v0, v1])), (h2, .inr (11, [v2, v3])), (h1, .inr (11, [v4, .int 0]))] U.heap ∧ va_K (dC, dI) vwCl [] U ∧ va_D (fun _ => True) [(h0, .inr (8, [.ref h2, v0, v1])), (h2, .inr (11, [v2, v3])), (h1, .inr (11, [v4, .int 0]))] ∧ ns_F g (va_A [(h0, .inr (8, [.ref h2, v0, v1])), (h2, .inr (11, [v2, v3])), (h1, .inr (11, [v4, .int 0]))] sz) U U.heap)) (va_Qi (fun (r : Int32) (_ : Unit) => r = (-1)) (fun _ t => va_P (dC, dI) vwCl [(h0, .inr (8, [.ref h2, v0, v1])), (h1, .inr (11, [v4, .int 0])), (h2, .inr (11, [v2, .int 0]))] t.heap ∧ va_K (dC, dI) vwCl [] t ∧ va_D (va_A [(h0, .inr (8, [.ref h2, v0, v1])), (h2, .inr (11, [v2, v3])), (h1, .inr (11, [v4, .int 0]))] sz) [(h0, .inr (8, [.ref h2, v0, v1])), (h1, .inr (11, [v4, .int 0])), (h2, .inr (11, [v2, .int 0]))]) (va_A [(h0, .inr (8, [.ref h2, v0, v1])), (h2, .inr (11, [v2, v3])), (h1, .inr (11, [v4, .int 0]))] sz)) 0 0 (va_A [(h0, .inr (8, [.ref h2, v0, v1])), (h2, .inr (11, [v2, v3])), (h1, .inr (11, [v4, .int 0]))] sz) := by
  refine Met.ofW (cc := cX1_faultOf) (maxL := 4) (ret := (some .int)) (by decide) rfl ?_
  intro p e s m args below meth c s₁ B hml hv
  obtain ⟨rfl, hsz, hP, hK, hD0, hF⟩ := hv
  have hx := B.exec
  have hb := B.bytes
  have hr := B.returns
  have hts := atoms_spec (ws := wbX1_faultOf) B.pre
  have hta : ∀ w ∈ wsALL, w.before _ s = true := fun w h => hts w (List.mem_cons_of_mem _ h)
  have hown : s.vm.findClass RX1 = some m.cls := findClass_of_methodNamed B.named
  have hlocks := B.notSynchronized
  subst hsz
  have hD := hD0.self (sz := s.heap.size)
  generalize hAe : va_A [(h0, .inr (8, [.ref h2, v0, v1])), (h2, .inr (11, [v2, v3])), (h1, .inr (11, [v4, .int 0]))] s.heap.size = A at hD hF ⊢
  have hA : ∀ q : Nat, s.heap.size ≤ q → A q := fun q h => by rw [← hAe]; exact Or.inr h
  have hS : va_S A s.heap s.heap [] := va_S.rf
  have hP : va_P (dC, dI) vwCl [(h0, .inr (8, [.ref h2, v0, v1])), (h2, .inr (11, [v2, v3])), (h1, .inr (11, [v4, .int 0]))] s.heap := hP
  have hl := lv_entry ([.ref h0, .ref h1]) (n := 4) (Nat.le_of_ble_eq_true rfl)
  rw [lg_entry_eq]
  generalize (lg_sl ([.ref h0, .ref h1]) ++ List.replicate (4 - (lg_sl ([.ref h0, .ref h1])).length) Slot.unset).toArray = ls at hl ⊢
  have hl : lv_has ls 4 [(0, .ref h0), (1, .ref h1)] := hl
  refine lv_aload_n hx hb dX1_faultOf_0 rfl (lv_at hl 0 rfl) ?_
  refine va_get (D := (dC, dI)) (ci := 8) (v := .ref h2) (C := RX1) (T := TX1) (N := 3) hx hb hta naX1 hown hK hP 0 rfl rfl 0 (by decide) (hta _ wm39) (fun _ h9 => h9) rfl dX1_faultOf_1 ?_
  have hPc := hP.sub (ws' := [(h2, .inr (11, [v2, v3]))]) [1] rfl
  have hDc := hD.sub (ws' := [(h2, .inr (11, [v2, v3]))]) [1] (by decide) rfl
  have hKc := hK.sub (tys' := []) [] rfl
  have hFc := va_free (wc := [(h2, .inr (11, [v2, v3]))]) hD hS hA [1] rfl
  refine va_callv (va_runV (As := []) (rest := []) ⟨hx, hb, hml, hown, hts⟩ (kX4_clear l dC dI g s.heap.size h2 v2 v3 ) (cwV 0 hts (ns_gp (List.forall_mem_cons.mpr ⟨wm662, (List.forall_mem_cons.mpr ⟨wm504, (List.forall_mem_cons.mpr ⟨wm505, (List.forall_mem_cons.mpr ⟨wm12, (fun _ h9 => nomatch h9)⟩)⟩)⟩)⟩) wm502) rfl rfl rfl (by decide +kernel) ⟨Nat.le_of_ble_eq_true rfl, Nat.le_of_ble_eq_true rfl⟩) ⟨fun a U gg mk q => by obtain ⟨q0, q1, qP, qK, qD, qF⟩ := q; exact ⟨q0, q1, qP, va_K.moved (u := U) (U := U.calling gg mk a) (Vm.Alike.refl U.vm) qK, qD, ns_same qF⟩, va_recv hK hP (ci := 11) (q0 := 1) rfl rfl, fun U hU hW => ⟨rfl, by rw [hU], by rw [hU]; exact hPc, va_K.moved hW.alike hKc, hDc.weaken (fun _ _ _ _ => trivial), ns_call hF hS hFc hU hW⟩⟩ rfl rfl hl.1 rfl (lv_room (Nat.le_of_ble_eq_true rfl)) dX1_faultOf_4 ⟨Nat.le_of_ble_eq_true rfl, Nat.le_of_ble_eq_true rfl⟩) hS (fun q _ h => hFc q h) hFc (fun u t H1 locs ht hvm hw hB hz1 hk1 hS => ?_)
  obtain ⟨hP1, hK1, hD1⟩ := hB
  rw [ht] at hP1
  have hK1 := va_K.moved hvm.symm hK1
  obtain ⟨hP, hD⟩ := va_join (wr := [(h0, .inr (8, [.ref h2, v0, v1])), (h1, .inr (11, [v4, .int 0]))]) (w1 := [(h2, .inr (11, [v2, .int 0]))]) hP hD [1] [0, 2] rfl rfl (by decide) (by decide) hk1 hFc hP1 hD1
  have hK := (hK.sub (tys' := []) [] rfl).app hK1
  generalize H1 = H at hP hS ⊢
  have hP : va_P (dC, dI) vwCl [(h0, .inr (8, [.ref h2, v0, v1])), (h1, .inr (11, [v4, .int 0])), (h2, .inr (11, [v2, .int 0]))] H := hP
  have hD : va_D A [(h0, .inr (8, [.ref h2, v0, v1])), (h1, .inr (11, [v4, .int 0])), (h2, .inr (11, [v2, .int 0]))] := hD
  have hK : va_K (dC, dI) vwCl [] s := hK
  refine W.widen (k := 0) (n := 0) (Nat.le_of_ble_eq_true rfl) (Nat.le_of_ble_eq_true rfl) ?_
  refine lv_iconst (v := 0) hx hb dX1_faultOf_7 (by decide) ?_
  refine lv_istore_n (lv' := [(2, .int 0), (0, .ref h0), (1, .ref h1)]) hx hb dX1_faultOf_8 rfl hl (by decide) rfl (fun ls hl => ?_)
  refine lv_iload_n hx hb dX1_faultOf_9 rfl (lv_at hl 0 rfl) ?_
  refine lv_aload_n hx hb dX1_faultOf_10 rfl (lv_at hl 2 rfl) ?_
  have hPc := hP.sub (ws' := [(h1, .inr (11, [v4, .int 0]))]) [1] rfl
  have hDc := hD.sub (ws' := [(h1, .inr (11, [v4, .int 0]))]) [1] (by decide) rfl
  have hKc := hK.sub (tys' := []) [] rfl
  have hFc := va_free (wc := [(h1, .inr (11, [v4, .int 0]))]) hD hS hA [1] rfl
  refine va_calli (va_runV (As := []) (rest := [.int 0]) ⟨hx, hb, hml, hown, hts⟩ (kX4_size l dC dI g H.size h1 v4 ) (cwV 0 hts (ns_gp (List.forall_mem_cons.mpr ⟨wm663, (List.forall_mem_cons.mpr ⟨wm249, (List.forall_mem_cons.mpr ⟨wm250, (List.forall_mem_cons.mpr ⟨wm12, (fun _ h9 => nomatch h9)⟩)⟩)⟩)⟩) wm247) rfl rfl rfl (by decide +kernel) ⟨Nat.le_of_ble_eq_true rfl, Nat.le_of_ble_eq_true rfl⟩) ⟨fun a U gg mk q => by obtain ⟨q0, q1, qP, qK, qD, qF⟩ := q; exact ⟨q0, q1, qP, va_K.moved (u := U) (U := U.calling gg mk a) (Vm.Alike.refl U.vm) qK, qD, ns_same qF⟩, va_recv hK hP (ci := 11) (q0 := 1) rfl rfl, fun U hU hW => ⟨rfl, by rw [hU], by rw [hU]; exact hPc, va_K.moved hW.alike hKc, hDc.weaken (fun _ _ _ _ => trivial), ns_call hF hS hFc hU hW⟩⟩ rfl rfl hl.1 rfl (lv_room (Nat.le_of_ble_eq_true rfl)) dX1_faultOf_11 ⟨Nat.le_of_ble_eq_true rfl, Nat.le_of_ble_eq_true rfl⟩) hS (fun q _ h => hFc q h) hFc (fun r9 u t H1 locs ht hvm hw hB hz1 hk1 hS => ?_)
  obtain rfl := hw.symm
  obtain ⟨hP1, hK1, hD1⟩ := hB
  rw [ht] at hP1
  have hK1 := va_K.moved hvm.symm hK1
  obtain ⟨hP, hD⟩ := va_join (wr := [(h0, .inr (8, [.ref h2, v0, v1])), (h2, .inr (11, [v2, .int 0]))]) (w1 := [(h1, .inr (11, [v4, .int 0]))]) hP hD [1] [0, 2] rfl rfl (by decide) (by decide) hk1 hFc hP1 hD1
  have hK := (hK.sub (tys' := []) [] rfl).app hK1
  generalize H1 = H at hP hS ⊢
  have hP : va_P (dC, dI) vwCl [(h0, .inr (8, [.ref h2, v0, v1])), (h2, .inr (11, [v2, .int 0])), (h1, .inr (11, [v4, .int 0]))] H := hP
  have hD : va_D A [(h0, .inr (8, [.ref h2, v0, v1])), (h2, .inr (11, [v2, .int 0])), (h1, .inr (11, [v4, .int 0]))] := hD
  have hK : va_K (dC, dI) vwCl [] s := hK
  refine W.widen (k := 0) (n := 0) (Nat.le_of_ble_eq_true rfl) (Nat.le_of_ble_eq_true rfl) ?_
  refine lv_icmp_ge (tgt := 115) hx hb dX1_faultOf_14 (by decide) (fun c1 => ?_) (fun c1 => absurd (by decide) c1)
  refine lv_aload_n hx hb dX1_faultOf_115 rfl (lv_at hl 1 rfl) ?_
  refine va_get (D := (dC, dI)) (ci := 8) (v := .ref h2) (C := RX1) (T := TX1) (N := 3) hx hb hta naX1 hown hK hP 0 rfl rfl 0 (by decide) (hta _ wm39) (fun _ h9 => h9) rfl dX1_faultOf_116 ?_
  have hPc := hP.sub (ws' := [(h2, .inr (11, [v2, .int 0]))]) [1] rfl
  have hDc := hD.sub (ws' := [(h2, .inr (11, [v2, .int 0]))]) [1] (by decide) rfl
  have hKc := hK.sub (tys' := []) [] rfl
  have hFc := va_free (wc := [(h2, .inr (11, [v2, .int 0]))]) hD hS hA [1] rfl
  refine va_calli (va_runV (As := []) (rest := []) ⟨hx, hb, hml, hown, hts⟩ (kX4_size l dC dI g H.size h2 v2 ) (cwV 0 hts (ns_gp (List.forall_mem_cons.mpr ⟨wm663, (List.forall_mem_cons.mpr ⟨wm249, (List.forall_mem_cons.mpr ⟨wm250, (List.forall_mem_cons.mpr ⟨wm12, (fun _ h9 => nomatch h9)⟩)⟩)⟩)⟩) wm247) rfl rfl rfl (by decide +kernel) ⟨Nat.le_of_ble_eq_true rfl, Nat.le_of_ble_eq_true rfl⟩) ⟨fun a U gg mk q => by obtain ⟨q0, q1, qP, qK, qD, qF⟩ := q; exact ⟨q0, q1, qP, va_K.moved (u := U) (U := U.calling gg mk a) (Vm.Alike.refl U.vm) qK, qD, ns_same qF⟩, va_recv hK hP (ci := 11) (q0 := 1) rfl rfl, fun U hU hW => ⟨rfl, by rw [hU], by rw [hU]; exact hPc, va_K.moved hW.alike hKc, hDc.weaken (fun _ _ _ _ => trivial), ns_call hF hS hFc hU hW⟩⟩ rfl rfl hl.1 rfl (lv_room (Nat.le_of_ble_eq_true rfl)) dX1_faultOf_119 ⟨Nat.le_of_ble_eq_true rfl, Nat.le_of_ble_eq_true rfl⟩) hS (fun q _ h => hFc q h) hFc (fun r9 u t H1 locs ht hvm hw hB hz1 hk1 hS => ?_)
  obtain rfl := hw.symm
  obtain ⟨hP1, hK1, hD1⟩ := hB
  rw [ht] at hP1
  have hK1 := va_K.moved hvm.symm hK1
  obtain ⟨hP, hD⟩ := va_join (wr := [(h0, .inr (8, [.ref h2, v0, v1])), (h1, .inr (11, [v4, .int 0]))]) (w1 := [(h2, .inr (11, [v2, .int 0]))]) hP hD [1] [0, 2] rfl rfl (by decide) (by decide) hk1 hFc hP1 hD1
  have hK := (hK.sub (tys' := []) [] rfl).app hK1
  generalize H1 = H at hP hS ⊢
  have hP : va_P (dC, dI) vwCl [(h0, .inr (8, [.ref h2, v0, v1])), (h1, .inr (11, [v4, .int 0])), (h2, .inr (11, [v2, .int 0]))] H := hP
  have hD : va_D A [(h0, .inr (8, [.ref h2, v0, v1])), (h1, .inr (11, [v4, .int 0])), (h2, .inr (11, [v2, .int 0]))] := hD
  have hK : va_K (dC, dI) vwCl [] s := hK
  refine W.widen (k := 0) (n := 0) (Nat.le_of_ble_eq_true rfl) (Nat.le_of_ble_eq_true rfl) ?_
  refine lv_if_ne (tgt := 129) hx hb dX1_faultOf_122 (by decide) (fun c2 => absurd (by decide) c2) (fun c2 => ?_)
  refine lv_iconst (v := (-1)) hx hb dX1_faultOf_125 (by decide) ?_
  refine lv_goto (tgt := 133) hx hb dX1_faultOf_126 (by decide) ?_
  have hP9 := hP.sub (ws' := [(h0, .inr (8, [.ref h2, v0, v1])), (h1, .inr (11, [v4, .int 0])), (h2, .inr (11, [v2, .int 0]))]) [0, 1, 2] rfl
  have hD9 := hD.sub (ws' := [(h0, .inr (8, [.ref h2, v0, v1])), (h1, .inr (11, [v4, .int 0])), (h2, .inr (11, [v2, .int 0]))]) [0, 1, 2] (by decide) rfl
  have hK9 := hK.sub (tys' := []) [] rfl
  refine W.widen (k := 0) (n := 0) (Nat.le_of_ble_eq_true rfl) (Nat.le_of_ble_eq_true rfl) ?_
  exact W.iret (v := (-1)) hx hb hr (fun t ht hW => ⟨⟨_, (), rfl, rfl, by rw [ht]; exact hP9, va_K.moved hW.alike hK9, hD9⟩, hS.F ht⟩) hS.2.2 dX1_faultOf_133
set_option maxHeartbeats 4000000 in
set_option maxRecDepth 100000 in
theorem kJ7_copyOfRangeByte_39247_5 (l : Launch) (dC : Nat → ClassId) (dI : Nat → Nat → Nat) (g : Nat → Nat) (sz : Nat) (h0 : Nat) (cc0 : ClassId) (f0 : Nat → Int32) (hf0 : sb_Fit f0) : Met l yJ7_copyOfRangeByte_39247 wbJ7_copyOfRangeByte_39247 ({ frames := 1, cells := 1, slots := 5, locals := 40 }) (va_Pc [.ref h0, .int 0, .int 5] (fun U => U.heap.size = sz ∧ va_P (dC, dI) vwCl [(h0, .inl (cc0, 16, .inl f0))] U.heap ∧ va_K (dC, dI) vwCl [(cc0, .byte)] U ∧ va_D (fun _ => True) [(h0, .inl (cc0, 16, .inl f0))] ∧ ns_F g (va_A [(h0, .inl (cc0, 16, .inl f0))] sz) U U.heap)) (va_Qr (fun _ : Unit => True) (fun _ r t => ∃ k0 : Nat, ∃ kc1 : ClassId, r = k0 ∧ va_P (dC, dI) vwCl [(h0, .inl (cc0, 16, .inl f0)), (k0, .inl (kc1, 5, .inl (va_cpy (f0) (fun _ => 0) 0 0 5)))] t.heap ∧ va_K (dC, dI) vwCl [(cc0, .byte), (kc1, .byte)] t ∧ va_D (va_A [(h0, .inl (cc0, 16, .inl f0))] sz) [(h0, .inl (cc0, 16, .inl f0)), (k0, .inl (kc1, 5, .inl (va_cpy (f0) (fun _ => 0) 0 0 5)))]) (va_A [(h0, .inl (cc0, 16, .inl f0))] sz)) 1 5 (va_A [(h0, .inl (cc0, 16, .inl f0))] sz) := by
  refine Met.ofW (cc := cJ7_copyOfRangeByte_39247) (maxL := 5) (ret := (some (.array .byte))) (by decide) rfl ?_
  intro p e s m args below meth c s₁ B hml hv
  obtain ⟨rfl, hsz, hP, hK, hD0, hF⟩ := hv
  have hx := B.exec
  have hb := B.bytes
  have hr := B.returns
  have hts := atoms_spec (ws := wbJ7_copyOfRangeByte_39247) B.pre
  have hta : ∀ w ∈ wsALL, w.before _ s = true := fun w h => hts w (List.mem_cons_of_mem _ h)
  have hown : s.vm.findClass RJ7 = some m.cls := findClass_of_methodNamed B.named
  have hlocks := B.notSynchronized
  subst hsz
  have hD := hD0.self (sz := s.heap.size)
  generalize hAe : va_A [(h0, .inl (cc0, 16, .inl f0))] s.heap.size = A at hD hF ⊢
  have hA : ∀ q : Nat, s.heap.size ≤ q → A q := fun q h => by rw [← hAe]; exact Or.inr h
  have hS : va_S A s.heap s.heap [] := va_S.rf
  have hP : va_P (dC, dI) vwCl [(h0, .inl (cc0, 16, .inl f0))] s.heap := hP
  have hl := lv_entry ([.ref h0, .int 0, .int 5]) (n := 5) (Nat.le_of_ble_eq_true rfl)
  rw [lg_entry_eq]
  generalize (lg_sl ([.ref h0, .int 0, .int 5]) ++ List.replicate (5 - (lg_sl ([.ref h0, .int 0, .int 5])).length) Slot.unset).toArray = ls at hl ⊢
  have hl : lv_has ls 5 [(0, .ref h0), (1, .int 0), (2, .int 5)] := hl
  refine lv_iload_n hx hb dJ7_copyOfRangeByte_39247_0 rfl (lv_at hl 1 rfl) ?_
  refine lv_iload_n hx hb dJ7_copyOfRangeByte_39247_1 rfl (lv_at hl 2 rfl) ?_
  have hPc := hP.sub (ws' := []) [] rfl
  have hDc := hD.sub (ws' := []) [] (by decide) rfl
  have hKc := hK.sub (tys' := []) [] rfl
  have hFc := va_free (wc := []) hD hS hA [] rfl
  refine va_callv (va_runS (As := [.int 0, .int 5]) (rest := []) ⟨hx, hb, hml, hown, hts⟩ (kJ7_checkLength_df160_5 l dC dI g s.heap.size  ) (va_cwS 2 hts (ns_gp (List.forall_mem_cons.mpr ⟨wm335, (List.forall_mem_cons.mpr ⟨wm336, (List.forall_mem_cons.mpr ⟨wm334, (fun _ h9 => nomatch h9)⟩)⟩)⟩) wm325) rfl rfl rfl (by decide +kernel) ⟨Nat.le_of_ble_eq_true rfl, Nat.le_of_ble_eq_true rfl⟩) ⟨fun a U gg mk q => by obtain ⟨q0, q1, qP, qK, qD, qF⟩ := q; exact ⟨q0, q1, qP, va_K.moved (u := U) (U := U.calling gg mk a) (Vm.Alike.refl U.vm) qK, qD, ns_same qF⟩, fun U hU hW => ⟨rfl, by rw [hU], by rw [hU]; exact hPc, va_K.moved hW.alike hKc, hDc.weaken (fun _ _ _ _ => trivial), ns_call hF hS hFc hU hW⟩⟩ rfl rfl hl.1 rfl (lv_room (Nat.le_of_ble_eq_true rfl)) dJ7_copyOfRangeByte_39247_2 ⟨Nat.le_of_ble_eq_true rfl, Nat.le_of_ble_eq_true rfl⟩) hS (fun q _ h => hFc q h) hFc (fun u t H1 locs ht hvm hw hB hz1 hk1 hS => ?_)
  obtain ⟨hP1, hK1, hD1⟩ := hB
  rw [ht] at hP1
  have hK1 := va_K.moved hvm.symm hK1
  obtain ⟨hP, hD⟩ := va_join (wr := [(h0, .inl (cc0, 16, .inl f0))]) (w1 := []) hP hD [] [0] rfl rfl (by decide) (by decide) hk1 hFc hP1 hD1
  have hK := (hK.sub (tys' := [(cc0, .byte)]) [0] rfl).app hK1
  generalize H1 = H at hP hS ⊢
  have hP : va_P (dC, dI) vwCl [(h0, .inl (cc0, 16, .inl f0))] H := hP
  have hD : va_D A [(h0, .inl (cc0, 16, .inl f0))] := hD
  have hK : va_K (dC, dI) vwCl [(cc0, .byte)] s := hK
  refine W.widen (k := 0) (n := 0) (Nat.le_of_ble_eq_true rfl) (Nat.le_of_ble_eq_true rfl) ?_
  refine lv_iload_n hx hb dJ7_copyOfRangeByte_39247_5 rfl (lv_at hl 2 rfl) ?_
  refine lv_iload_n hx hb dJ7_copyOfRangeByte_39247_6 rfl (lv_at hl 1 rfl) ?_
  refine lv_isub hx hb dJ7_copyOfRangeByte_39247_7 ?_
  refine lv_topi (fun y1 ey1 => ?_)
  obtain rfl : y1 = 5 := ey1.trans (by decide)
  refine lv_istore_n (lv' := [(3, .int 5), (0, .ref h0), (1, .int 0), (2, .int 5)]) hx hb dJ7_copyOfRangeByte_39247_8 rfl hl (by decide) rfl (fun ls hl => ?_)
  refine lv_iload_n hx hb dJ7_copyOfRangeByte_39247_9 rfl (lv_at hl 0 rfl) ?_
  refine va_newa (atype := .byte) hx hb (hta _ wm140) rfl hK hP hD hS hA (N' := 5) (a0 := (5, .inl (fun _ => 0))) (fun _ => rfl) (by decide) (by decide) (Nat.le_of_ble_eq_true rfl) (Nat.le_of_ble_eq_true rfl) (Nat.le_of_ble_eq_true rfl) dJ7_copyOfRangeByte_39247_10 (fun q2 cyq2 H hK hP hD hS => ?_)
  have hP : va_P (dC, dI) vwCl [(h0, .inl (cc0, 16, .inl f0)), (q2, .inl (cyq2, 5, .inl (fun _ => 0)))] H := hP
  have hD : va_D A [(h0, .inl (cc0, 16, .inl f0)), (q2, .inl (cyq2, 5, .inl (fun _ => 0)))] := hD
  have hK : va_K (dC, dI) vwCl [(cc0, .byte), (cyq2, .byte)] s := hK
  refine W.widen (k := 1) (n := 5) (Nat.le_of_ble_eq_true rfl) (Nat.le_of_ble_eq_true rfl) ?_
  refine lv_astore (lv' := [(4, .ref q2), (3, .int 5), (0, .ref h0), (1, .int 0), (2, .int 5)]) hx hb dJ7_copyOfRangeByte_39247_12 hl (by decide) rfl (fun ls hl => ?_)
  refine lv_aload_n hx hb dJ7_copyOfRangeByte_39247_14 rfl (lv_at hl 2 rfl) ?_
  refine lv_iload_n hx hb dJ7_copyOfRangeByte_39247_15 rfl (lv_at hl 3 rfl) ?_
  refine lv_aload hx hb dJ7_copyOfRangeByte_39247_16 (lv_at hl 0 rfl) ?_
  refine lv_iconst (v := 0) hx hb dJ7_copyOfRangeByte_39247_18 (by decide) ?_
  refine lv_aload_n hx hb dJ7_copyOfRangeByte_39247_19 rfl (lv_at hl 2 rfl) ?_
  refine va_alen (v := 16) hx hb hK hP 0 0 rfl rfl (show Int32.ofNat 16 = 16 by decide) dJ7_copyOfRangeByte_39247_20 ?_
  refine lv_iload_n hx hb dJ7_copyOfRangeByte_39247_21 rfl (lv_at hl 3 rfl) ?_
  refine lv_isub hx hb dJ7_copyOfRangeByte_39247_22 ?_
  refine lv_topi (fun y3 ey3 => ?_)
  obtain rfl : y3 = 16 := ey3.trans (by decide)
  refine lv_iload_n hx hb dJ7_copyOfRangeByte_39247_23 rfl (lv_at hl 1 rfl) ?_
  refine va_mmin hx hb (by rw [hml]; exact hl.1.symm) hown (hta _ wm326) (hta _ wm327) (hta _ wm328) (hta _ wm329) (Nat.le_of_ble_eq_true rfl) (Nat.le_of_ble_eq_true rfl) (Nat.le_of_ble_eq_true rfl) (Nat.le_of_ble_eq_true rfl) dJ7_copyOfRangeByte_39247_24 ?_
  refine lv_topi (fun y4 ey4 => ?_)
  obtain rfl : y4 = 5 := ey4.trans (by decide)
  refine va_copyi hx hb (by rw [hml]; exact hl.1.symm) hown (hta _ wm330) (hta _ wm331) (hta _ wm332) (hta _ wm333) hK hP hD hS 0 1 0 1 rfl rfl rfl rfl rfl (by decide) (by decide) (by decide) (Nat.le_of_ble_eq_true rfl) (Nat.le_of_ble_eq_true rfl) (fun i h => hf0 _) (Nat.le_of_ble_eq_true rfl) (Nat.le_of_ble_eq_true rfl) dJ7_copyOfRangeByte_39247_27 (fun H locs hP hD hS => ?_)
  have hP : va_P (dC, dI) vwCl [(h0, .inl (cc0, 16, .inl f0)), (q2, .inl (cyq2, 5, .inl (va_cpy (f0) (fun _ => 0) 0 0 5)))] H := hP
  have hD : va_D A [(h0, .inl (cc0, 16, .inl f0)), (q2, .inl (cyq2, 5, .inl (va_cpy (f0) (fun _ => 0) 0 0 5)))] := hD
  refine lv_aload hx hb dJ7_copyOfRangeByte_39247_30 (lv_at hl 0 rfl) ?_
  have hP9 := hP.sub (ws' := [(h0, .inl (cc0, 16, .inl f0)), (q2, .inl (cyq2, 5, .inl (va_cpy (f0) (fun _ => 0) 0 0 5)))]) [0, 1] rfl
  have hD9 := hD.sub (ws' := [(h0, .inl (cc0, 16, .inl f0)), (q2, .inl (cyq2, 5, .inl (va_cpy (f0) (fun _ => 0) 0 0 5)))]) [0, 1] (by decide) rfl
  have hK9 := hK.sub (tys' := [(cc0, .byte), (cyq2, .byte)]) [0, 1] rfl
  refine W.widen (k := 1) (n := 5) (Nat.le_of_ble_eq_true rfl) (Nat.le_of_ble_eq_true rfl) ?_
  exact W.aret (v := .ref q2) hx hb hr (by first | exact Or.inl ⟨_, rfl⟩ | exact Or.inr ⟨_, rfl⟩) (Or.inr ⟨_, rfl⟩) (fun t ht hW => ⟨⟨(), _, rfl, trivial, q2, cyq2, rfl, by rw [ht]; exact hP9, va_K.moved hW.alike hK9, hD9⟩, hS.F ht⟩) hS.2.2 dJ7_copyOfRangeByte_39247_32
set_option maxHeartbeats 4000000 in
set_option maxRecDepth 100000 in
theorem kJ0_getBytes_840e7_5 (l : Launch) (dC : Nat → ClassId) (dI : Nat → Nat → Nat) (g : Nat → Nat) (sz : Nat) (h0 : Nat) (h1 : Nat) (h2 : Nat) (v0 : Value) (v1 : Value) (cc0 : ClassId) (f0 : Nat → Int32) (hf0 : sb_Fit f0) (cc1 : ClassId) (f1 : Nat → Int32) (hf1 : sb_Fit f1) : Met l yJ0_getBytes_840e7 wbJ0_getBytes_840e7 ({ frames := 1, cells := 0, slots := 0, locals := 40 }) (va_Pc [.ref h0, .ref h1, .int 0, .int 0] (fun U => U.heap.size = sz ∧ va_P (dC, dI) vwCl [(h0, .inr (0, [.ref h2, .int 0, v0, v1])), (h2, .inl (cc0, 4, .inl f0)), (h1, .inl (cc1, 16, .inl f1))] U.heap ∧ va_K (dC, dI) vwCl [(cc0, .byte), (cc1, .byte)] U ∧ va_D (fun _ => True) [(h0, .inr (0, [.ref h2, .int 0, v0, v1])), (h2, .inl (cc0, 4, .inl f0)), (h1, .inl (cc1, 16, .inl f1))] ∧ ns_F g (va_A [(h0, .inr (0, [.ref h2, .int 0, v0, v1])), (h2, .inl (cc0, 4, .inl f0)), (h1, .inl (cc1, 16, .inl f1))] sz) U U.heap)) (va_Qv (fun _ : Unit => True) (fun _ t => va_P (dC, dI) vwCl [(h2, .inl (cc0, 4, .inl f0)), (h1, .inl (cc1, 16, .inl (va_cpy (f0) (f1) 0 0 4))), (h0, .inr (0, [.ref h2, .int 0, v0, v1]))] t.heap ∧ va_K (dC, dI) vwCl [(cc0, .byte), (cc1, .byte)] t ∧ va_D (va_A [(h0, .inr (0, [.ref h2, .int 0, v0, v1])), (h2, .inl (cc0, 4, .inl f0)), (h1, .inl (cc1, 16, .inl f1))] sz) [(h2, .inl (cc0, 4, .inl f0)), (h1, .inl (cc1, 16, .inl (va_cpy (f0) (f1) 0 0 4))), (h0, .inr (0, [.ref h2, .int 0, v0, v1]))]) (va_A [(h0, .inr (0, [.ref h2, .int 0, v0, v1])), (h2, .inl (cc0, 4, .inl f0)), (h1, .inl (cc1, 16, .inl f1))] sz)) 0 0 (va_A [(h0, .inr (0, [.ref h2, .int 0, v0, v1])), (h2, .inl (cc0, 4, .inl f0)), (h1, .inl (cc1, 16, .inl f1))] sz) := by
  refine Met.ofW (cc := cJ0_getBytes_840e7) (maxL := 4) (ret := none) (by decide) rfl ?_
  intro p e s m args below meth c s₁ B hml hv
  obtain ⟨rfl, hsz, hP, hK, hD0, hF⟩ := hv
  have hx := B.exec
  have hb := B.bytes
  have hr := B.returns
  have hts := atoms_spec (ws := wbJ0_getBytes_840e7) B.pre
  have hta : ∀ w ∈ wsALL, w.before _ s = true := fun w h => hts w (List.mem_cons_of_mem _ h)
  have hown : s.vm.findClass RJ0 = some m.cls := findClass_of_methodNamed B.named
  have hlocks := B.notSynchronized
  subst hsz
  have hD := hD0.self (sz := s.heap.size)
  generalize hAe : va_A [(h0, .inr (0, [.ref h2, .int 0, v0, v1])), (h2, .inl (cc0, 4, .inl f0)), (h1, .inl (cc1, 16, .inl f1))] s.heap.size = A at hD hF ⊢
  have hA : ∀ q : Nat, s.heap.size ≤ q → A q := fun q h => by rw [← hAe]; exact Or.inr h
  have hS : va_S A s.heap s.heap [] := va_S.rf
  have hP : va_P (dC, dI) vwCl [(h0, .inr (0, [.ref h2, .int 0, v0, v1])), (h2, .inl (cc0, 4, .inl f0)), (h1, .inl (cc1, 16, .inl f1))] s.heap := hP
  have hl := lv_entry ([.ref h0, .ref h1, .int 0, .int 0]) (n := 4) (Nat.le_of_ble_eq_true rfl)
  rw [lg_entry_eq]
  generalize (lg_sl ([.ref h0, .ref h1, .int 0, .int 0]) ++ List.replicate (4 - (lg_sl ([.ref h0, .ref h1, .int 0, .int 0])).length) Slot.unset).toArray = ls at hl ⊢
  have hl : lv_has ls 4 [(0, .ref h0), (1, .ref h1), (2, .int 0), (3, .int 0)] := hl
  refine lv_aload_n hx hb dJ0_getBytes_840e7_0 rfl (lv_at hl 0 rfl) ?_
  have hPc := hP.sub (ws' := [(h0, .inr (0, [.ref h2, .int 0, v0, v1]))]) [0] rfl
  have hDc := hD.sub (ws' := [(h0, .inr (0, [.ref h2, .int 0, v0, v1]))]) [0] (by decide) rfl
  have hKc := hK.sub (tys' := []) [] rfl
  have hFc := va_free (wc := [(h0, .inr (0, [.ref h2, .int 0, v0, v1]))]) hD hS hA [0] rfl
  refine va_calli (va_runV (As := []) (rest := []) ⟨hx, hb, hml, hown, hts⟩ (kJ0_coder_7d493_3 l dC dI g s.heap.size h0 (.ref h2) v0 v1 ) (cwV 0 hts (ns_gp (List.forall_mem_cons.mpr ⟨wm571, (List.forall_mem_cons.mpr ⟨wm572, (List.forall_mem_cons.mpr ⟨wm573, (List.forall_mem_cons.mpr ⟨wm316, (fun _ h9 => nomatch h9)⟩)⟩)⟩)⟩) wm570) rfl rfl rfl (by decide +kernel) ⟨Nat.le_of_ble_eq_true rfl, Nat.le_of_ble_eq_true rfl⟩) ⟨fun a U gg mk q => by obtain ⟨q0, q1, qP, qK, qD, qF⟩ := q; exact ⟨q0, q1, qP, va_K.moved (u := U) (U := U.calling gg mk a) (Vm.Alike.refl U.vm) qK, qD, ns_same qF⟩, va_recv hK hP (ci := 0) (q0 := 0) rfl rfl, fun U hU hW => ⟨rfl, by rw [hU], by rw [hU]; exact hPc, va_K.moved hW.alike hKc, hDc.weaken (fun _ _ _ _ => trivial), ns_call hF hS hFc hU hW⟩⟩ rfl rfl hl.1 rfl (lv_room (Nat.le_of_ble_eq_true rfl)) dJ0_getBytes_840e7_1 ⟨Nat.le_of_ble_eq_true rfl, Nat.le_of_ble_eq_true rfl⟩) hS (fun q _ h => hFc q h) hFc (fun r9 u t H1 locs ht hvm hw hB hz1 hk1 hS => ?_)
  obtain rfl := hw.symm
  obtain ⟨hP1, hK1, hD1⟩ := hB
  rw [ht] at hP1
  have hK1 := va_K.moved hvm.symm hK1
  obtain ⟨hP, hD⟩ := va_join (wr := [(h2, .inl (cc0, 4, .inl f0)), (h1, .inl (cc1, 16, .inl f1))]) (w1 := [(h0, .inr (0, [.ref h2, .int 0, v0, v1]))]) hP hD [0] [1, 2] rfl rfl (by decide) (by decide) hk1 hFc hP1 hD1
  have hK := (hK.sub (tys' := [(cc0, .byte), (cc1, .byte)]) [0, 1] rfl).app hK1
  generalize H1 = H at hP hS ⊢
  have hP : va_P (dC, dI) vwCl [(h2, .inl (cc0, 4, .inl f0)), (h1, .inl (cc1, 16, .inl f1)), (h0, .inr (0, [.ref h2, .int 0, v0, v1]))] H := hP
  have hD : va_D A [(h2, .inl (cc0, 4, .inl f0)), (h1, .inl (cc1, 16, .inl f1)), (h0, .inr (0, [.ref h2, .int 0, v0, v1]))] := hD
  have hK : va_K (dC, dI) vwCl [(cc0, .byte), (cc1, .byte)] s := hK
  refine W.widen (k := 0) (n := 0) (Nat.le_of_ble_eq_true rfl) (Nat.le_of_ble_eq_true rfl) ?_
  refine lv_iload_n hx hb dJ0_getBytes_840e7_4 rfl (lv_at hl 3 rfl) ?_
  refine lv_icmp_ne (tgt := 28) hx hb dJ0_getBytes_840e7_5 (by decide) (fun c1 => absurd (by decide) c1) (fun c1 => ?_)
  refine lv_aload_n hx hb dJ0_getBytes_840e7_8 rfl (lv_at hl 0 rfl) ?_
  refine va_get (D := (dC, dI)) (ci := 0) (v := .ref h2) (C := RJ0) (T := TJ0) (N := 4) hx hb hta naJ0 hown hK hP 2 rfl rfl 0 (by decide) (hta _ wm341) (fun _ h9 => h9) rfl dJ0_getBytes_840e7_9 ?_
  refine lv_iconst (v := 0) hx hb dJ0_getBytes_840e7_12 (by decide) ?_
  refine lv_aload_n hx hb dJ0_getBytes_840e7_13 rfl (lv_at hl 1 rfl) ?_
  refine lv_iload_n hx hb dJ0_getBytes_840e7_14 rfl (lv_at hl 2 rfl) ?_
  refine lv_iload_n hx hb dJ0_getBytes_840e7_15 rfl (lv_at hl 3 rfl) ?_
  refine lv_ishl hx hb dJ0_getBytes_840e7_16 ?_
  refine lv_topi (fun y2 ey2 => ?_)
  obtain rfl : y2 = 0 := ey2.trans (by decide)
  refine lv_aload_n hx hb dJ0_getBytes_840e7_17 rfl (lv_at hl 0 rfl) ?_
  refine va_get (D := (dC, dI)) (ci := 0) (v := .ref h2) (C := RJ0) (T := TJ0) (N := 4) hx hb hta naJ0 hown hK hP 2 rfl rfl 0 (by decide) (hta _ wm341) (fun _ h9 => h9) rfl dJ0_getBytes_840e7_18 ?_
  refine va_alen (v := 4) hx hb hK hP 0 0 rfl rfl (show Int32.ofNat 4 = 4 by decide) dJ0_getBytes_840e7_21 ?_
  refine va_copyi hx hb (by rw [hml]; exact hl.1.symm) hown (hta _ wm607) (hta _ wm331) (hta _ wm332) (hta _ wm333) hK hP hD hS 0 1 0 1 rfl rfl rfl rfl rfl (by decide) (by decide) (by decide) (Nat.le_of_ble_eq_true rfl) (Nat.le_of_ble_eq_true rfl) (fun i h => hf0 _) (Nat.le_of_ble_eq_true rfl) (Nat.le_of_ble_eq_true rfl) dJ0_getBytes_840e7_22 (fun H locs hP hD hS => ?_)
  have hP : va_P (dC, dI) vwCl [(h2, .inl (cc0, 4, .inl f0)), (h1, .inl (cc1, 16, .inl (va_cpy (f0) (f1) 0 0 4))), (h0, .inr (0, [.ref h2, .int 0, v0, v1]))] H := hP
  have hD : va_D A [(h2, .inl (cc0, 4, .inl f0)), (h1, .inl (cc1, 16, .inl (va_cpy (f0) (f1) 0 0 4))), (h0, .inr (0, [.ref h2, .int 0, v0, v1]))] := hD
  refine lv_goto (tgt := 43) hx hb dJ0_getBytes_840e7_25 (by decide) ?_
  have hP9 := hP.sub (ws' := [(h2, .inl (cc0, 4, .inl f0)), (h1, .inl (cc1, 16, .inl (va_cpy (f0) (f1) 0 0 4))), (h0, .inr (0, [.ref h2, .int 0, v0, v1]))]) [0, 1, 2] rfl
  have hD9 := hD.sub (ws' := [(h2, .inl (cc0, 4, .inl f0)), (h1, .inl (cc1, 16, .inl (va_cpy (f0) (f1) 0 0 4))), (h0, .inr (0, [.ref h2, .int 0, v0, v1]))]) [0, 1, 2] (by decide) rfl
  have hK9 := hK.sub (tys' := [(cc0, .byte), (cc1, .byte)]) [0, 1] rfl
  refine W.widen (k := 0) (n := 0) (Nat.le_of_ble_eq_true rfl) (Nat.le_of_ble_eq_true rfl) ?_
  exact W.vret hx hb hr (fun t ht hW => ⟨⟨(), rfl, trivial, by rw [ht]; exact hP9, va_K.moved hW.alike hK9, hD9⟩, hS.F ht⟩) hS.2.2 dJ0_getBytes_840e7_43
set_option maxHeartbeats 4000000 in
set_option maxRecDepth 100000 in
theorem kL_word_22 (l : Launch) (dC : Nat → ClassId) (dI : Nat → Nat → Nat) (g : Nat → Nat) (sz : Nat) (h0 : Nat) (x0 : Int32) (x1 : Int32) (h1 : Nat) (v0 : Value) (v1 : Value) (v2 : Value) (v3 : Value) (v4 : Value) (v5 : Value) (v6 : Value) (v7 : Value) (v8 : Value) (v9 : Value) (v10 : Value) (v11 : Value) (v12 : Value) (v13 : Value) (v14 : Value) (v15 : Value) (ex0 : (0 : Int) ≤ x0.toInt ∧ x0.toInt ≤ (25 : Int)) (ex1 : (10 : Int) ≤ x1.toInt ∧ x1.toInt ≤ (2147483647 : Int)) (hlt : l.stackTraces = false) : Met l yL_word wbL_word ({ frames := 7, cells := 1, slots := 6, locals := 105 }) (va_Pc [.ref h0, .int x0, .int x1, .ref h1] (fun U => U.heap.size = sz ∧ va_P (dC, dI) vwCl [(h0, .inr (16, [v0, v1, v2, v3, v4, v5, v6, v7, v8, v9, v10, v11, v12, v13, v14, v15]))] U.heap ∧ va_K (dC, dI) vwCl [] U ∧ va_D (fun _ => True) [(h0, .inr (16, [v0, v1, v2, v3, v4, v5, v6, v7, v8, v9, v10, v11, v12, v13, v14, v15]))] ∧ ns_F g (va_A [(h0, .inr (16, [v0, v1, v2, v3, v4, v5, v6, v7, v8, v9, v10, v11, v12, v13, v14, v15]))] sz) U U.heap)) (va_Qi (fun (r : Int32) (_ : Unit) => r = 1) (fun _ t => va_P (dC, dI) vwCl [(h0, .inr (16, [v0, v1, v2, v3, v4, v5, v6, v7, v8, v9, v10, v11, v12, v13, v14, v15]))] t.heap ∧ va_K (dC, dI) vwCl [] t ∧ va_D (va_A [(h0, .inr (16, [v0, v1, v2, v3, v4, v5, v6, v7, v8, v9, v10, v11, v12, v13, v14, v15]))] sz) [(h0, .inr (16, [v0, v1, v2, v3, v4, v5, v6, v7, v8, v9, v10, v11, v12, v13, v14, v15]))]) (va_A [(h0, .inr (16, [v0, v1, v2, v3, v4, v5, v6, v7, v8, v9, v10, v11, v12, v13, v14, v15]))] sz)) 1 6 (va_A [(h0, .inr (16, [v0, v1, v2, v3, v4, v5, v6, v7, v8, v9, v10, v11, v12, v13, v14, v15]))] sz) := by
  refine va_MetW (cc := cL_word) (maxL := 5) (ret := (some .int)) (hh := [(0, 11, 14, 19), (0, 11, 18, 21)]) (by decide) rfl ?_
  intro p e s m args below meth c s₁ B hml hv
  obtain ⟨rfl, hsz, hP, hK, hD0, hF⟩ := hv
  have hx := B.exec
  have hb := B.bytes
  have hr := B.returns
  have hts := atoms_spec (ws := wbL_word) B.pre
  have hta : ∀ w ∈ wsALL, w.before _ s = true := fun w h => hts w (List.mem_cons_of_mem _ h)
  have hown : s.vm.findClass RL = some m.cls := findClass_of_methodNamed B.named
  have hlocks := B.notSynchronized
  have htab : c.exceptionTable.toList = [⟨0, 11, 14, 19⟩, ⟨0, 11, 18, 21⟩] := vx_table (x := yL_word) B (hts _ List.mem_cons_self)
  subst hsz
  have hD := hD0.self (sz := s.heap.size)
  generalize hAe : va_A [(h0, .inr (16, [v0, v1, v2, v3, v4, v5, v6, v7, v8, v9, v10, v11, v12, v13, v14, v15]))] s.heap.size = A at hD hF ⊢
  have hA : ∀ q : Nat, s.heap.size ≤ q → A q := fun q h => by rw [← hAe]; exact Or.inr h
  have hS : va_S A s.heap s.heap [] := va_S.rf
  have hP : va_P (dC, dI) vwCl [(h0, .inr (16, [v0, v1, v2, v3, v4, v5, v6, v7, v8, v9, v10, v11, v12, v13, v14, v15]))] s.heap := hP
  have hl := lv_entry ([.ref h0, .int x0, .int x1, .ref h1]) (n := 5) (Nat.le_of_ble_eq_true rfl)
  rw [lg_entry_eq]
  generalize (lg_sl ([.ref h0, .int x0, .int x1, .ref h1]) ++ List.replicate (5 - (lg_sl ([.ref h0, .int x0, .int x1, .ref h1])).length) Slot.unset).toArray = ls at hl ⊢
  have hl : lv_has ls 5 [(0, .ref h0), (1, .int x0), (2, .int x1), (3, .ref h1)] := hl
  refine lv_aload_n hx hb dL_word_0 rfl (lv_at hl 3 rfl) ?_
  refine lv_aload_n hx hb dL_word_1 rfl (lv_at hl 0 rfl) ?_
  refine lv_iload_n hx hb dL_word_2 rfl (lv_at hl 1 rfl) ?_
  refine lv_iload_n hx hb dL_word_3 rfl (lv_at hl 2 rfl) ?_
  have hPc := hP.sub (ws' := []) [] rfl
  have hDc := hD.sub (ws' := []) [] (by decide) rfl
  have hKc := hK.sub (tys' := []) [] rfl
  have hFc := va_free (wc := []) hD hS hA [] rfl
  refine vx_callv (vx_runV (As := [.int x0, .int x1]) (rest := [.ref h1]) ⟨hx, hb, hml, hown, hts⟩ (kX9_word_22 l dC dI g s.heap.size h0 x0 x1 ⟨by omega, by omega⟩ ⟨by omega, by omega⟩ hlt) (cwV 2 hts (ns_gp (List.forall_mem_cons.mpr ⟨wm229, (List.forall_mem_cons.mpr ⟨wm230, (List.forall_mem_cons.mpr ⟨wm231, (List.forall_mem_cons.mpr ⟨wm2, (fun _ h9 => nomatch h9)⟩)⟩)⟩)⟩) wm227) rfl rfl rfl (by decide +kernel) ⟨Nat.le_of_ble_eq_true rfl, Nat.le_of_ble_eq_true rfl⟩) ⟨fun a U gg mk q => by obtain ⟨q0, q1, qP, qK, qD, qF⟩ := q; exact ⟨q0, q1, qP, va_K.moved (u := U) (U := U.calling gg mk a) (Vm.Alike.refl U.vm) qK, qD, ns_same qF⟩, va_recv hK hP (ci := 16) (q0 := 0) rfl rfl, fun U hU hW => ⟨rfl, by rw [hU], by rw [hU]; exact hPc, va_K.moved hW.alike hKc, hDc.weaken (fun _ _ _ _ => trivial), ns_call hF hS hFc hU hW⟩⟩ rfl rfl hl.1 rfl (lv_room (Nat.le_of_ble_eq_true rfl)) dL_word_4 ⟨Nat.le_of_ble_eq_true rfl, Nat.le_of_ble_eq_true rfl⟩) hS (fun q _ h => hFc q h) hFc (fun q _ h => hFc q h) (fun E ce q9 u t H1 locs ht hvm hw hB hz1 hk1 hS hc1 hc2 hc3 => ?_) (fun _ _ _ _ _ _ hw _ _ _ _ => False.elim hw)
  obtain rfl : E = "java/lang/IllegalArgumentException" := hB
  obtain ⟨hP, hD⟩ := va_join (wr := [(h0, .inr (16, [v0, v1, v2, v3, v4, v5, v6, v7, v8, v9, v10, v11, v12, v13, v14, v15]))]) (w1 := []) hP hD [] [0] rfl rfl (by decide) (by decide) hk1 hFc (fun k q h => by simp at h) ⟨fun i j p q h => by simp at h, fun k q h => by simp at h⟩
  have hK := hK.sub (tys' := []) [] rfl
  generalize H1 = H at hP hS hc1 ⊢
  have hP : va_P (dC, dI) vwCl [(h0, .inr (16, [v0, v1, v2, v3, v4, v5, v6, v7, v8, v9, v10, v11, v12, v13, v14, v15]))] H := hP
  have hD : va_D A [(h0, .inr (16, [v0, v1, v2, v3, v4, v5, v6, v7, v8, v9, v10, v11, v12, v13, v14, v15]))] := hD
  have hK : va_K (dC, dI) vwCl [] s := hK
  refine vx_widen (k := 1) (n := 6) (Nat.le_of_ble_eq_true rfl) (Nat.le_of_ble_eq_true rfl) ?_
  refine vx_catch hown [] ⟨0, 11, 14, 19⟩ [⟨0, 11, 18, 21⟩] htab (fun z hz => by simp at hz) (by decide) (by decide) (hta _ wm228) (va_Nw.use rfl (ns_f11 hF)) hc1 hc2 hc3 ?_
  refine W.eq (g2 := F0 m 14 ls [.ref q9]) rfl ?_
  refine lv_astore (lv' := [(4, .ref q9), (0, .ref h0), (1, .int x0), (2, .int x1), (3, .ref h1)]) hx hb dL_word_14 hl (by decide) rfl (fun ls hl => ?_)
  refine lv_iconst (v := 1) hx hb dL_word_16 (by decide) ?_
  have hP9 := hP.sub (ws' := [(h0, .inr (16, [v0, v1, v2, v3, v4, v5, v6, v7, v8, v9, v10, v11, v12, v13, v14, v15]))]) [0] rfl
  have hD9 := hD.sub (ws' := [(h0, .inr (16, [v0, v1, v2, v3, v4, v5, v6, v7, v8, v9, v10, v11, v12, v13, v14, v15]))]) [0] (by decide) rfl
  have hK9 := hK.sub (tys' := []) [] rfl
  refine W.widen (k := 1) (n := 6) (Nat.le_of_ble_eq_true rfl) (Nat.le_of_ble_eq_true rfl) ?_
  exact W.iret (v := 1) hx hb hr (fun t ht hW => ⟨⟨_, (), rfl, rfl, by rw [ht]; exact hP9, va_K.moved hW.alike hK9, hD9⟩, hS.F ht⟩) hS.2.2 dL_word_17
set_option maxHeartbeats 4000000 in
set_option maxRecDepth 100000 in
theorem kX3_addSign (l : Launch) (dC : Nat → ClassId) (dI : Nat → Nat → Nat) (g : Nat → Nat) (sz : Nat) (h0 : Nat) (x0 : Int32) (h1 : Nat) (h2 : Nat) (v0 : Value) (v1 : Value) (v2 : Value) (v3 : Value) (v4 : Value) (v5 : Value) (v6 : Value) (v7 : Value) (cc0 : ClassId) (f0 : Nat → Int32) (ex0 : (97 : Int) ≤ x0.toInt ∧ x0.toInt ≤ (122 : Int)) : Met l yX3_addSign wbX3_addSign ({ frames := 1, cells := 0, slots := 0, locals := 21 }) (va_Pc [.ref h0, .int x0] (fun U => U.heap.size = sz ∧ va_P (dC, dI) vwCl [(h0, .inr (10, [v0, v1, v2, v3, v4, v5, v6, v7, .ref h1])), (h1, .inr (11, [.ref h2, .int 0])), (h2, .inl (cc0, 4960, .inl f0))] U.heap ∧ va_K (dC, dI) vwCl [(cc0, .int)] U ∧ va_D (fun _ => True) [(h0, .inr (10, [v0, v1, v2, v3, v4, v5, v6, v7, .ref h1])), (h1, .inr (11, [.ref h2, .int 0])), (h2, .inl (cc0, 4960, .inl f0))] ∧ ns_F g (va_A [(h0, .inr (10, [v0, v1, v2, v3, v4, v5, v6, v7, .ref h1])), (h1, .inr (11, [.ref h2, .int 0])), (h2, .inl (cc0, 4960, .inl f0))] sz) U U.heap)) (va_Qv (fun _ : Unit => True) (fun _ t => va_P (dC, dI) vwCl [(h0, .inr (10, [v0, v1, v2, v3, v4, v5, v6, v7, .ref h1])), (h1, .inr (11, [.ref h2, .int 1])), (h2, .inl (cc0, 4960, .inl (upd (f0) 0 x0)))] t.heap ∧ va_K (dC, dI) vwCl [(cc0, .int)] t ∧ va_D (va_A [(h0, .inr (10, [v0, v1, v2, v3, v4, v5, v6, v7, .ref h1])), (h1, .inr (11, [.ref h2, .int 0])), (h2, .inl (cc0, 4960, .inl f0))] sz) [(h0, .inr (10, [v0, v1, v2, v3, v4, v5, v6, v7, .ref h1])), (h1, .inr (11, [.ref h2, .int 1])), (h2, .inl (cc0, 4960, .inl (upd (f0) 0 x0)))]) (va_A [(h0, .inr (10, [v0, v1, v2, v3, v4, v5, v6, v7, .ref h1])), (h1, .inr (11, [.ref h2, .int 0])), (h2, .inl (cc0, 4960, .inl f0))] sz)) 0 0 (va_A [(h0, .inr (10, [v0, v1, v2, v3, v4, v5, v6, v7, .ref h1])), (h1, .inr (11, [.ref h2, .int 0])), (h2, .inl (cc0, 4960, .inl f0))] sz) := by
  refine Met.ofW (cc := cX3_addSign) (maxL := 2) (ret := none) (by decide) rfl ?_
  intro p e s m args below meth c s₁ B hml hv
  obtain ⟨rfl, hsz, hP, hK, hD0, hF⟩ := hv
  have hx := B.exec
  have hb := B.bytes
  have hr := B.returns
  have hts := atoms_spec (ws := wbX3_addSign) B.pre
  have hta : ∀ w ∈ wsALL, w.before _ s = true := fun w h => hts w (List.mem_cons_of_mem _ h)
  have hown : s.vm.findClass RX3 = some m.cls := findClass_of_methodNamed B.named
  have hlocks := B.notSynchronized
  subst hsz
  have hD := hD0.self (sz := s.heap.size)
  generalize hAe : va_A [(h0, .inr (10, [v0, v1, v2, v3, v4, v5, v6, v7, .ref h1])), (h1, .inr (11, [.ref h2, .int 0])), (h2, .inl (cc0, 4960, .inl f0))] s.heap.size = A at hD hF ⊢
  have hA : ∀ q : Nat, s.heap.size ≤ q → A q := fun q h => by rw [← hAe]; exact Or.inr h
  have hS : va_S A s.heap s.heap [] := va_S.rf
  have hP : va_P (dC, dI) vwCl [(h0, .inr (10, [v0, v1, v2, v3, v4, v5, v6, v7, .ref h1])), (h1, .inr (11, [.ref h2, .int 0])), (h2, .inl (cc0, 4960, .inl f0))] s.heap := hP
  have hl := lv_entry ([.ref h0, .int x0]) (n := 2) (Nat.le_of_ble_eq_true rfl)
  rw [lg_entry_eq]
  generalize (lg_sl ([.ref h0, .int x0]) ++ List.replicate (2 - (lg_sl ([.ref h0, .int x0])).length) Slot.unset).toArray = ls at hl ⊢
  have hl : lv_has ls 2 [(0, .ref h0), (1, .int x0)] := hl
  refine lv_aload_n hx hb dX3_addSign_0 rfl (lv_at hl 0 rfl) ?_
  refine va_get (D := (dC, dI)) (ci := 10) (v := .ref h1) (C := RX3) (T := TX3) (N := 9) hx hb hta naX3 hown hK hP 0 rfl rfl 8 (by decide) (hta _ wm26) (fun _ h9 => h9) rfl dX3_addSign_1 ?_
  refine lv_iload_n hx hb dX3_addSign_4 rfl (lv_at hl 1 rfl) ?_
  have hPc := hP.sub (ws' := [(h1, .inr (11, [.ref h2, .int 0])), (h2, .inl (cc0, 4960, .inl f0))]) [1, 2] rfl
  have hDc := hD.sub (ws' := [(h1, .inr (11, [.ref h2, .int 0])), (h2, .inl (cc0, 4960, .inl f0))]) [1, 2] (by decide) rfl
  have hKc := hK.sub (tys' := [(cc0, .int)]) [0] rfl
  have hFc := va_free (wc := [(h1, .inr (11, [.ref h2, .int 0])), (h2, .inl (cc0, 4960, .inl f0))]) hD hS hA [1, 2] rfl
  refine va_callv (va_runV (As := [.int x0]) (rest := []) ⟨hx, hb, hml, hown, hts⟩ (kX4_add l dC dI g s.heap.size h1 x0 h2 cc0 f0 ⟨by omega, by omega⟩) (cwV 1 hts (ns_gp (List.forall_mem_cons.mpr ⟨wm257, (List.forall_mem_cons.mpr ⟨wm258, (List.forall_mem_cons.mpr ⟨wm259, (List.forall_mem_cons.mpr ⟨wm12, (fun _ h9 => nomatch h9)⟩)⟩)⟩)⟩) wm256) rfl rfl rfl (by decide +kernel) ⟨Nat.le_of_ble_eq_true rfl, Nat.le_of_ble_eq_true rfl⟩) ⟨fun a U gg mk q => by obtain ⟨q0, q1, qP, qK, qD, qF⟩ := q; exact ⟨q0, q1, qP, va_K.moved (u := U) (U := U.calling gg mk a) (Vm.Alike.refl U.vm) qK, qD, ns_same qF⟩, va_recv hK hP (ci := 11) (q0 := 1) rfl rfl, fun U hU hW => ⟨rfl, by rw [hU], by rw [hU]; exact hPc, va_K.moved hW.alike hKc, hDc.weaken (fun _ _ _ _ => trivial), ns_call hF hS hFc hU hW⟩⟩ rfl rfl hl.1 rfl (lv_room (Nat.le_of_ble_eq_true rfl)) dX3_addSign_5 ⟨Nat.le_of_ble_eq_true rfl, Nat.le_of_ble_eq_true rfl⟩) hS (fun q _ h => hFc q h) hFc (fun u t H1 locs ht hvm hw hB hz1 hk1 hS => ?_)
  obtain ⟨hP1, hK1, hD1⟩ := hB
  rw [ht] at hP1
  have hK1 := va_K.moved hvm.symm hK1
  obtain ⟨hP, hD⟩ := va_join (wr := [(h0, .inr (10, [v0, v1, v2, v3, v4, v5, v6, v7, .ref h1]))]) (w1 := [(h1, .inr (11, [.ref h2, .int 1])), (h2, .inl (cc0, 4960, .inl (upd (f0) 0 x0)))]) hP hD [1, 2] [0] rfl rfl (by decide) (by decide) hk1 hFc hP1 hD1
  have hK := (hK.sub (tys' := []) [] rfl).app hK1
  generalize H1 = H at hP hS ⊢
  have hP : va_P (dC, dI) vwCl [(h0, .inr (10, [v0, v1, v2, v3, v4, v5, v6, v7, .ref h1])), (h1, .inr (11, [.ref h2, .int 1])), (h2, .inl (cc0, 4960, .inl (upd (f0) 0 x0)))] H := hP
  have hD : va_D A [(h0, .inr (10, [v0, v1, v2, v3, v4, v5, v6, v7, .ref h1])), (h1, .inr (11, [.ref h2, .int 1])), (h2, .inl (cc0, 4960, .inl (upd (f0) 0 x0)))] := hD
  have hK : va_K (dC, dI) vwCl [(cc0, .int)] s := hK
  refine W.widen (k := 0) (n := 0) (Nat.le_of_ble_eq_true rfl) (Nat.le_of_ble_eq_true rfl) ?_
  have hP9 := hP.sub (ws' := [(h0, .inr (10, [v0, v1, v2, v3, v4, v5, v6, v7, .ref h1])), (h1, .inr (11, [.ref h2, .int 1])), (h2, .inl (cc0, 4960, .inl (upd (f0) 0 x0)))]) [0, 1, 2] rfl
  have hD9 := hD.sub (ws' := [(h0, .inr (10, [v0, v1, v2, v3, v4, v5, v6, v7, .ref h1])), (h1, .inr (11, [.ref h2, .int 1])), (h2, .inl (cc0, 4960, .inl (upd (f0) 0 x0)))]) [0, 1, 2] (by decide) rfl
  have hK9 := hK.sub (tys' := [(cc0, .int)]) [0] rfl
  refine W.widen (k := 0) (n := 0) (Nat.le_of_ble_eq_true rfl) (Nat.le_of_ble_eq_true rfl) ?_
  exact W.vret hx hb hr (fun t ht hW => ⟨⟨(), rfl, trivial, by rw [ht]; exact hP9, va_K.moved hW.alike hK9, hD9⟩, hS.F ht⟩) hS.2.2 dX3_addSign_8
set_option maxHeartbeats 4000000 in
set_option maxRecDepth 100000 in
theorem kL_word_5 (l : Launch) (dC : Nat → ClassId) (dI : Nat → Nat → Nat) (g : Nat → Nat) (sz : Nat) (h0 : Nat) (x0 : Int32) (h1 : Nat) (v0 : Value) (v1 : Value) (v2 : Value) (v3 : Value) (v4 : Value) (v5 : Value) (v6 : Value) (v7 : Value) (v8 : Value) (v9 : Value) (v10 : Value) (v11 : Value) (v12 : Value) (v13 : Value) (v14 : Value) (v15 : Value) (ex0 : (-2147483648 : Int) ≤ x0.toInt ∧ x0.toInt ≤ (-1 : Int)) (hlt : l.stackTraces = false) : Met l yL_word wbL_word ({ frames := 7, cells := 1, slots := 6, locals := 105 }) (va_Pc [.ref h0, .int x0, .int 4, .ref h1] (fun U => U.heap.size = sz ∧ va_P (dC, dI) vwCl [(h0, .inr (16, [v0, v1, v2, v3, v4, v5, v6, v7, v8, v9, v10, v11, v12, v13, v14, v15]))] U.heap ∧ va_K (dC, dI) vwCl [] U ∧ va_D (fun _ => True) [(h0, .inr (16, [v0, v1, v2, v3, v4, v5, v6, v7, v8, v9, v10, v11, v12, v13, v14, v15]))] ∧ ns_F g (va_A [(h0, .inr (16, [v0, v1, v2, v3, v4, v5, v6, v7, v8, v9, v10, v11, v12, v13, v14, v15]))] sz) U U.heap)) (va_Qi (fun (r : Int32) (_ : Unit) => r = 1) (fun _ t => va_P (dC, dI) vwCl [(h0, .inr (16, [v0, v1, v2, v3, v4, v5, v6, v7, v8, v9, v10, v11, v12, v13, v14, v15]))] t.heap ∧ va_K (dC, dI) vwCl [] t ∧ va_D (va_A [(h0, .inr (16, [v0, v1, v2, v3, v4, v5, v6, v7, v8, v9, v10, v11, v12, v13, v14, v15]))] sz) [(h0, .inr (16, [v0, v1, v2, v3, v4, v5, v6, v7, v8, v9, v10, v11, v12, v13, v14, v15]))]) (va_A [(h0, .inr (16, [v0, v1, v2, v3, v4, v5, v6, v7, v8, v9, v10, v11, v12, v13, v14, v15]))] sz)) 1 6 (va_A [(h0, .inr (16, [v0, v1, v2, v3, v4, v5, v6, v7, v8, v9, v10, v11, v12, v13, v14, v15]))] sz) := by
  refine va_MetW (cc := cL_word) (maxL := 5) (ret := (some .int)) (hh := [(0, 11, 14, 19), (0, 11, 18, 21)]) (by decide) rfl ?_
  intro p e s m args below meth c s₁ B hml hv
  obtain ⟨rfl, hsz, hP, hK, hD0, hF⟩ := hv
  have hx := B.exec
  have hb := B.bytes
  have hr := B.returns
  have hts := atoms_spec (ws := wbL_word) B.pre
  have hta : ∀ w ∈ wsALL, w.before _ s = true := fun w h => hts w (List.mem_cons_of_mem _ h)
  have hown : s.vm.findClass RL = some m.cls := findClass_of_methodNamed B.named
  have hlocks := B.notSynchronized
  have htab : c.exceptionTable.toList = [⟨0, 11, 14, 19⟩, ⟨0, 11, 18, 21⟩] := vx_table (x := yL_word) B (hts _ List.mem_cons_self)
  subst hsz
  have hD := hD0.self (sz := s.heap.size)
  generalize hAe : va_A [(h0, .inr (16, [v0, v1, v2, v3, v4, v5, v6, v7, v8, v9, v10, v11, v12, v13, v14, v15]))] s.heap.size = A at hD hF ⊢
  have hA : ∀ q : Nat, s.heap.size ≤ q → A q := fun q h => by rw [← hAe]; exact Or.inr h
  have hS : va_S A s.heap s.heap [] := va_S.rf
  have hP : va_P (dC, dI) vwCl [(h0, .inr (16, [v0, v1, v2, v3, v4, v5, v6, v7, v8, v9, v10, v11, v12, v13, v14, v15]))] s.heap := hP
  have hl := lv_entry ([.ref h0, .int x0, .int 4, .ref h1]) (n := 5) (Nat.le_of_ble_eq_true rfl)
  rw [lg_entry_eq]
  generalize (lg_sl ([.ref h0, .int x0, .int 4, .ref h1]) ++ List.replicate (5 - (lg_sl ([.ref h0, .int x0, .int 4, .ref h1])).length) Slot.unset).toArray = ls at hl ⊢
  have hl : lv_has ls 5 [(0, .ref h0), (1, .int x0), (2, .int 4), (3, .ref h1)] := hl
  refine lv_aload_n hx hb dL_word_0 rfl (lv_at hl 3 rfl) ?_
  refine lv_aload_n hx hb dL_word_1 rfl (lv_at hl 0 rfl) ?_
  refine lv_iload_n hx hb dL_word_2 rfl (lv_at hl 1 rfl) ?_
  refine lv_iload_n hx hb dL_word_3 rfl (lv_at hl 2 rfl) ?_
  have hPc := hP.sub (ws' := []) [] rfl
  have hDc := hD.sub (ws' := []) [] (by decide) rfl
  have hKc := hK.sub (tys' := []) [] rfl
  have hFc := va_free (wc := []) hD hS hA [] rfl
  refine vx_callv (vx_runV (As := [.int x0, .int 4]) (rest := [.ref h1]) ⟨hx, hb, hml, hown, hts⟩ (kX9_word_5 l dC dI g s.heap.size h0 x0 ⟨by omega, by omega⟩ hlt) (cwV 2 hts (ns_gp (List.forall_mem_cons.mpr ⟨wm229, (List.forall_mem_cons.mpr ⟨wm230, (List.forall_mem_cons.mpr ⟨wm231, (List.forall_mem_cons.mpr ⟨wm2, (fun _ h9 => nomatch h9)⟩)⟩)⟩)⟩) wm227) rfl rfl rfl (by decide +kernel) ⟨Nat.le_of_ble_eq_true rfl, Nat.le_of_ble_eq_true rfl⟩) ⟨fun a U gg mk q => by obtain ⟨q0, q1, qP, qK, qD, qF⟩ := q; exact ⟨q0, q1, qP, va_K.moved (u := U) (U := U.calling gg mk a) (Vm.Alike.refl U.vm) qK, qD, ns_same qF⟩, va_recv hK hP (ci := 16) (q0 := 0) rfl rfl, fun U hU hW => ⟨rfl, by rw [hU], by rw [hU]; exact hPc, va_K.moved hW.alike hKc, hDc.weaken (fun _ _ _ _ => trivial), ns_call hF hS hFc hU hW⟩⟩ rfl rfl hl.1 rfl (lv_room (Nat.le_of_ble_eq_true rfl)) dL_word_4 ⟨Nat.le_of_ble_eq_true rfl, Nat.le_of_ble_eq_true rfl⟩) hS (fun q _ h => hFc q h) hFc (fun q _ h => hFc q h) (fun E ce q9 u t H1 locs ht hvm hw hB hz1 hk1 hS hc1 hc2 hc3 => ?_) (fun _ _ _ _ _ _ hw _ _ _ _ => False.elim hw)
  obtain rfl : E = "java/lang/IllegalArgumentException" := hB
  obtain ⟨hP, hD⟩ := va_join (wr := [(h0, .inr (16, [v0, v1, v2, v3, v4, v5, v6, v7, v8, v9, v10, v11, v12, v13, v14, v15]))]) (w1 := []) hP hD [] [0] rfl rfl (by decide) (by decide) hk1 hFc (fun k q h => by simp at h) ⟨fun i j p q h => by simp at h, fun k q h => by simp at h⟩
  have hK := hK.sub (tys' := []) [] rfl
  generalize H1 = H at hP hS hc1 ⊢
  have hP : va_P (dC, dI) vwCl [(h0, .inr (16, [v0, v1, v2, v3, v4, v5, v6, v7, v8, v9, v10, v11, v12, v13, v14, v15]))] H := hP
  have hD : va_D A [(h0, .inr (16, [v0, v1, v2, v3, v4, v5, v6, v7, v8, v9, v10, v11, v12, v13, v14, v15]))] := hD
  have hK : va_K (dC, dI) vwCl [] s := hK
  refine vx_widen (k := 1) (n := 6) (Nat.le_of_ble_eq_true rfl) (Nat.le_of_ble_eq_true rfl) ?_
  refine vx_catch hown [] ⟨0, 11, 14, 19⟩ [⟨0, 11, 18, 21⟩] htab (fun z hz => by simp at hz) (by decide) (by decide) (hta _ wm228) (va_Nw.use rfl (ns_f11 hF)) hc1 hc2 hc3 ?_
  refine W.eq (g2 := F0 m 14 ls [.ref q9]) rfl ?_
  refine lv_astore (lv' := [(4, .ref q9), (0, .ref h0), (1, .int x0), (2, .int 4), (3, .ref h1)]) hx hb dL_word_14 hl (by decide) rfl (fun ls hl => ?_)
  refine lv_iconst (v := 1) hx hb dL_word_16 (by decide) ?_
  have hP9 := hP.sub (ws' := [(h0, .inr (16, [v0, v1, v2, v3, v4, v5, v6, v7, v8, v9, v10, v11, v12, v13, v14, v15]))]) [0] rfl
  have hD9 := hD.sub (ws' := [(h0, .inr (16, [v0, v1, v2, v3, v4, v5, v6, v7, v8, v9, v10, v11, v12, v13, v14, v15]))]) [0] (by decide) rfl
  have hK9 := hK.sub (tys' := []) [] rfl
  refine W.widen (k := 1) (n := 6) (Nat.le_of_ble_eq_true rfl) (Nat.le_of_ble_eq_true rfl) ?_
  exact W.iret (v := 1) hx hb hr (fun t ht hW => ⟨⟨_, (), rfl, rfl, by rw [ht]; exact hP9, va_K.moved hW.alike hK9, hD9⟩, hS.F ht⟩) hS.2.2 dL_word_17
set_option maxHeartbeats 4000000 in
set_option maxRecDepth 100000 in
theorem kL_house (l : Launch) (dC : Nat → ClassId) (dI : Nat → Nat → Nat) (g : Nat → Nat) (sz : Nat) (h0 : Nat) (x0 : Int32) (h1 : Nat) (v0 : Value) (v1 : Value) (v2 : Value) (v3 : Value) (v4 : Value) (v5 : Value) (v6 : Value) (v7 : Value) (v8 : Value) (v9 : Value) (v10 : Value) (v11 : Value) (v12 : Value) (v13 : Value) (v14 : Value) (v15 : Value) (ex0 : (-2147483648 : Int) ≤ x0.toInt ∧ x0.toInt ≤ (-1 : Int)) (hlt : l.stackTraces = false) : Met l yL_house wbL_house ({ frames := 7, cells := 1, slots := 6, locals := 103 }) (va_Pc [.ref h0, .int x0, .ref h1] (fun U => U.heap.size = sz ∧ va_P (dC, dI) vwCl [(h0, .inr (16, [v0, v1, v2, v3, v4, v5, v6, v7, v8, v9, v10, v11, v12, v13, v14, v15]))] U.heap ∧ va_K (dC, dI) vwCl [] U ∧ va_D (fun _ => True) [(h0, .inr (16, [v0, v1, v2, v3, v4, v5, v6, v7, v8, v9, v10, v11, v12, v13, v14, v15]))] ∧ ns_F g (va_A [(h0, .inr (16, [v0, v1, v2, v3, v4, v5, v6, v7, v8, v9, v10, v11, v12, v13, v14, v15]))] sz) U U.heap)) (va_Qi (fun (r : Int32) (_ : Unit) => r = 1) (fun _ t => va_P (dC, dI) vwCl [(h0, .inr (16, [v0, v1, v2, v3, v4, v5, v6, v7, v8, v9, v10, v11, v12, v13, v14, v15]))] t.heap ∧ va_K (dC, dI) vwCl [] t ∧ va_D (va_A [(h0, .inr (16, [v0, v1, v2, v3, v4, v5, v6, v7, v8, v9, v10, v11, v12, v13, v14, v15]))] sz) [(h0, .inr (16, [v0, v1, v2, v3, v4, v5, v6, v7, v8, v9, v10, v11, v12, v13, v14, v15]))]) (va_A [(h0, .inr (16, [v0, v1, v2, v3, v4, v5, v6, v7, v8, v9, v10, v11, v12, v13, v14, v15]))] sz)) 1 6 (va_A [(h0, .inr (16, [v0, v1, v2, v3, v4, v5, v6, v7, v8, v9, v10, v11, v12, v13, v14, v15]))] sz) := by
  refine va_MetW (cc := cL_house) (maxL := 4) (ret := (some .int)) (hh := [(0, 10, 13, 19)]) (by decide) rfl ?_
  intro p e s m args below meth c s₁ B hml hv
  obtain ⟨rfl, hsz, hP, hK, hD0, hF⟩ := hv
  have hx := B.exec
  have hb := B.bytes
  have hr := B.returns
  have hts := atoms_spec (ws := wbL_house) B.pre
  have hta : ∀ w ∈ wsALL, w.before _ s = true := fun w h => hts w (List.mem_cons_of_mem _ h)
  have hown : s.vm.findClass RL = some m.cls := findClass_of_methodNamed B.named
  have hlocks := B.notSynchronized
  have htab : c.exceptionTable.toList = [⟨0, 10, 13, 19⟩] := vx_table (x := yL_house) B (hts _ List.mem_cons_self)
  subst hsz
  have hD := hD0.self (sz := s.heap.size)
  generalize hAe : va_A [(h0, .inr (16, [v0, v1, v2, v3, v4, v5, v6, v7, v8, v9, v10, v11, v12, v13, v14, v15]))] s.heap.size = A at hD hF ⊢
  have hA : ∀ q : Nat, s.heap.size ≤ q → A q := fun q h => by rw [← hAe]; exact Or.inr h
  have hS : va_S A s.heap s.heap [] := va_S.rf
  have hP : va_P (dC, dI) vwCl [(h0, .inr (16, [v0, v1, v2, v3, v4, v5, v6, v7, v8, v9, v10, v11, v12, v13, v14, v15]))] s.heap := hP
  have hl := lv_entry ([.ref h0, .int x0, .ref h1]) (n := 4) (Nat.le_of_ble_eq_true rfl)
  rw [lg_entry_eq]
  generalize (lg_sl ([.ref h0, .int x0, .ref h1]) ++ List.replicate (4 - (lg_sl ([.ref h0, .int x0, .ref h1])).length) Slot.unset).toArray = ls at hl ⊢
  have hl : lv_has ls 4 [(0, .ref h0), (1, .int x0), (2, .ref h1)] := hl
  refine lv_aload_n hx hb dL_house_0 rfl (lv_at hl 2 rfl) ?_
  refine lv_aload_n hx hb dL_house_1 rfl (lv_at hl 0 rfl) ?_
  refine lv_iload_n hx hb dL_house_2 rfl (lv_at hl 1 rfl) ?_
  have hPc := hP.sub (ws' := []) [] rfl
  have hDc := hD.sub (ws' := []) [] (by decide) rfl
  have hKc := hK.sub (tys' := []) [] rfl
  have hFc := va_free (wc := []) hD hS hA [] rfl
  refine vx_callv (vx_runV (As := [.int x0]) (rest := [.ref h1]) ⟨hx, hb, hml, hown, hts⟩ (kX9_house l dC dI g s.heap.size h0 x0 ⟨by omega, by omega⟩ hlt) (cwV 1 hts (ns_gp (List.forall_mem_cons.mpr ⟨wm985, (List.forall_mem_cons.mpr ⟨wm986, (List.forall_mem_cons.mpr ⟨wm987, (List.forall_mem_cons.mpr ⟨wm2, (fun _ h9 => nomatch h9)⟩)⟩)⟩)⟩) wm984) rfl rfl rfl (by decide +kernel) ⟨Nat.le_of_ble_eq_true rfl, Nat.le_of_ble_eq_true rfl⟩) ⟨fun a U gg mk q => by obtain ⟨q0, q1, qP, qK, qD, qF⟩ := q; exact ⟨q0, q1, qP, va_K.moved (u := U) (U := U.calling gg mk a) (Vm.Alike.refl U.vm) qK, qD, ns_same qF⟩, va_recv hK hP (ci := 16) (q0 := 0) rfl rfl, fun U hU hW => ⟨rfl, by rw [hU], by rw [hU]; exact hPc, va_K.moved hW.alike hKc, hDc.weaken (fun _ _ _ _ => trivial), ns_call hF hS hFc hU hW⟩⟩ rfl rfl hl.1 rfl (lv_room (Nat.le_of_ble_eq_true rfl)) dL_house_3 ⟨Nat.le_of_ble_eq_true rfl, Nat.le_of_ble_eq_true rfl⟩) hS (fun q _ h => hFc q h) hFc (fun q _ h => hFc q h) (fun E ce q9 u t H1 locs ht hvm hw hB hz1 hk1 hS hc1 hc2 hc3 => ?_) (fun _ _ _ _ _ _ hw _ _ _ _ => False.elim hw)
  obtain rfl : E = "java/lang/IllegalArgumentException" := hB
  obtain ⟨hP, hD⟩ := va_join (wr := [(h0, .inr (16, [v0, v1, v2, v3, v4, v5, v6, v7, v8, v9, v10, v11, v12, v13, v14, v15]))]) (w1 := []) hP hD [] [0] rfl rfl (by decide) (by decide) hk1 hFc (fun k q h => by simp at h) ⟨fun i j p q h => by simp at h, fun k q h => by simp at h⟩
  have hK := hK.sub (tys' := []) [] rfl
  generalize H1 = H at hP hS hc1 ⊢
  have hP : va_P (dC, dI) vwCl [(h0, .inr (16, [v0, v1, v2, v3, v4, v5, v6, v7, v8, v9, v10, v11, v12, v13, v14, v15]))] H := hP
  have hD : va_D A [(h0, .inr (16, [v0, v1, v2, v3, v4, v5, v6, v7, v8, v9, v10, v11, v12, v13, v14, v15]))] := hD
  have hK : va_K (dC, dI) vwCl [] s := hK
  refine vx_widen (k := 1) (n := 6) (Nat.le_of_ble_eq_true rfl) (Nat.le_of_ble_eq_true rfl) ?_
  refine vx_catch hown [] ⟨0, 10, 13, 19⟩ [] htab (fun z hz => by simp at hz) (by decide) (by decide) (hta _ wm228) (va_Nw.use rfl (ns_f11 hF)) hc1 hc2 hc3 ?_
  refine W.eq (g2 := F0 m 13 ls [.ref q9]) rfl ?_
  refine lv_astore_n (lv' := [(3, .ref q9), (0, .ref h0), (1, .int x0), (2, .ref h1)]) hx hb dL_house_13 rfl hl (by decide) rfl (fun ls hl => ?_)
  refine lv_iconst (v := 1) hx hb dL_house_14 (by decide) ?_
  have hP9 := hP.sub (ws' := [(h0, .inr (16, [v0, v1, v2, v3, v4, v5, v6, v7, v8, v9, v10, v11, v12, v13, v14, v15]))]) [0] rfl
  have hD9 := hD.sub (ws' := [(h0, .inr (16, [v0, v1, v2, v3, v4, v5, v6, v7, v8, v9, v10, v11, v12, v13, v14, v15]))]) [0] (by decide) rfl
  have hK9 := hK.sub (tys' := []) [] rfl
  refine W.widen (k := 1) (n := 6) (Nat.le_of_ble_eq_true rfl) (Nat.le_of_ble_eq_true rfl) ?_
  exact W.iret (v := 1) hx hb hr (fun t ht hW => ⟨⟨_, (), rfl, rfl, by rw [ht]; exact hP9, va_K.moved hW.alike hK9, hD9⟩, hS.F ht⟩) hS.2.2 dL_house_15
set_option maxHeartbeats 4000000 in
set_option maxRecDepth 100000 in
theorem kJ0_length_8abf5_4 (l : Launch) (dC : Nat → ClassId) (dI : Nat → Nat → Nat) (g : Nat → Nat) (sz : Nat) (h0 : Nat) (h1 : Nat) (v0 : Value) (v1 : Value) (cc0 : ClassId) (f0 : Nat → Int32) (hf0 : sb_Fit f0) : Met l yJ0_length_8abf5 wbJ0_length_8abf5 ({ frames := 1, cells := 0, slots := 0, locals := 20 }) (va_Pc [.ref h0] (fun U => U.heap.size = sz ∧ va_P (dC, dI) vwCl [(h0, .inr (0, [.ref h1, .int 0, v0, v1])), (h1, .inl (cc0, 2, .inl f0))] U.heap ∧ va_K (dC, dI) vwCl [(cc0, .byte)] U ∧ va_D (fun _ => True) [(h0, .inr (0, [.ref h1, .int 0, v0, v1])), (h1, .inl (cc0, 2, .inl f0))] ∧ ns_F g (va_A [(h0, .inr (0, [.ref h1, .int 0, v0, v1])), (h1, .inl (cc0, 2, .inl f0))] sz) U U.heap)) (va_Qi (fun (r : Int32) (_ : Unit) => r = 2) (fun _ t => va_P (dC, dI) vwCl [(h1, .inl (cc0, 2, .inl f0)), (h0, .inr (0, [.ref h1, .int 0, v0, v1]))] t.heap ∧ va_K (dC, dI) vwCl [(cc0, .byte)] t ∧ va_D (va_A [(h0, .inr (0, [.ref h1, .int 0, v0, v1])), (h1, .inl (cc0, 2, .inl f0))] sz) [(h1, .inl (cc0, 2, .inl f0)), (h0, .inr (0, [.ref h1, .int 0, v0, v1]))]) (va_A [(h0, .inr (0, [.ref h1, .int 0, v0, v1])), (h1, .inl (cc0, 2, .inl f0))] sz)) 0 0 (va_A [(h0, .inr (0, [.ref h1, .int 0, v0, v1])), (h1, .inl (cc0, 2, .inl f0))] sz) := by
  refine Met.ofW (cc := cJ0_length_8abf5) (maxL := 1) (ret := (some .int)) (by decide) rfl ?_
  intro p e s m args below meth c s₁ B hml hv
  obtain ⟨rfl, hsz, hP, hK, hD0, hF⟩ := hv
  have hx := B.exec
  have hb := B.bytes
  have hr := B.returns
  have hts := atoms_spec (ws := wbJ0_length_8abf5) B.pre
  have hta : ∀ w ∈ wsALL, w.before _ s = true := fun w h => hts w (List.mem_cons_of_mem _ h)
  have hown : s.vm.findClass RJ0 = some m.cls := findClass_of_methodNamed B.named
  have hlocks := B.notSynchronized
  subst hsz
  have hD := hD0.self (sz := s.heap.size)
  generalize hAe : va_A [(h0, .inr (0, [.ref h1, .int 0, v0, v1])), (h1, .inl (cc0, 2, .inl f0))] s.heap.size = A at hD hF ⊢
  have hA : ∀ q : Nat, s.heap.size ≤ q → A q := fun q h => by rw [← hAe]; exact Or.inr h
  have hS : va_S A s.heap s.heap [] := va_S.rf
  have hP : va_P (dC, dI) vwCl [(h0, .inr (0, [.ref h1, .int 0, v0, v1])), (h1, .inl (cc0, 2, .inl f0))] s.heap := hP
  have hl := lv_entry ([.ref h0]) (n := 1) (Nat.le_of_ble_eq_true rfl)
  rw [lg_entry_eq]
  generalize (lg_sl ([.ref h0]) ++ List.replicate (1 - (lg_sl ([.ref h0])).length) Slot.unset).toArray = ls at hl ⊢
  have hl : lv_has ls 1 [(0, .ref h0)] := hl
  refine lv_aload_n hx hb dJ0_length_8abf5_0 rfl (lv_at hl 0 rfl) ?_
  refine va_get (D := (dC, dI)) (ci := 0) (v := .ref h1) (C := RJ0) (T := TJ0) (N := 4) hx hb hta naJ0 hown hK hP 0 rfl rfl 0 (by decide) (hta _ wm341) (fun _ h9 => h9) rfl dJ0_length_8abf5_1 ?_
  refine va_alen (v := 2) hx hb hK hP 1 0 rfl rfl (show Int32.ofNat 2 = 2 by decide) dJ0_length_8abf5_4 ?_
  refine lv_aload_n hx hb dJ0_length_8abf5_5 rfl (lv_at hl 0 rfl) ?_
  have hPc := hP.sub (ws' := [(h0, .inr (0, [.ref h1, .int 0, v0, v1]))]) [0] rfl
  have hDc := hD.sub (ws' := [(h0, .inr (0, [.ref h1, .int 0, v0, v1]))]) [0] (by decide) rfl
  have hKc := hK.sub (tys' := []) [] rfl
  have hFc := va_free (wc := [(h0, .inr (0, [.ref h1, .int 0, v0, v1]))]) hD hS hA [0] rfl
  refine va_calli (va_runV (As := []) (rest := [.int 2]) ⟨hx, hb, hml, hown, hts⟩ (kJ0_coder_7d493_3 l dC dI g s.heap.size h0 (.ref h1) v0 v1 ) (cwV 0 hts (ns_gp (List.forall_mem_cons.mpr ⟨wm571, (List.forall_mem_cons.mpr ⟨wm572, (List.forall_mem_cons.mpr ⟨wm573, (List.forall_mem_cons.mpr ⟨wm316, (fun _ h9 => nomatch h9)⟩)⟩)⟩)⟩) wm570) rfl rfl rfl (by decide +kernel) ⟨Nat.le_of_ble_eq_true rfl, Nat.le_of_ble_eq_true rfl⟩) ⟨fun a U gg mk q => by obtain ⟨q0, q1, qP, qK, qD, qF⟩ := q; exact ⟨q0, q1, qP, va_K.moved (u := U) (U := U.calling gg mk a) (Vm.Alike.refl U.vm) qK, qD, ns_same qF⟩, va_recv hK hP (ci := 0) (q0 := 0) rfl rfl, fun U hU hW => ⟨rfl, by rw [hU], by rw [hU]; exact hPc, va_K.moved hW.alike hKc, hDc.weaken (fun _ _ _ _ => trivial), ns_call hF hS hFc hU hW⟩⟩ rfl rfl hl.1 rfl (lv_room (Nat.le_of_ble_eq_true rfl)) dJ0_length_8abf5_6 ⟨Nat.le_of_ble_eq_true rfl, Nat.le_of_ble_eq_true rfl⟩) hS (fun q _ h => hFc q h) hFc (fun r9 u t H1 locs ht hvm hw hB hz1 hk1 hS => ?_)
  obtain rfl := hw.symm
  obtain ⟨hP1, hK1, hD1⟩ := hB
  rw [ht] at hP1
  have hK1 := va_K.moved hvm.symm hK1
  obtain ⟨hP, hD⟩ := va_join (wr := [(h1, .inl (cc0, 2, .inl f0))]) (w1 := [(h0, .inr (0, [.ref h1, .int 0, v0, v1]))]) hP hD [0] [1] rfl rfl (by decide) (by decide) hk1 hFc hP1 hD1
  have hK := (hK.sub (tys' := [(cc0, .byte)]) [0] rfl).app hK1
  generalize H1 = H at hP hS ⊢
  have hP : va_P (dC, dI) vwCl [(h1, .inl (cc0, 2, .inl f0)), (h0, .inr (0, [.ref h1, .int 0, v0, v1]))] H := hP
  have hD : va_D A [(h1, .inl (cc0, 2, .inl f0)), (h0, .inr (0, [.ref h1, .int 0, v0, v1]))] := hD
  have hK : va_K (dC, dI) vwCl [(cc0, .byte)] s := hK
  refine W.widen (k := 0) (n := 0) (Nat.le_of_ble_eq_true rfl) (Nat.le_of_ble_eq_true rfl) ?_
  refine lv_ishr hx hb dJ0_length_8abf5_9 ?_
  refine lv_topi (fun y1 ey1 => ?_)
  obtain rfl : y1 = 2 := ey1.trans (by decide)
  have hP9 := hP.sub (ws' := [(h1, .inl (cc0, 2, .inl f0)), (h0, .inr (0, [.ref h1, .int 0, v0, v1]))]) [0, 1] rfl
  have hD9 := hD.sub (ws' := [(h1, .inl (cc0, 2, .inl f0)), (h0, .inr (0, [.ref h1, .int 0, v0, v1]))]) [0, 1] (by decide) rfl
  have hK9 := hK.sub (tys' := [(cc0, .byte)]) [0] rfl
  refine W.widen (k := 0) (n := 0) (Nat.le_of_ble_eq_true rfl) (Nat.le_of_ble_eq_true rfl) ?_
  exact W.iret (v := 2) hx hb hr (fun t ht hW => ⟨⟨_, (), rfl, rfl, by rw [ht]; exact hP9, va_K.moved hW.alike hK9, hD9⟩, hS.F ht⟩) hS.2.2 dJ0_length_8abf5_10
set_option maxHeartbeats 4000000 in
set_option maxRecDepth 100000 in
theorem kJ4_length_8abf5_5 (l : Launch) (dC : Nat → ClassId) (dI : Nat → Nat → Nat) (g : Nat → Nat) (sz : Nat) (h0 : Nat) (v0 : Value) (v1 : Value) (v2 : Value) : Met l yJ4_length_8abf5 wbJ4_length_8abf5 ({ frames := 1, cells := 0, slots := 0, locals := 20 }) (va_Pc [.ref h0] (fun U => U.heap.size = sz ∧ va_P (dC, dI) vwCl [(h0, .inr (1, [v0, v1, v2, .int 5]))] U.heap ∧ va_K (dC, dI) vwCl [] U ∧ va_D (fun _ => True) [(h0, .inr (1, [v0, v1, v2, .int 5]))] ∧ ns_F g (va_A [(h0, .inr (1, [v0, v1, v2, .int 5]))] sz) U U.heap)) (va_Qi (fun (r : Int32) (_ : Unit) => r = 5) (fun _ t => va_P (dC, dI) vwCl [(h0, .inr (1, [v0, v1, v2, .int 5]))] t.heap ∧ va_K (dC, dI) vwCl [] t ∧ va_D (va_A [(h0, .inr (1, [v0, v1, v2, .int 5]))] sz) [(h0, .inr (1, [v0, v1, v2, .int 5]))]) (va_A [(h0, .inr (1, [v0, v1, v2, .int 5]))] sz)) 0 0 (va_A [(h0, .inr (1, [v0, v1, v2, .int 5]))] sz) := by
  refine Met.ofW (cc := cJ4_length_8abf5) (maxL := 1) (ret := (some .int)) (by decide) rfl ?_
  intro p e s m args below meth c s₁ B hml hv
  obtain ⟨rfl, hsz, hP, hK, hD0, hF⟩ := hv
  have hx := B.exec
  have hb := B.bytes
  have hr := B.returns
  have hts := atoms_spec (ws := wbJ4_length_8abf5) B.pre
  have hta : ∀ w ∈ wsALL, w.before _ s = true := fun w h => hts w (List.mem_cons_of_mem _ h)
  have hown : s.vm.findClass RJ4 = some m.cls := findClass_of_methodNamed B.named
  have hlocks := B.notSynchronized
  subst hsz
  have hD := hD0.self (sz := s.heap.size)
  generalize hAe : va_A [(h0, .inr (1, [v0, v1, v2, .int 5]))] s.heap.size = A at hD hF ⊢
  have hA : ∀ q : Nat, s.heap.size ≤ q → A q := fun q h => by rw [← hAe]; exact Or.inr h
  have hS : va_S A s.heap s.heap [] := va_S.rf
  have hP : va_P (dC, dI) vwCl [(h0, .inr (1, [v0, v1, v2, .int 5]))] s.heap := hP
  have hl := lv_entry ([.ref h0]) (n := 1) (Nat.le_of_ble_eq_true rfl)
  rw [lg_entry_eq]
  generalize (lg_sl ([.ref h0]) ++ List.replicate (1 - (lg_sl ([.ref h0])).length) Slot.unset).toArray = ls at hl ⊢
  have hl : lv_has ls 1 [(0, .ref h0)] := hl
  refine lv_aload_n hx hb dJ4_length_8abf5_0 rfl (lv_at hl 0 rfl) ?_
  have hPc := hP.sub (ws' := [(h0, .inr (1, [v0, v1, v2, .int 5]))]) [0] rfl
  have hDc := hD.sub (ws' := [(h0, .inr (1, [v0, v1, v2, .int 5]))]) [0] (by decide) rfl
  have hKc := hK.sub (tys' := []) [] rfl
  have hFc := va_free (wc := [(h0, .inr (1, [v0, v1, v2, .int 5]))]) hD hS hA [0] rfl
  refine va_calli (va_runSU (hK.1 1 _ rfl).2 (As := []) (rest := []) ⟨hx, hb, hml, hown, hts⟩ (kJ5_length_8abf5_5 l dC dI g s.heap.size h0 v0 v1 v2 ) (va_cwSU 0 hts (ns_gp (List.forall_mem_cons.mpr ⟨wm320, (List.forall_mem_cons.mpr ⟨wm321, (List.forall_mem_cons.mpr ⟨wm308, (List.forall_mem_cons.mpr ⟨wm322, (List.forall_mem_cons.mpr ⟨wm144, (fun _ h9 => nomatch h9)⟩)⟩)⟩)⟩)⟩) wm319) rfl rfl rfl (by decide +kernel) ⟨Nat.le_of_ble_eq_true rfl, Nat.le_of_ble_eq_true rfl⟩) ⟨fun a U gg mk q => by obtain ⟨q0, q1, qP, qK, qD, qF⟩ := q; exact ⟨q0, q1, qP, va_K.moved (u := U) (U := U.calling gg mk a) (Vm.Alike.refl U.vm) qK, qD, ns_same qF⟩, va_recv hK hP (ci := 1) (q0 := 0) rfl rfl, fun U hU hW => ⟨rfl, by rw [hU], by rw [hU]; exact hPc, va_K.moved hW.alike hKc, hDc.weaken (fun _ _ _ _ => trivial), ns_call hF hS hFc hU hW⟩⟩ rfl rfl hl.1 rfl (lv_room (Nat.le_of_ble_eq_true rfl)) dJ4_length_8abf5_1 ⟨Nat.le_of_ble_eq_true rfl, Nat.le_of_ble_eq_true rfl⟩) hS (fun q _ h => hFc q h) hFc (fun r9 u t H1 locs ht hvm hw hB hz1 hk1 hS => ?_)
  obtain rfl := hw.symm
  obtain ⟨hP1, hK1, hD1⟩ := hB
  rw [ht] at hP1
  have hK1 := va_K.moved hvm.symm hK1
  obtain ⟨hP, hD⟩ := va_join (wr := []) (w1 := [(h0, .inr (1, [v0, v1, v2, .int 5]))]) hP hD [0] [] rfl rfl (by decide) (by decide) hk1 hFc hP1 hD1
  have hK := (hK.sub (tys' := []) [] rfl).app hK1
  generalize H1 = H at hP hS ⊢
  have hP : va_P (dC, dI) vwCl [(h0, .inr (1, [v0, v1, v2, .int 5]))] H := hP
  have hD : va_D A [(h0, .inr (1, [v0, v1, v2, .int 5]))] := hD
  have hK : va_K (dC, dI) vwCl [] s := hK
  refine W.widen (k := 0) (n := 0) (Nat.le_of_ble_eq_true rfl) (Nat.le_of_ble_eq_true rfl) ?_
  have hP9 := hP.sub (ws' := [(h0, .inr (1, [v0, v1, v2, .int 5]))]) [0] rfl
  have hD9 := hD.sub (ws' := [(h0, .inr (1, [v0, v1, v2, .int 5]))]) [0] (by decide) rfl
  have hK9 := hK.sub (tys' := []) [] rfl
  refine W.widen (k := 0) (n := 0) (Nat.le_of_ble_eq_true rfl) (Nat.le_of_ble_eq_true rfl) ?_
  exact W.iret (v := 5) hx hb hr (fun t ht hW => ⟨⟨_, (), rfl, rfl, by rw [ht]; exact hP9, va_K.moved hW.alike hK9, hD9⟩, hS.F ht⟩) hS.2.2 dJ4_length_8abf5_4
