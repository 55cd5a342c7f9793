
set_option maxHeartbeats 4000000 in
set_option maxRecDepth 100000 in
theorem kX16_mark_2 (l : Launch) (dC : Nat → ClassId) (dI : Nat → Nat → Nat) (g : Nat → Nat) (sz : Nat) (h0 : Nat) (x0 : Int32) (h1 : Nat) (v0 : Value) (v1 : Value) (v2 : Value) (v3 : Value) (v4 : Value) (v5 : Value) (v6 : Value) (ex0 : (1 : Int) ≤ x0.toInt ∧ x0.toInt ≤ (4 : Int)) : Met l yX16_mark wbX16_mark ({ frames := 6, cells := 3, slots := 17, locals := 122 }) (va_Pc [.ref h0, .int x0] (fun U => U.heap.size = sz ∧ va_P (dC, dI) vwCl [(h0, .inr (23, [v0, .ref h1, v1, v2, v3, v4, v5, v6, .int 0])), (h1, .inr (6, [.int 0, .ref (g 0), .int 0]))] U.heap ∧ va_K (dC, dI) vwCl [] U ∧ va_D (fun _ => True) [(h0, .inr (23, [v0, .ref h1, v1, v2, v3, v4, v5, v6, .int 0])), (h1, .inr (6, [.int 0, .ref (g 0), .int 0]))] ∧ ns_F g (va_A [(h0, .inr (23, [v0, .ref h1, v1, v2, v3, v4, v5, v6, .int 0])), (h1, .inr (6, [.int 0, .ref (g 0), .int 0]))] sz) U U.heap)) (va_Qi (fun (r : Int32) (_ : Unit) => r = 0) (fun _ t => ∃ k0 : Nat, ∃ k1 : Nat, ∃ k2 : Nat, ∃ kc3 : ClassId, va_P (dC, dI) vwCl [(k1, .inr (6, [.int 0, .ref (g 0), .int 0])), (h0, .inr (23, [.int 0, .ref h1, v1, v2, v3, v4, v5, v6, .int 1])), (k0, .inr (18, [.int x0, .ref (g 34), .int 0, .ref k1])), (k2, .inl (kc3, 10, .inr (.inr (.inr (.inr (va_up (fun _ => none) 0 (some k0))))))), (h1, .inr (6, [.int 1, .ref k2, .int 1]))] t.heap ∧ va_K (dC, dI) vwCl [(kc3, .object "java/lang/Object")] t ∧ va_D (va_A [(h0, .inr (23, [v0, .ref h1, v1, v2, v3, v4, v5, v6, .int 0])), (h1, .inr (6, [.int 0, .ref (g 0), .int 0]))] sz) [(k1, .inr (6, [.int 0, .ref (g 0), .int 0])), (h0, .inr (23, [.int 0, .ref h1, v1, v2, v3, v4, v5, v6, .int 1])), (k0, .inr (18, [.int x0, .ref (g 34), .int 0, .ref k1])), (k2, .inl (kc3, 10, .inr (.inr (.inr (.inr (va_up (fun _ => none) 0 (some k0))))))), (h1, .inr (6, [.int 1, .ref k2, .int 1]))]) (va_A [(h0, .inr (23, [v0, .ref h1, v1, v2, v3, v4, v5, v6, .int 0])), (h1, .inr (6, [.int 0, .ref (g 0), .int 0]))] sz)) 3 17 (va_A [(h0, .inr (23, [v0, .ref h1, v1, v2, v3, v4, v5, v6, .int 0])), (h1, .inr (6, [.int 0, .ref (g 0), .int 0]))] sz) := by
  refine Met.ofW (cc := cX16_mark) (maxL := 2) (ret := (some .int)) (by decide) rfl ?_
  intro p e s m args below meth c s₁ B hml hv
  obtain ⟨rfl, hsz, hP, hK, hD0, hF⟩ := hv
  have hx := B.exec
  have hb := B.bytes
  have hr := B.returns
  have hts := atoms_spec (ws := wbX16_mark) B.pre
  have hta : ∀ w ∈ wsALL, w.before _ s = true := fun w h => hts w (List.mem_cons_of_mem _ h)
  have hown : s.vm.findClass RX16 = some m.cls := findClass_of_methodNamed B.named
  have hlocks := B.notSynchronized
  subst hsz
  have hD := hD0.self (sz := s.heap.size)
  generalize hAe : va_A [(h0, .inr (23, [v0, .ref h1, v1, v2, v3, v4, v5, v6, .int 0])), (h1, .inr (6, [.int 0, .ref (g 0), .int 0]))] s.heap.size = A at hD hF ⊢
  have hA : ∀ q : Nat, s.heap.size ≤ q → A q := fun q h => by rw [← hAe]; exact Or.inr h
  have hS : va_S A s.heap s.heap [] := va_S.rf
  have hP : va_P (dC, dI) vwCl [(h0, .inr (23, [v0, .ref h1, v1, v2, v3, v4, v5, v6, .int 0])), (h1, .inr (6, [.int 0, .ref (g 0), .int 0]))] s.heap := hP
  have hl := lv_entry ([.ref h0, .int x0]) (n := 2) (Nat.le_of_ble_eq_true rfl)
  rw [lg_entry_eq]
  generalize (lg_sl ([.ref h0, .int x0]) ++ List.replicate (2 - (lg_sl ([.ref h0, .int x0])).length) Slot.unset).toArray = ls at hl ⊢
  have hl : lv_has ls 2 [(0, .ref h0), (1, .int x0)] := hl
  refine lv_aload_n hx hb dX16_mark_0 rfl (lv_at hl 0 rfl) ?_
  refine lv_iload_n hx hb dX16_mark_1 rfl (lv_at hl 1 rfl) ?_
  refine lv_iconst (v := 1) hx hb dX16_mark_2 (by decide) ?_
  refine lv_iconst (v := 4) hx hb dX16_mark_3 (by decide) ?_
  have hPc := hP.sub (ws' := []) [] rfl
  have hDc := hD.sub (ws' := []) [] (by decide) rfl
  have hKc := hK.sub (tys' := []) [] rfl
  have hFc := va_free (wc := []) hD hS hA [] rfl
  refine va_calli (va_runS (As := [.int x0, .int 1, .int 4]) (rest := [.ref h0]) ⟨hx, hb, hml, hown, hts⟩ (kX16_isIn_16 l dC dI g s.heap.size x0 ⟨by omega, by omega⟩) (va_cwS 3 hts (ns_gp (List.forall_mem_cons.mpr ⟨wm240, (List.forall_mem_cons.mpr ⟨wm241, (List.forall_mem_cons.mpr ⟨wm192, (fun _ h9 => nomatch h9)⟩)⟩)⟩) wm233) rfl rfl rfl (by decide +kernel) ⟨Nat.le_of_ble_eq_true rfl, Nat.le_of_ble_eq_true rfl⟩) ⟨fun a U gg mk q => by obtain ⟨q0, q1, qP, qK, qD, qF⟩ := q; exact ⟨q0, q1, qP, va_K.moved (u := U) (U := U.calling gg mk a) (Vm.Alike.refl U.vm) qK, qD, ns_same qF⟩, fun U hU hW => ⟨rfl, by rw [hU], by rw [hU]; exact hPc, va_K.moved hW.alike hKc, hDc.weaken (fun _ _ _ _ => trivial), ns_call hF hS hFc hU hW⟩⟩ rfl rfl hl.1 rfl (lv_room (Nat.le_of_ble_eq_true rfl)) dX16_mark_4 ⟨Nat.le_of_ble_eq_true rfl, Nat.le_of_ble_eq_true rfl⟩) hS (fun q _ h => hFc q h) hFc (fun r9 u t H1 locs ht hvm hw hB hz1 hk1 hS => ?_)
  obtain rfl := hw.symm
  obtain ⟨hP1, hK1, hD1⟩ := hB
  rw [ht] at hP1
  have hK1 := va_K.moved hvm.symm hK1
  obtain ⟨hP, hD⟩ := va_join (wr := [(h0, .inr (23, [v0, .ref h1, v1, v2, v3, v4, v5, v6, .int 0])), (h1, .inr (6, [.int 0, .ref (g 0), .int 0]))]) (w1 := []) hP hD [] [0, 1] rfl rfl (by decide) (by decide) hk1 hFc hP1 hD1
  have hK := (hK.sub (tys' := []) [] rfl).app hK1
  generalize H1 = H at hP hS ⊢
  have hP : va_P (dC, dI) vwCl [(h0, .inr (23, [v0, .ref h1, v1, v2, v3, v4, v5, v6, .int 0])), (h1, .inr (6, [.int 0, .ref (g 0), .int 0]))] H := hP
  have hD : va_D A [(h0, .inr (23, [v0, .ref h1, v1, v2, v3, v4, v5, v6, .int 0])), (h1, .inr (6, [.int 0, .ref (g 0), .int 0]))] := hD
  have hK : va_K (dC, dI) vwCl [] s := hK
  refine W.widen (k := 0) (n := 0) (Nat.le_of_ble_eq_true rfl) (Nat.le_of_ble_eq_true rfl) ?_
  refine lv_if_ne (tgt := 14) hx hb dX16_mark_7 (by decide) (fun c1 => ?_) (fun c1 => absurd c1 (by decide))
  refine lv_iconst (v := 0) hx hb dX16_mark_14 (by decide) ?_
  refine lv_iconst (v := 1) hx hb dX16_mark_15 (by decide) ?_
  have hPc := hP.sub (ws' := [(h0, .inr (23, [v0, .ref h1, v1, v2, v3, v4, v5, v6, .int 0]))]) [0] rfl
  have hDc := hD.sub (ws' := [(h0, .inr (23, [v0, .ref h1, v1, v2, v3, v4, v5, v6, .int 0]))]) [0] (by decide) rfl
  have hKc := hK.sub (tys' := []) [] rfl
  have hFc := va_free (wc := [(h0, .inr (23, [v0, .ref h1, v1, v2, v3, v4, v5, v6, .int 0]))]) hD hS hA [0] rfl
  refine va_calli (va_runV (As := [.int 0, .int 1]) (rest := []) ⟨hx, hb, hml, hown, hts⟩ (kX16_start_2 l dC dI g H.size h0 v0 (.ref h1) v1 v2 v3 v4 v5 v6 (.int 0) ) (cwV 2 hts (ns_gp (List.forall_mem_cons.mpr ⟨wm242, (List.forall_mem_cons.mpr ⟨wm243, (List.forall_mem_cons.mpr ⟨wm244, (List.forall_mem_cons.mpr ⟨wm192, (fun _ h9 => nomatch h9)⟩)⟩)⟩)⟩) wm239) rfl rfl rfl (by decide +kernel) ⟨Nat.le_of_ble_eq_true rfl, Nat.le_of_ble_eq_true rfl⟩) ⟨fun a U gg mk q => by obtain ⟨q0, q1, qP, qK, qD, qF⟩ := q; exact ⟨q0, q1, qP, va_K.moved (u := U) (U := U.calling gg mk a) (Vm.Alike.refl U.vm) qK, qD, ns_same qF⟩, va_recv hK hP (ci := 23) (q0 := 0) rfl rfl, fun U hU hW => ⟨rfl, by rw [hU], by rw [hU]; exact hPc, va_K.moved hW.alike hKc, hDc.weaken (fun _ _ _ _ => trivial), ns_call hF hS hFc hU hW⟩⟩ rfl rfl hl.1 rfl (lv_room (Nat.le_of_ble_eq_true rfl)) dX16_mark_16 ⟨Nat.le_of_ble_eq_true rfl, Nat.le_of_ble_eq_true rfl⟩) hS (fun q _ h => hFc q h) hFc (fun r9 u t H1 locs ht hvm hw hB hz1 hk1 hS => ?_)
  obtain rfl := hw.symm
  obtain ⟨hP1, hK1, hD1⟩ := hB
  rw [ht] at hP1
  have hK1 := va_K.moved hvm.symm hK1
  obtain ⟨hP, hD⟩ := va_join (wr := [(h1, .inr (6, [.int 0, .ref (g 0), .int 0]))]) (w1 := [(h0, .inr (23, [.int 0, .ref h1, v1, v2, v3, v4, v5, v6, .int 0]))]) hP hD [0] [1] rfl rfl (by decide) (by decide) hk1 hFc hP1 hD1
  have hK := (hK.sub (tys' := []) [] rfl).app hK1
  generalize H1 = H at hP hS ⊢
  have hP : va_P (dC, dI) vwCl [(h1, .inr (6, [.int 0, .ref (g 0), .int 0])), (h0, .inr (23, [.int 0, .ref h1, v1, v2, v3, v4, v5, v6, .int 0]))] H := hP
  have hD : va_D A [(h1, .inr (6, [.int 0, .ref (g 0), .int 0])), (h0, .inr (23, [.int 0, .ref h1, v1, v2, v3, v4, v5, v6, .int 0]))] := hD
  have hK : va_K (dC, dI) vwCl [] s := hK
  refine W.widen (k := 0) (n := 0) (Nat.le_of_ble_eq_true rfl) (Nat.le_of_ble_eq_true rfl) ?_
  refine lv_if_ne (tgt := 34) hx hb dX16_mark_19 (by decide) (fun c2 => absurd (by decide) c2) (fun c2 => ?_)
  refine lv_aload_n hx hb dX16_mark_22 rfl (lv_at hl 0 rfl) ?_
  refine lv_aload_n hx hb dX16_mark_23 rfl (lv_at hl 0 rfl) ?_
  have hPc := hP.sub (ws' := [(h0, .inr (23, [.int 0, .ref h1, v1, v2, v3, v4, v5, v6, .int 0])), (h1, .inr (6, [.int 0, .ref (g 0), .int 0]))]) [1, 0] rfl
  have hDc := hD.sub (ws' := [(h0, .inr (23, [.int 0, .ref h1, v1, v2, v3, v4, v5, v6, .int 0])), (h1, .inr (6, [.int 0, .ref (g 0), .int 0]))]) [1, 0] (by decide) rfl
  have hKc := hK.sub (tys' := []) [] rfl
  have hFc := va_free (wc := [(h0, .inr (23, [.int 0, .ref h1, v1, v2, v3, v4, v5, v6, .int 0])), (h1, .inr (6, [.int 0, .ref (g 0), .int 0]))]) hD hS hA [1, 0] rfl
  refine va_calli (va_runV (As := []) (rest := [.ref h0]) ⟨hx, hb, hml, hown, hts⟩ (kX16_isFull l dC dI g H.size h0 h1 (.int 0) v1 v2 v3 v4 v5 v6 (.int 0) (.int 0) (.ref (g 0)) ) (cwV 0 hts (ns_gp (List.forall_mem_cons.mpr ⟨wm393, (List.forall_mem_cons.mpr ⟨wm394, (List.forall_mem_cons.mpr ⟨wm395, (List.forall_mem_cons.mpr ⟨wm192, (fun _ h9 => nomatch h9)⟩)⟩)⟩)⟩) wm288) rfl rfl rfl (by decide +kernel) ⟨Nat.le_of_ble_eq_true rfl, Nat.le_of_ble_eq_true rfl⟩) ⟨fun a U gg mk q => by obtain ⟨q0, q1, qP, qK, qD, qF⟩ := q; exact ⟨q0, q1, qP, va_K.moved (u := U) (U := U.calling gg mk a) (Vm.Alike.refl U.vm) qK, qD, ns_same qF⟩, va_recv hK hP (ci := 23) (q0 := 1) rfl rfl, fun U hU hW => ⟨rfl, by rw [hU], by rw [hU]; exact hPc, va_K.moved hW.alike hKc, hDc.weaken (fun _ _ _ _ => trivial), ns_call hF hS hFc hU hW⟩⟩ rfl rfl hl.1 rfl (lv_room (Nat.le_of_ble_eq_true rfl)) dX16_mark_24 ⟨Nat.le_of_ble_eq_true rfl, Nat.le_of_ble_eq_true rfl⟩) hS (fun q _ h => hFc q h) hFc (fun r9 u t H1 locs ht hvm hw hB hz1 hk1 hS => ?_)
  obtain rfl := hw.symm
  obtain ⟨hP1, hK1, hD1⟩ := hB
  rw [ht] at hP1
  have hK1 := va_K.moved hvm.symm hK1
  obtain ⟨hP, hD⟩ := va_join (wr := []) (w1 := [(h0, .inr (23, [.int 0, .ref h1, v1, v2, v3, v4, v5, v6, .int 0])), (h1, .inr (6, [.int 0, .ref (g 0), .int 0]))]) hP hD [1, 0] [] rfl rfl (by decide) (by decide) hk1 hFc hP1 hD1
  have hK := (hK.sub (tys' := []) [] rfl).app hK1
  generalize H1 = H at hP hS ⊢
  have hP : va_P (dC, dI) vwCl [(h0, .inr (23, [.int 0, .ref h1, v1, v2, v3, v4, v5, v6, .int 0])), (h1, .inr (6, [.int 0, .ref (g 0), .int 0]))] H := hP
  have hD : va_D A [(h0, .inr (23, [.int 0, .ref h1, v1, v2, v3, v4, v5, v6, .int 0])), (h1, .inr (6, [.int 0, .ref (g 0), .int 0]))] := hD
  have hK : va_K (dC, dI) vwCl [] s := hK
  refine W.widen (k := 0) (n := 0) (Nat.le_of_ble_eq_true rfl) (Nat.le_of_ble_eq_true rfl) ?_
  refine lv_iconst (v := 2) hx hb dX16_mark_27 (by decide) ?_
  have hPc := hP.sub (ws' := [(h0, .inr (23, [.int 0, .ref h1, v1, v2, v3, v4, v5, v6, .int 0]))]) [0] rfl
  have hDc := hD.sub (ws' := [(h0, .inr (23, [.int 0, .ref h1, v1, v2, v3, v4, v5, v6, .int 0]))]) [0] (by decide) rfl
  have hKc := hK.sub (tys' := []) [] rfl
  have hFc := va_free (wc := [(h0, .inr (23, [.int 0, .ref h1, v1, v2, v3, v4, v5, v6, .int 0]))]) hD hS hA [0] rfl
  refine va_calli (va_runV (As := [.int 0, .int 2]) (rest := []) ⟨hx, hb, hml, hown, hts⟩ (kX16_refuse_3 l dC dI g H.size h0 (.ref h1) v1 v2 v3 v4 v5 v6 (.int 0) ) (cwV 2 hts (ns_gp (List.forall_mem_cons.mpr ⟨wm236, (List.forall_mem_cons.mpr ⟨wm237, (List.forall_mem_cons.mpr ⟨wm238, (List.forall_mem_cons.mpr ⟨wm192, (fun _ h9 => nomatch h9)⟩)⟩)⟩)⟩) wm235) rfl rfl rfl (by decide +kernel) ⟨Nat.le_of_ble_eq_true rfl, Nat.le_of_ble_eq_true rfl⟩) ⟨fun a U gg mk q => by obtain ⟨q0, q1, qP, qK, qD, qF⟩ := q; exact ⟨q0, q1, qP, va_K.moved (u := U) (U := U.calling gg mk a) (Vm.Alike.refl U.vm) qK, qD, ns_same qF⟩, va_recv hK hP (ci := 23) (q0 := 0) rfl rfl, fun U hU hW => ⟨rfl, by rw [hU], by rw [hU]; exact hPc, va_K.moved hW.alike hKc, hDc.weaken (fun _ _ _ _ => trivial), ns_call hF hS hFc hU hW⟩⟩ rfl rfl hl.1 rfl (lv_room (Nat.le_of_ble_eq_true rfl)) dX16_mark_28 ⟨Nat.le_of_ble_eq_true rfl, Nat.le_of_ble_eq_true rfl⟩) hS (fun q _ h => hFc q h) hFc (fun r9 u t H1 locs ht hvm hw hB hz1 hk1 hS => ?_)
  obtain rfl := hw.symm
  obtain ⟨hP1, hK1, hD1⟩ := hB
  rw [ht] at hP1
  have hK1 := va_K.moved hvm.symm hK1
  obtain ⟨hP, hD⟩ := va_join (wr := [(h1, .inr (6, [.int 0, .ref (g 0), .int 0]))]) (w1 := [(h0, .inr (23, [.int 0, .ref h1, v1, v2, v3, v4, v5, v6, .int 0]))]) hP hD [0] [1] rfl rfl (by decide) (by decide) hk1 hFc hP1 hD1
  have hK := (hK.sub (tys' := []) [] rfl).app hK1
  generalize H1 = H at hP hS ⊢
  have hP : va_P (dC, dI) vwCl [(h1, .inr (6, [.int 0, .ref (g 0), .int 0])), (h0, .inr (23, [.int 0, .ref h1, v1, v2, v3, v4, v5, v6, .int 0]))] H := hP
  have hD : va_D A [(h1, .inr (6, [.int 0, .ref (g 0), .int 0])), (h0, .inr (23, [.int 0, .ref h1, v1, v2, v3, v4, v5, v6, .int 0]))] := hD
  have hK : va_K (dC, dI) vwCl [] s := hK
  refine W.widen (k := 0) (n := 0) (Nat.le_of_ble_eq_true rfl) (Nat.le_of_ble_eq_true rfl) ?_
  refine lv_if_eq (tgt := 38) hx hb dX16_mark_31 (by decide) (fun c3 => ?_) (fun c3 => absurd (by decide) c3)
  refine lv_aload_n hx hb dX16_mark_38 rfl (lv_at hl 0 rfl) ?_
  refine va_new (ci := 18) (fs := [.int 0, .null, .int 0, .null]) (C := RX11) (T := TX11) (N := 4) hx hb hta naX11 tyX11 tyX11_ok hown (hta _ wm311) (hta _ wm312) (hta _ wm313) hK hP hD hS hA rfl (fun j hj => by rcases (show j = 0 ∨ j = 1 ∨ j = 2 ∨ j = 3 by omega) with rfl | rfl | rfl | rfl <;> rfl) (Nat.le_of_ble_eq_true rfl) (Nat.le_of_ble_eq_true rfl) dX16_mark_39 (fun q4 H hP hD hS => ?_)
  have hP : va_P (dC, dI) vwCl [(h1, .inr (6, [.int 0, .ref (g 0), .int 0])), (h0, .inr (23, [.int 0, .ref h1, v1, v2, v3, v4, v5, v6, .int 0])), (q4, .inr (18, [.int 0, .null, .int 0, .null]))] H := hP
  have hD : va_D A [(h1, .inr (6, [.int 0, .ref (g 0), .int 0])), (h0, .inr (23, [.int 0, .ref h1, v1, v2, v3, v4, v5, v6, .int 0])), (q4, .inr (18, [.int 0, .null, .int 0, .null]))] := hD
  refine W.widen (k := 1) (n := 4) (Nat.le_of_ble_eq_true rfl) (Nat.le_of_ble_eq_true rfl) ?_
  refine lv_dup hx hb dX16_mark_42 rfl ?_
  refine lv_iload_n hx hb dX16_mark_43 rfl (lv_at hl 1 rfl) ?_
  refine va_ldcS hx hb hown (ns_f33 hF) dX16_mark_44 ?_
  refine lv_iconst (v := 0) hx hb dX16_mark_46 (by decide) ?_
  have hPc := hP.sub (ws' := [(q4, .inr (18, [.int 0, .null, .int 0, .null]))]) [2] rfl
  have hDc := hD.sub (ws' := [(q4, .inr (18, [.int 0, .null, .int 0, .null]))]) [2] (by decide) rfl
  have hKc := hK.sub (tys' := []) [] rfl
  have hFc := va_free (wc := [(q4, .inr (18, [.int 0, .null, .int 0, .null]))]) hD hS hA [2] rfl
  refine va_callv (va_runI (As := [.int x0, .ref (g 34), .int 0]) (rest := [.ref q4, .ref h0]) ⟨hx, hb, hml, hown, hts⟩ (kX11_init_2 l dC dI g H.size q4 x0 (.int 0) .null (.int 0) .null ⟨by omega, by omega⟩) (cwI 3 hts (ns_g0 wm368) rfl rfl rfl (hta _ wm313) (hta _ wm403) (hta _ wm404) rfl (by decide +kernel) ⟨Nat.le_of_ble_eq_true rfl, Nat.le_of_ble_eq_true rfl⟩) ⟨fun a U gg mk q => by obtain ⟨q0, q1, qP, qK, qD, qF⟩ := q; exact ⟨q0, q1, qP, va_K.moved (u := U) (U := U.calling gg mk a) (Vm.Alike.refl U.vm) qK, qD, ns_same qF⟩, fun U hU hW => ⟨rfl, by rw [hU], by rw [hU]; exact hPc, va_K.moved hW.alike hKc, hDc.weaken (fun _ _ _ _ => trivial), ns_call hF hS hFc hU hW⟩⟩ rfl rfl hl.1 rfl (lv_room (Nat.le_of_ble_eq_true rfl)) dX16_mark_47 ⟨Nat.le_of_ble_eq_true rfl, Nat.le_of_ble_eq_true rfl⟩) hS (fun q _ h => hFc q h) hFc (fun u t H1 locs ht hvm hw hB hz1 hk1 hS => ?_)
  obtain ⟨q5, hP1, hK1, hD1⟩ := hB
  rw [ht] at hP1
  have hK1 := va_K.moved hvm.symm hK1
  obtain ⟨hP, hD⟩ := va_join (wr := [(h1, .inr (6, [.int 0, .ref (g 0), .int 0])), (h0, .inr (23, [.int 0, .ref h1, v1, v2, v3, v4, v5, v6, .int 0]))]) (w1 := [(q4, .inr (18, [.int x0, .ref (g 34), .int 0, .ref q5])), (q5, .inr (6, [.int 0, .ref (g 0), .int 0]))]) hP hD [2] [0, 1] rfl rfl (by decide) (by decide) hk1 hFc hP1 hD1
  have hK := (hK.sub (tys' := []) [] rfl).app hK1
  generalize H1 = H at hP hS ⊢
  have hP : va_P (dC, dI) vwCl [(h1, .inr (6, [.int 0, .ref (g 0), .int 0])), (h0, .inr (23, [.int 0, .ref h1, v1, v2, v3, v4, v5, v6, .int 0])), (q4, .inr (18, [.int x0, .ref (g 34), .int 0, .ref q5])), (q5, .inr (6, [.int 0, .ref (g 0), .int 0]))] H := hP
  have hD : va_D A [(h1, .inr (6, [.int 0, .ref (g 0), .int 0])), (h0, .inr (23, [.int 0, .ref h1, v1, v2, v3, v4, v5, v6, .int 0])), (q4, .inr (18, [.int x0, .ref (g 34), .int 0, .ref q5])), (q5, .inr (6, [.int 0, .ref (g 0), .int 0]))] := hD
  have hK : va_K (dC, dI) vwCl [] s := hK
  refine W.widen (k := 2) (n := 7) (Nat.le_of_ble_eq_true rfl) (Nat.le_of_ble_eq_true rfl) ?_
  have hPc := hP.sub (ws' := [(h0, .inr (23, [.int 0, .ref h1, v1, v2, v3, v4, v5, v6, .int 0])), (h1, .inr (6, [.int 0, .ref (g 0), .int 0])), (q4, .inr (18, [.int x0, .ref (g 34), .int 0, .ref q5]))]) [1, 0, 2] rfl
  have hDc := hD.sub (ws' := [(h0, .inr (23, [.int 0, .ref h1, v1, v2, v3, v4, v5, v6, .int 0])), (h1, .inr (6, [.int 0, .ref (g 0), .int 0])), (q4, .inr (18, [.int x0, .ref (g 34), .int 0, .ref q5]))]) [1, 0, 2] (by decide) rfl
  have hKc := hK.sub (tys' := []) [] rfl
  have hFc := va_free (wc := [(h0, .inr (23, [.int 0, .ref h1, v1, v2, v3, v4, v5, v6, .int 0])), (h1, .inr (6, [.int 0, .ref (g 0), .int 0])), (q4, .inr (18, [.int x0, .ref (g 34), .int 0, .ref q5]))]) hD hS hA [1, 0, 2] rfl
  refine va_calli (va_runV (As := [.ref q4]) (rest := []) ⟨hx, hb, hml, hown, hts⟩ (kX16_made l dC dI g H.size h0 q4 h1 (.int 0) v1 v2 v3 v4 v5 v6 (.int x0) (.ref (g 34)) (.int 0) (.ref q5) ) (cwV 1 hts (ns_gp (List.forall_mem_cons.mpr ⟨wm405, (List.forall_mem_cons.mpr ⟨wm406, (List.forall_mem_cons.mpr ⟨wm407, (List.forall_mem_cons.mpr ⟨wm192, (fun _ h9 => nomatch h9)⟩)⟩)⟩)⟩) wm392) rfl rfl rfl (by decide +kernel) ⟨Nat.le_of_ble_eq_true rfl, Nat.le_of_ble_eq_true rfl⟩) ⟨fun a U gg mk q => by obtain ⟨q0, q1, qP, qK, qD, qF⟩ := q; exact ⟨q0, q1, qP, va_K.moved (u := U) (U := U.calling gg mk a) (Vm.Alike.refl U.vm) qK, qD, ns_same qF⟩, va_recv hK hP (ci := 23) (q0 := 1) rfl rfl, fun U hU hW => ⟨rfl, by rw [hU], by rw [hU]; exact hPc, va_K.moved hW.alike hKc, hDc.weaken (fun _ _ _ _ => trivial), ns_call hF hS hFc hU hW⟩⟩ rfl rfl hl.1 rfl (lv_room (Nat.le_of_ble_eq_true rfl)) dX16_mark_50 ⟨Nat.le_of_ble_eq_true rfl, Nat.le_of_ble_eq_true rfl⟩) hS (fun q _ h => hFc q h) hFc (fun r9 u t H1 locs ht hvm hw hB hz1 hk1 hS => ?_)
  obtain rfl := hw.symm
  obtain ⟨q6, cy7, hP1, hK1, hD1⟩ := hB
  rw [ht] at hP1
  have hK1 := va_K.moved hvm.symm hK1
  obtain ⟨hP, hD⟩ := va_join (wr := [(q5, .inr (6, [.int 0, .ref (g 0), .int 0]))]) (w1 := [(h0, .inr (23, [.int 0, .ref h1, v1, v2, v3, v4, v5, v6, .int 1])), (q4, .inr (18, [.int x0, .ref (g 34), .int 0, .ref q5])), (q6, .inl (cy7, 10, .inr (.inr (.inr (.inr (va_up (fun _ => none) 0 (some q4))))))), (h1, .inr (6, [.int 1, .ref q6, .int 1]))]) hP hD [1, 0, 2] [3] rfl rfl (by decide) (by decide) hk1 hFc hP1 hD1
  have hK := (hK.sub (tys' := []) [] rfl).app hK1
  generalize H1 = H at hP hS ⊢
  have hP : va_P (dC, dI) vwCl [(q5, .inr (6, [.int 0, .ref (g 0), .int 0])), (h0, .inr (23, [.int 0, .ref h1, v1, v2, v3, v4, v5, v6, .int 1])), (q4, .inr (18, [.int x0, .ref (g 34), .int 0, .ref q5])), (q6, .inl (cy7, 10, .inr (.inr (.inr (.inr (va_up (fun _ => none) 0 (some q4))))))), (h1, .inr (6, [.int 1, .ref q6, .int 1]))] H := hP
  have hD : va_D A [(q5, .inr (6, [.int 0, .ref (g 0), .int 0])), (h0, .inr (23, [.int 0, .ref h1, v1, v2, v3, v4, v5, v6, .int 1])), (q4, .inr (18, [.int x0, .ref (g 34), .int 0, .ref q5])), (q6, .inl (cy7, 10, .inr (.inr (.inr (.inr (va_up (fun _ => none) 0 (some q4))))))), (h1, .inr (6, [.int 1, .ref q6, .int 1]))] := hD
  have hK : va_K (dC, dI) vwCl [(cy7, .object "java/lang/Object")] s := hK
  refine W.widen (k := 3) (n := 17) (Nat.le_of_ble_eq_true rfl) (Nat.le_of_ble_eq_true rfl) ?_
  have hP9 := hP.sub (ws' := [(q5, .inr (6, [.int 0, .ref (g 0), .int 0])), (h0, .inr (23, [.int 0, .ref h1, v1, v2, v3, v4, v5, v6, .int 1])), (q4, .inr (18, [.int x0, .ref (g 34), .int 0, .ref q5])), (q6, .inl (cy7, 10, .inr (.inr (.inr (.inr (va_up (fun _ => none) 0 (some q4))))))), (h1, .inr (6, [.int 1, .ref q6, .int 1]))]) [0, 1, 2, 3, 4] rfl
  have hD9 := hD.sub (ws' := [(q5, .inr (6, [.int 0, .ref (g 0), .int 0])), (h0, .inr (23, [.int 0, .ref h1, v1, v2, v3, v4, v5, v6, .int 1])), (q4, .inr (18, [.int x0, .ref (g 34), .int 0, .ref q5])), (q6, .inl (cy7, 10, .inr (.inr (.inr (.inr (va_up (fun _ => none) 0 (some q4))))))), (h1, .inr (6, [.int 1, .ref q6, .int 1]))]) [0, 1, 2, 3, 4] (by decide) rfl
  have hK9 := hK.sub (tys' := [(cy7, .object "java/lang/Object")]) [0] rfl
  refine W.widen (k := 3) (n := 17) (Nat.le_of_ble_eq_true rfl) (Nat.le_of_ble_eq_true rfl) ?_
  exact W.iret (v := 0) hx hb hr (fun t ht hW => ⟨⟨_, (), rfl, rfl, q4, q5, q6, cy7, by rw [ht]; exact hP9, va_K.moved hW.alike hK9, hD9⟩, hS.F ht⟩) hS.2.2 dX16_mark_53
set_option maxHeartbeats 4000000 in
set_option maxRecDepth 100000 in
theorem kX16_said_10 (l : Launch) (dC : Nat → ClassId) (dI : Nat → Nat → Nat) (g : Nat → Nat) (sz : Nat) (h0 : Nat) (x0 : Int32) (h1 : Nat) (v0 : Value) (v1 : Value) (cc0 : ClassId) (f0 : Nat → Int32) (hf0 : sb_Fit f0) (ex0 : (20 : Int) ≤ x0.toInt ∧ x0.toInt ≤ (20 : Int)) : Met l yX16_said wbX16_said ({ frames := 5, cells := 2, slots := 5, locals := 132 }) (va_Pc [.ref h0, .int x0] (fun U => U.heap.size = sz ∧ va_P (dC, dI) vwCl [(h0, .inr (0, [.ref h1, .int 0, v0, v1])), (h1, .inl (cc0, 2, .inl f0))] U.heap ∧ va_K (dC, dI) vwCl [(cc0, .byte)] U ∧ va_D (fun _ => True) [(h0, .inr (0, [.ref h1, .int 0, v0, v1])), (h1, .inl (cc0, 2, .inl f0))] ∧ ns_F g (va_A [(h0, .inr (0, [.ref h1, .int 0, v0, v1])), (h1, .inl (cc0, 2, .inl f0))] sz) U U.heap)) (va_Qr (fun _ : Unit => True) (fun _ r t => ∃ k0 : Nat, ∃ k1 : Nat, ∃ kc2 : ClassId, r = k0 ∧ va_P (dC, dI) vwCl [(h0, .inr (0, [.ref h1, .int 0, v0, v1])), (h1, .inl (cc0, 2, .inl f0)), (k1, .inl (kc2, 1, .inl (va_cpy (f0) (fun _ => 0) 0 0 1))), (k0, .inr (0, [.ref k1, .int 0, .int 0, .int 0]))] t.heap ∧ va_K (dC, dI) vwCl [(cc0, .byte), (kc2, .byte)] t ∧ va_D (va_A [(h0, .inr (0, [.ref h1, .int 0, v0, v1])), (h1, .inl (cc0, 2, .inl f0))] sz) [(h0, .inr (0, [.ref h1, .int 0, v0, v1])), (h1, .inl (cc0, 2, .inl f0)), (k1, .inl (kc2, 1, .inl (va_cpy (f0) (fun _ => 0) 0 0 1))), (k0, .inr (0, [.ref k1, .int 0, .int 0, .int 0]))]) (va_A [(h0, .inr (0, [.ref h1, .int 0, v0, v1])), (h1, .inl (cc0, 2, .inl f0))] sz)) 2 5 (va_A [(h0, .inr (0, [.ref h1, .int 0, v0, v1])), (h1, .inl (cc0, 2, .inl f0))] sz) := by
  refine Met.ofW (cc := cX16_said) (maxL := 2) (ret := (some (.object "java/lang/String"))) (by decide) rfl ?_
  intro p e s m args below meth c s₁ B hml hv
  obtain ⟨rfl, hsz, hP, hK, hD0, hF⟩ := hv
  have hx := B.exec
  have hb := B.bytes
  have hr := B.returns
  have hts := atoms_spec (ws := wbX16_said) B.pre
  have hta : ∀ w ∈ wsALL, w.before _ s = true := fun w h => hts w (List.mem_cons_of_mem _ h)
  have hown : s.vm.findClass RX16 = some m.cls := findClass_of_methodNamed B.named
  have hlocks := B.notSynchronized
  subst hsz
  have hD := hD0.self (sz := s.heap.size)
  generalize hAe : va_A [(h0, .inr (0, [.ref h1, .int 0, v0, v1])), (h1, .inl (cc0, 2, .inl f0))] s.heap.size = A at hD hF ⊢
  have hA : ∀ q : Nat, s.heap.size ≤ q → A q := fun q h => by rw [← hAe]; exact Or.inr h
  have hS : va_S A s.heap s.heap [] := va_S.rf
  have hP : va_P (dC, dI) vwCl [(h0, .inr (0, [.ref h1, .int 0, v0, v1])), (h1, .inl (cc0, 2, .inl f0))] s.heap := hP
  have hl := lv_entry ([.ref h0, .int x0]) (n := 2) (Nat.le_of_ble_eq_true rfl)
  rw [lg_entry_eq]
  generalize (lg_sl ([.ref h0, .int x0]) ++ List.replicate (2 - (lg_sl ([.ref h0, .int x0])).length) Slot.unset).toArray = ls at hl ⊢
  have hl : lv_has ls 2 [(0, .ref h0), (1, .int x0)] := hl
  refine lv_iload_n hx hb dX16_said_0 rfl (lv_at hl 1 rfl) ?_
  refine lv_iconst (v := (-1)) hx hb dX16_said_1 (by decide) ?_
  refine lv_icmp_ne (tgt := 7) hx hb dX16_said_2 (by decide) (fun c1 => ?_) (fun c1 => absurd c1 (fun z => absurd (show x0.toInt = (-1 : Int) from congrArg Int32.toInt z) (by omega)))
  refine lv_iload_n hx hb dX16_said_7 rfl (lv_at hl 1 rfl) ?_
  refine lv_bipush (v := 20) hx hb dX16_said_8 (by decide) ?_
  refine lv_icmp_ge (tgt := 37) hx hb dX16_said_10 (by decide) (fun c2 => ?_) (fun c2 => absurd (show (20 : Int32) ≤ x0 from Int32.le_iff_toInt_le.mpr (show (20 : Int) ≤ x0.toInt by omega)) c2)
  refine lv_iload_n hx hb dX16_said_37 rfl (lv_at hl 1 rfl) ?_
  refine lv_bipush (v := 21) hx hb dX16_said_38 (by decide) ?_
  refine lv_icmp_eq (tgt := 50) hx hb dX16_said_40 (by decide) (fun c3 => absurd c3 (fun z => absurd (show x0.toInt = (21 : Int) from congrArg Int32.toInt z) (by omega))) (fun c3 => ?_)
  refine lv_aload_n hx hb dX16_said_43 rfl (lv_at hl 0 rfl) ?_
  have hPc := hP.sub (ws' := [(h0, .inr (0, [.ref h1, .int 0, v0, v1])), (h1, .inl (cc0, 2, .inl f0))]) [0, 1] rfl
  have hDc := hD.sub (ws' := [(h0, .inr (0, [.ref h1, .int 0, v0, v1])), (h1, .inl (cc0, 2, .inl f0))]) [0, 1] (by decide) rfl
  have hKc := hK.sub (tys' := [(cc0, .byte)]) [0] rfl
  have hFc := va_free (wc := [(h0, .inr (0, [.ref h1, .int 0, v0, v1])), (h1, .inl (cc0, 2, .inl f0))]) hD hS hA [0, 1] rfl
  refine va_calli (va_runV (As := []) (rest := []) ⟨hx, hb, hml, hown, hts⟩ (kJ0_isEmpty_aae02_3 l dC dI g s.heap.size h0 h1 (.int 0) v0 v1 cc0 f0 hf0 ) (cwV 0 hts (ns_gp (List.forall_mem_cons.mpr ⟨wm632, (List.forall_mem_cons.mpr ⟨wm633, (List.forall_mem_cons.mpr ⟨wm634, (List.forall_mem_cons.mpr ⟨wm316, (fun _ h9 => nomatch h9)⟩)⟩)⟩)⟩) wm631) rfl rfl rfl (by decide +kernel) ⟨Nat.le_of_ble_eq_true rfl, Nat.le_of_ble_eq_true rfl⟩) ⟨fun a U gg mk q => by obtain ⟨q0, q1, qP, qK, qD, qF⟩ := q; exact ⟨q0, q1, qP, va_K.moved (u := U) (U := U.calling gg mk a) (Vm.Alike.refl U.vm) qK, qD, ns_same qF⟩, va_recv hK hP (ci := 0) (q0 := 0) rfl rfl, fun U hU hW => ⟨rfl, by rw [hU], by rw [hU]; exact hPc, va_K.moved hW.alike hKc, hDc.weaken (fun _ _ _ _ => trivial), ns_call hF hS hFc hU hW⟩⟩ rfl rfl hl.1 rfl (lv_room (Nat.le_of_ble_eq_true rfl)) dX16_said_44 ⟨Nat.le_of_ble_eq_true rfl, Nat.le_of_ble_eq_true rfl⟩) hS (fun q _ h => hFc q h) hFc (fun r9 u t H1 locs ht hvm hw hB hz1 hk1 hS => ?_)
  obtain rfl := hw.symm
  obtain ⟨hP1, hK1, hD1⟩ := hB
  rw [ht] at hP1
  have hK1 := va_K.moved hvm.symm hK1
  obtain ⟨hP, hD⟩ := va_join (wr := []) (w1 := [(h0, .inr (0, [.ref h1, .int 0, v0, v1])), (h1, .inl (cc0, 2, .inl f0))]) hP hD [0, 1] [] rfl rfl (by decide) (by decide) hk1 hFc hP1 hD1
  have hK := (hK.sub (tys' := []) [] rfl).app hK1
  generalize H1 = H at hP hS ⊢
  have hP : va_P (dC, dI) vwCl [(h0, .inr (0, [.ref h1, .int 0, v0, v1])), (h1, .inl (cc0, 2, .inl f0))] H := hP
  have hD : va_D A [(h0, .inr (0, [.ref h1, .int 0, v0, v1])), (h1, .inl (cc0, 2, .inl f0))] := hD
  have hK : va_K (dC, dI) vwCl [(cc0, .byte)] s := hK
  refine W.widen (k := 0) (n := 0) (Nat.le_of_ble_eq_true rfl) (Nat.le_of_ble_eq_true rfl) ?_
  refine lv_if_eq (tgt := 55) hx hb dX16_said_47 (by decide) (fun c4 => ?_) (fun c4 => absurd (by decide) c4)
  refine lv_aload_n hx hb dX16_said_55 rfl (lv_at hl 0 rfl) ?_
  refine lv_iconst (v := 0) hx hb dX16_said_56 (by decide) ?_
  refine lv_aload_n hx hb dX16_said_57 rfl (lv_at hl 0 rfl) ?_
  have hPc := hP.sub (ws' := [(h0, .inr (0, [.ref h1, .int 0, v0, v1])), (h1, .inl (cc0, 2, .inl f0))]) [0, 1] rfl
  have hDc := hD.sub (ws' := [(h0, .inr (0, [.ref h1, .int 0, v0, v1])), (h1, .inl (cc0, 2, .inl f0))]) [0, 1] (by decide) rfl
  have hKc := hK.sub (tys' := [(cc0, .byte)]) [0] rfl
  have hFc := va_free (wc := [(h0, .inr (0, [.ref h1, .int 0, v0, v1])), (h1, .inl (cc0, 2, .inl f0))]) hD hS hA [0, 1] rfl
  refine va_calli (va_runV (As := []) (rest := [.int 0, .ref h0]) ⟨hx, hb, hml, hown, hts⟩ (kJ0_length_8abf5_4 l dC dI g H.size h0 h1 v0 v1 cc0 f0 hf0 ) (cwV 0 hts (ns_gp (List.forall_mem_cons.mpr ⟨wm646, (List.forall_mem_cons.mpr ⟨wm595, (List.forall_mem_cons.mpr ⟨wm596, (List.forall_mem_cons.mpr ⟨wm316, (fun _ h9 => nomatch h9)⟩)⟩)⟩)⟩) wm574) rfl rfl rfl (by decide +kernel) ⟨Nat.le_of_ble_eq_true rfl, Nat.le_of_ble_eq_true rfl⟩) ⟨fun a U gg mk q => by obtain ⟨q0, q1, qP, qK, qD, qF⟩ := q; exact ⟨q0, q1, qP, va_K.moved (u := U) (U := U.calling gg mk a) (Vm.Alike.refl U.vm) qK, qD, ns_same qF⟩, va_recv hK hP (ci := 0) (q0 := 0) rfl rfl, fun U hU hW => ⟨rfl, by rw [hU], by rw [hU]; exact hPc, va_K.moved hW.alike hKc, hDc.weaken (fun _ _ _ _ => trivial), ns_call hF hS hFc hU hW⟩⟩ rfl rfl hl.1 rfl (lv_room (Nat.le_of_ble_eq_true rfl)) dX16_said_58 ⟨Nat.le_of_ble_eq_true rfl, Nat.le_of_ble_eq_true rfl⟩) hS (fun q _ h => hFc q h) hFc (fun r9 u t H1 locs ht hvm hw hB hz1 hk1 hS => ?_)
  obtain rfl := hw.symm
  obtain ⟨hP1, hK1, hD1⟩ := hB
  rw [ht] at hP1
  have hK1 := va_K.moved hvm.symm hK1
  obtain ⟨hP, hD⟩ := va_join (wr := []) (w1 := [(h1, .inl (cc0, 2, .inl f0)), (h0, .inr (0, [.ref h1, .int 0, v0, v1]))]) hP hD [0, 1] [] rfl rfl (by decide) (by decide) hk1 hFc hP1 hD1
  have hK := (hK.sub (tys' := []) [] rfl).app hK1
  generalize H1 = H at hP hS ⊢
  have hP : va_P (dC, dI) vwCl [(h1, .inl (cc0, 2, .inl f0)), (h0, .inr (0, [.ref h1, .int 0, v0, v1]))] H := hP
  have hD : va_D A [(h1, .inl (cc0, 2, .inl f0)), (h0, .inr (0, [.ref h1, .int 0, v0, v1]))] := hD
  have hK : va_K (dC, dI) vwCl [(cc0, .byte)] s := hK
  refine W.widen (k := 0) (n := 0) (Nat.le_of_ble_eq_true rfl) (Nat.le_of_ble_eq_true rfl) ?_
  refine lv_iconst (v := 1) hx hb dX16_said_61 (by decide) ?_
  refine lv_isub hx hb dX16_said_62 ?_
  refine lv_topi (fun y5 ey5 => ?_)
  obtain rfl : y5 = 1 := ey5.trans (by decide)
  have hPc := hP.sub (ws' := [(h0, .inr (0, [.ref h1, .int 0, v0, v1])), (h1, .inl (cc0, 2, .inl f0))]) [1, 0] rfl
  have hDc := hD.sub (ws' := [(h0, .inr (0, [.ref h1, .int 0, v0, v1])), (h1, .inl (cc0, 2, .inl f0))]) [1, 0] (by decide) rfl
  have hKc := hK.sub (tys' := [(cc0, .byte)]) [0] rfl
  have hFc := va_free (wc := [(h0, .inr (0, [.ref h1, .int 0, v0, v1])), (h1, .inl (cc0, 2, .inl f0))]) hD hS hA [1, 0] rfl
  refine va_callr (va_runV (As := [.int 0, .int 1]) (rest := []) ⟨hx, hb, hml, hown, hts⟩ (kJ0_substring_37a41_2 l dC dI g H.size h0 h1 v0 v1 cc0 f0 hf0 ) (cwV 2 hts (ns_gp (List.forall_mem_cons.mpr ⟨wm647, (List.forall_mem_cons.mpr ⟨wm648, (List.forall_mem_cons.mpr ⟨wm649, (List.forall_mem_cons.mpr ⟨wm316, (fun _ h9 => nomatch h9)⟩)⟩)⟩)⟩) wm645) rfl rfl rfl (by decide +kernel) ⟨Nat.le_of_ble_eq_true rfl, Nat.le_of_ble_eq_true rfl⟩) ⟨fun a U gg mk q => by obtain ⟨q0, q1, qP, qK, qD, qF⟩ := q; exact ⟨q0, q1, qP, va_K.moved (u := U) (U := U.calling gg mk a) (Vm.Alike.refl U.vm) qK, qD, ns_same qF⟩, va_recv hK hP (ci := 0) (q0 := 1) rfl rfl, fun U hU hW => ⟨rfl, by rw [hU], by rw [hU]; exact hPc, va_K.moved hW.alike hKc, hDc.weaken (fun _ _ _ _ => trivial), ns_call hF hS hFc hU hW⟩⟩ rfl rfl hl.1 rfl (lv_room (Nat.le_of_ble_eq_true rfl)) dX16_said_63 ⟨Nat.le_of_ble_eq_true rfl, Nat.le_of_ble_eq_true rfl⟩) hS (fun q _ h => hFc q h) hFc (fun u r9 t H1 locs ht hvm hw hB hz1 hk1 hS => ?_)
  obtain ⟨q6, q7, cy8, hr9, hP1, hK1, hD1⟩ := hB
  obtain rfl := hr9.symm
  rw [ht] at hP1
  have hK1 := va_K.moved hvm.symm hK1
  obtain ⟨hP, hD⟩ := va_join (wr := []) (w1 := [(h0, .inr (0, [.ref h1, .int 0, v0, v1])), (h1, .inl (cc0, 2, .inl f0)), (q7, .inl (cy8, 1, .inl (va_cpy (f0) (fun _ => 0) 0 0 1))), (q6, .inr (0, [.ref q7, .int 0, .int 0, .int 0]))]) hP hD [1, 0] [] rfl rfl (by decide) (by decide) hk1 hFc hP1 hD1
  have hK := (hK.sub (tys' := []) [] rfl).app hK1
  generalize H1 = H at hP hS ⊢
  have hP : va_P (dC, dI) vwCl [(h0, .inr (0, [.ref h1, .int 0, v0, v1])), (h1, .inl (cc0, 2, .inl f0)), (q7, .inl (cy8, 1, .inl (va_cpy (f0) (fun _ => 0) 0 0 1))), (q6, .inr (0, [.ref q7, .int 0, .int 0, .int 0]))] H := hP
  have hD : va_D A [(h0, .inr (0, [.ref h1, .int 0, v0, v1])), (h1, .inl (cc0, 2, .inl f0)), (q7, .inl (cy8, 1, .inl (va_cpy (f0) (fun _ => 0) 0 0 1))), (q6, .inr (0, [.ref q7, .int 0, .int 0, .int 0]))] := hD
  have hK : va_K (dC, dI) vwCl [(cc0, .byte), (cy8, .byte)] s := hK
  refine W.widen (k := 2) (n := 5) (Nat.le_of_ble_eq_true rfl) (Nat.le_of_ble_eq_true rfl) ?_
  have hP9 := hP.sub (ws' := [(h0, .inr (0, [.ref h1, .int 0, v0, v1])), (h1, .inl (cc0, 2, .inl f0)), (q7, .inl (cy8, 1, .inl (va_cpy (f0) (fun _ => 0) 0 0 1))), (q6, .inr (0, [.ref q7, .int 0, .int 0, .int 0]))]) [0, 1, 2, 3] rfl
  have hD9 := hD.sub (ws' := [(h0, .inr (0, [.ref h1, .int 0, v0, v1])), (h1, .inl (cc0, 2, .inl f0)), (q7, .inl (cy8, 1, .inl (va_cpy (f0) (fun _ => 0) 0 0 1))), (q6, .inr (0, [.ref q7, .int 0, .int 0, .int 0]))]) [0, 1, 2, 3] (by decide) rfl
  have hK9 := hK.sub (tys' := [(cc0, .byte), (cy8, .byte)]) [0, 1] rfl
  refine W.widen (k := 2) (n := 5) (Nat.le_of_ble_eq_true rfl) (Nat.le_of_ble_eq_true rfl) ?_
  exact W.aret (v := .ref q6) hx hb hr (by first | exact Or.inl ⟨_, rfl⟩ | exact Or.inr ⟨_, rfl⟩) (Or.inr ⟨_, rfl⟩) (fun t ht hW => ⟨⟨(), _, rfl, trivial, q6, q7, cy8, rfl, by rw [ht]; exact hP9, va_K.moved hW.alike hK9, hD9⟩, hS.F ht⟩) hS.2.2 dX16_said_66
set_option maxHeartbeats 4000000 in
set_option maxRecDepth 100000 in
theorem kX16_said_14 (l : Launch) (dC : Nat → ClassId) (dI : Nat → Nat → Nat) (g : Nat → Nat) (sz : Nat) (h0 : Nat) (x0 : Int32) (h1 : Nat) (v0 : Value) (v1 : Value) (cc0 : ClassId) (f0 : Nat → Int32) (hf0 : sb_Fit f0) (ex0 : (20 : Int) ≤ x0.toInt ∧ x0.toInt ≤ (20 : Int)) : Met l yX16_said wbX16_said ({ frames := 5, cells := 2, slots := 7, locals := 132 }) (va_Pc [.ref h0, .int x0] (fun U => U.heap.size = sz ∧ va_P (dC, dI) vwCl [(h0, .inr (0, [.ref h1, .int 0, v0, v1])), (h1, .inl (cc0, 4, .inl f0))] U.heap ∧ va_K (dC, dI) vwCl [(cc0, .byte)] U ∧ va_D (fun _ => True) [(h0, .inr (0, [.ref h1, .int 0, v0, v1])), (h1, .inl (cc0, 4, .inl f0))] ∧ ns_F g (va_A [(h0, .inr (0, [.ref h1, .int 0, v0, v1])), (h1, .inl (cc0, 4, .inl f0))] sz) U U.heap)) (va_Qr (fun _ : Unit => True) (fun _ r t => ∃ k0 : Nat, ∃ k1 : Nat, ∃ kc2 : ClassId, r = k0 ∧ va_P (dC, dI) vwCl [(h0, .inr (0, [.ref h1, .int 0, v0, v1])), (h1, .inl (cc0, 4, .inl f0)), (k1, .inl (kc2, 3, .inl (va_cpy (f0) (fun _ => 0) 0 0 3))), (k0, .inr (0, [.ref k1, .int 0, .int 0, .int 0]))] t.heap ∧ va_K (dC, dI) vwCl [(cc0, .byte), (kc2, .byte)] t ∧ va_D (va_A [(h0, .inr (0, [.ref h1, .int 0, v0, v1])), (h1, .inl (cc0, 4, .inl f0))] sz) [(h0, .inr (0, [.ref h1, .int 0, v0, v1])), (h1, .inl (cc0, 4, .inl f0)), (k1, .inl (kc2, 3, .inl (va_cpy (f0) (fun _ => 0) 0 0 3))), (k0, .inr (0, [.ref k1, .int 0, .int 0, .int 0]))]) (va_A [(h0, .inr (0, [.ref h1, .int 0, v0, v1])), (h1, .inl (cc0, 4, .inl f0))] sz)) 2 7 (va_A [(h0, .inr (0, [.ref h1, .int 0, v0, v1])), (h1, .inl (cc0, 4, .inl f0))] sz) := by
  refine Met.ofW (cc := cX16_said) (maxL := 2) (ret := (some (.object "java/lang/String"))) (by decide) rfl ?_
  intro p e s m args below meth c s₁ B hml hv
  obtain ⟨rfl, hsz, hP, hK, hD0, hF⟩ := hv
  have hx := B.exec
  have hb := B.bytes
  have hr := B.returns
  have hts := atoms_spec (ws := wbX16_said) B.pre
  have hta : ∀ w ∈ wsALL, w.before _ s = true := fun w h => hts w (List.mem_cons_of_mem _ h)
  have hown : s.vm.findClass RX16 = some m.cls := findClass_of_methodNamed B.named
  have hlocks := B.notSynchronized
  subst hsz
  have hD := hD0.self (sz := s.heap.size)
  generalize hAe : va_A [(h0, .inr (0, [.ref h1, .int 0, v0, v1])), (h1, .inl (cc0, 4, .inl f0))] s.heap.size = A at hD hF ⊢
  have hA : ∀ q : Nat, s.heap.size ≤ q → A q := fun q h => by rw [← hAe]; exact Or.inr h
  have hS : va_S A s.heap s.heap [] := va_S.rf
  have hP : va_P (dC, dI) vwCl [(h0, .inr (0, [.ref h1, .int 0, v0, v1])), (h1, .inl (cc0, 4, .inl f0))] s.heap := hP
  have hl := lv_entry ([.ref h0, .int x0]) (n := 2) (Nat.le_of_ble_eq_true rfl)
  rw [lg_entry_eq]
  generalize (lg_sl ([.ref h0, .int x0]) ++ List.replicate (2 - (lg_sl ([.ref h0, .int x0])).length) Slot.unset).toArray = ls at hl ⊢
  have hl : lv_has ls 2 [(0, .ref h0), (1, .int x0)] := hl
  refine lv_iload_n hx hb dX16_said_0 rfl (lv_at hl 1 rfl) ?_
  refine lv_iconst (v := (-1)) hx hb dX16_said_1 (by decide) ?_
  refine lv_icmp_ne (tgt := 7) hx hb dX16_said_2 (by decide) (fun c1 => ?_) (fun c1 => absurd c1 (fun z => absurd (show x0.toInt = (-1 : Int) from congrArg Int32.toInt z) (by omega)))
  refine lv_iload_n hx hb dX16_said_7 rfl (lv_at hl 1 rfl) ?_
  refine lv_bipush (v := 20) hx hb dX16_said_8 (by decide) ?_
  refine lv_icmp_ge (tgt := 37) hx hb dX16_said_10 (by decide) (fun c2 => ?_) (fun c2 => absurd (show (20 : Int32) ≤ x0 from Int32.le_iff_toInt_le.mpr (show (20 : Int) ≤ x0.toInt by omega)) c2)
  refine lv_iload_n hx hb dX16_said_37 rfl (lv_at hl 1 rfl) ?_
  refine lv_bipush (v := 21) hx hb dX16_said_38 (by decide) ?_
  refine lv_icmp_eq (tgt := 50) hx hb dX16_said_40 (by decide) (fun c3 => absurd c3 (fun z => absurd (show x0.toInt = (21 : Int) from congrArg Int32.toInt z) (by omega))) (fun c3 => ?_)
  refine lv_aload_n hx hb dX16_said_43 rfl (lv_at hl 0 rfl) ?_
  have hPc := hP.sub (ws' := [(h0, .inr (0, [.ref h1, .int 0, v0, v1])), (h1, .inl (cc0, 4, .inl f0))]) [0, 1] rfl
  have hDc := hD.sub (ws' := [(h0, .inr (0, [.ref h1, .int 0, v0, v1])), (h1, .inl (cc0, 4, .inl f0))]) [0, 1] (by decide) rfl
  have hKc := hK.sub (tys' := [(cc0, .byte)]) [0] rfl
  have hFc := va_free (wc := [(h0, .inr (0, [.ref h1, .int 0, v0, v1])), (h1, .inl (cc0, 4, .inl f0))]) hD hS hA [0, 1] rfl
  refine va_calli (va_runV (As := []) (rest := []) ⟨hx, hb, hml, hown, hts⟩ (kJ0_isEmpty_aae02_5 l dC dI g s.heap.size h0 h1 (.int 0) v0 v1 cc0 f0 hf0 ) (cwV 0 hts (ns_gp (List.forall_mem_cons.mpr ⟨wm632, (List.forall_mem_cons.mpr ⟨wm633, (List.forall_mem_cons.mpr ⟨wm634, (List.forall_mem_cons.mpr ⟨wm316, (fun _ h9 => nomatch h9)⟩)⟩)⟩)⟩) wm631) rfl rfl rfl (by decide +kernel) ⟨Nat.le_of_ble_eq_true rfl, Nat.le_of_ble_eq_true rfl⟩) ⟨fun a U gg mk q => by obtain ⟨q0, q1, qP, qK, qD, qF⟩ := q; exact ⟨q0, q1, qP, va_K.moved (u := U) (U := U.calling gg mk a) (Vm.Alike.refl U.vm) qK, qD, ns_same qF⟩, va_recv hK hP (ci := 0) (q0 := 0) rfl rfl, fun U hU hW => ⟨rfl, by rw [hU], by rw [hU]; exact hPc, va_K.moved hW.alike hKc, hDc.weaken (fun _ _ _ _ => trivial), ns_call hF hS hFc hU hW⟩⟩ rfl rfl hl.1 rfl (lv_room (Nat.le_of_ble_eq_true rfl)) dX16_said_44 ⟨Nat.le_of_ble_eq_true rfl, Nat.le_of_ble_eq_true rfl⟩) hS (fun q _ h => hFc q h) hFc (fun r9 u t H1 locs ht hvm hw hB hz1 hk1 hS => ?_)
  obtain rfl := hw.symm
  obtain ⟨hP1, hK1, hD1⟩ := hB
  rw [ht] at hP1
  have hK1 := va_K.moved hvm.symm hK1
  obtain ⟨hP, hD⟩ := va_join (wr := []) (w1 := [(h0, .inr (0, [.ref h1, .int 0, v0, v1])), (h1, .inl (cc0, 4, .inl f0))]) hP hD [0, 1] [] rfl rfl (by decide) (by decide) hk1 hFc hP1 hD1
  have hK := (hK.sub (tys' := []) [] rfl).app hK1
  generalize H1 = H at hP hS ⊢
  have hP : va_P (dC, dI) vwCl [(h0, .inr (0, [.ref h1, .int 0, v0, v1])), (h1, .inl (cc0, 4, .inl f0))] H := hP
  have hD : va_D A [(h0, .inr (0, [.ref h1, .int 0, v0, v1])), (h1, .inl (cc0, 4, .inl f0))] := hD
  have hK : va_K (dC, dI) vwCl [(cc0, .byte)] s := hK
  refine W.widen (k := 0) (n := 0) (Nat.le_of_ble_eq_true rfl) (Nat.le_of_ble_eq_true rfl) ?_
  refine lv_if_eq (tgt := 55) hx hb dX16_said_47 (by decide) (fun c4 => ?_) (fun c4 => absurd (by decide) c4)
  refine lv_aload_n hx hb dX16_said_55 rfl (lv_at hl 0 rfl) ?_
  refine lv_iconst (v := 0) hx hb dX16_said_56 (by decide) ?_
  refine lv_aload_n hx hb dX16_said_57 rfl (lv_at hl 0 rfl) ?_
  have hPc := hP.sub (ws' := [(h0, .inr (0, [.ref h1, .int 0, v0, v1])), (h1, .inl (cc0, 4, .inl f0))]) [0, 1] rfl
  have hDc := hD.sub (ws' := [(h0, .inr (0, [.ref h1, .int 0, v0, v1])), (h1, .inl (cc0, 4, .inl f0))]) [0, 1] (by decide) rfl
  have hKc := hK.sub (tys' := [(cc0, .byte)]) [0] rfl
  have hFc := va_free (wc := [(h0, .inr (0, [.ref h1, .int 0, v0, v1])), (h1, .inl (cc0, 4, .inl f0))]) hD hS hA [0, 1] rfl
  refine va_calli (va_runV (As := []) (rest := [.int 0, .ref h0]) ⟨hx, hb, hml, hown, hts⟩ (kJ0_length_8abf5_6 l dC dI g H.size h0 h1 v0 v1 cc0 f0 hf0 ) (cwV 0 hts (ns_gp (List.forall_mem_cons.mpr ⟨wm646, (List.forall_mem_cons.mpr ⟨wm595, (List.forall_mem_cons.mpr ⟨wm596, (List.forall_mem_cons.mpr ⟨wm316, (fun _ h9 => nomatch h9)⟩)⟩)⟩)⟩) wm574) rfl rfl rfl (by decide +kernel) ⟨Nat.le_of_ble_eq_true rfl, Nat.le_of_ble_eq_true rfl⟩) ⟨fun a U gg mk q => by obtain ⟨q0, q1, qP, qK, qD, qF⟩ := q; exact ⟨q0, q1, qP, va_K.moved (u := U) (U := U.calling gg mk a) (Vm.Alike.refl U.vm) qK, qD, ns_same qF⟩, va_recv hK hP (ci := 0) (q0 := 0) rfl rfl, fun U hU hW => ⟨rfl, by rw [hU], by rw [hU]; exact hPc, va_K.moved hW.alike hKc, hDc.weaken (fun _ _ _ _ => trivial), ns_call hF hS hFc hU hW⟩⟩ rfl rfl hl.1 rfl (lv_room (Nat.le_of_ble_eq_true rfl)) dX16_said_58 ⟨Nat.le_of_ble_eq_true rfl, Nat.le_of_ble_eq_true rfl⟩) hS (fun q _ h => hFc q h) hFc (fun r9 u t H1 locs ht hvm hw hB hz1 hk1 hS => ?_)
  obtain rfl := hw.symm
  obtain ⟨hP1, hK1, hD1⟩ := hB
  rw [ht] at hP1
  have hK1 := va_K.moved hvm.symm hK1
  obtain ⟨hP, hD⟩ := va_join (wr := []) (w1 := [(h1, .inl (cc0, 4, .inl f0)), (h0, .inr (0, [.ref h1, .int 0, v0, v1]))]) hP hD [0, 1] [] rfl rfl (by decide) (by decide) hk1 hFc hP1 hD1
  have hK := (hK.sub (tys' := []) [] rfl).app hK1
  generalize H1 = H at hP hS ⊢
  have hP : va_P (dC, dI) vwCl [(h1, .inl (cc0, 4, .inl f0)), (h0, .inr (0, [.ref h1, .int 0, v0, v1]))] H := hP
  have hD : va_D A [(h1, .inl (cc0, 4, .inl f0)), (h0, .inr (0, [.ref h1, .int 0, v0, v1]))] := hD
  have hK : va_K (dC, dI) vwCl [(cc0, .byte)] s := hK
  refine W.widen (k := 0) (n := 0) (Nat.le_of_ble_eq_true rfl) (Nat.le_of_ble_eq_true rfl) ?_
  refine lv_iconst (v := 1) hx hb dX16_said_61 (by decide) ?_
  refine lv_isub hx hb dX16_said_62 ?_
  refine lv_topi (fun y5 ey5 => ?_)
  obtain rfl : y5 = 3 := ey5.trans (by decide)
  have hPc := hP.sub (ws' := [(h0, .inr (0, [.ref h1, .int 0, v0, v1])), (h1, .inl (cc0, 4, .inl f0))]) [1, 0] rfl
  have hDc := hD.sub (ws' := [(h0, .inr (0, [.ref h1, .int 0, v0, v1])), (h1, .inl (cc0, 4, .inl f0))]) [1, 0] (by decide) rfl
  have hKc := hK.sub (tys' := [(cc0, .byte)]) [0] rfl
  have hFc := va_free (wc := [(h0, .inr (0, [.ref h1, .int 0, v0, v1])), (h1, .inl (cc0, 4, .inl f0))]) hD hS hA [1, 0] rfl
  refine va_callr (va_runV (As := [.int 0, .int 3]) (rest := []) ⟨hx, hb, hml, hown, hts⟩ (kJ0_substring_37a41_4 l dC dI g H.size h0 h1 v0 v1 cc0 f0 hf0 ) (cwV 2 hts (ns_gp (List.forall_mem_cons.mpr ⟨wm647, (List.forall_mem_cons.mpr ⟨wm648, (List.forall_mem_cons.mpr ⟨wm649, (List.forall_mem_cons.mpr ⟨wm316, (fun _ h9 => nomatch h9)⟩)⟩)⟩)⟩) wm645) rfl rfl rfl (by decide +kernel) ⟨Nat.le_of_ble_eq_true rfl, Nat.le_of_ble_eq_true rfl⟩) ⟨fun a U gg mk q => by obtain ⟨q0, q1, qP, qK, qD, qF⟩ := q; exact ⟨q0, q1, qP, va_K.moved (u := U) (U := U.calling gg mk a) (Vm.Alike.refl U.vm) qK, qD, ns_same qF⟩, va_recv hK hP (ci := 0) (q0 := 1) rfl rfl, fun U hU hW => ⟨rfl, by rw [hU], by rw [hU]; exact hPc, va_K.moved hW.alike hKc, hDc.weaken (fun _ _ _ _ => trivial), ns_call hF hS hFc hU hW⟩⟩ rfl rfl hl.1 rfl (lv_room (Nat.le_of_ble_eq_true rfl)) dX16_said_63 ⟨Nat.le_of_ble_eq_true rfl, Nat.le_of_ble_eq_true rfl⟩) hS (fun q _ h => hFc q h) hFc (fun u r9 t H1 locs ht hvm hw hB hz1 hk1 hS => ?_)
  obtain ⟨q6, q7, cy8, hr9, hP1, hK1, hD1⟩ := hB
  obtain rfl := hr9.symm
  rw [ht] at hP1
  have hK1 := va_K.moved hvm.symm hK1
  obtain ⟨hP, hD⟩ := va_join (wr := []) (w1 := [(h0, .inr (0, [.ref h1, .int 0, v0, v1])), (h1, .inl (cc0, 4, .inl f0)), (q7, .inl (cy8, 3, .inl (va_cpy (f0) (fun _ => 0) 0 0 3))), (q6, .inr (0, [.ref q7, .int 0, .int 0, .int 0]))]) hP hD [1, 0] [] rfl rfl (by decide) (by decide) hk1 hFc hP1 hD1
  have hK := (hK.sub (tys' := []) [] rfl).app hK1
  generalize H1 = H at hP hS ⊢
  have hP : va_P (dC, dI) vwCl [(h0, .inr (0, [.ref h1, .int 0, v0, v1])), (h1, .inl (cc0, 4, .inl f0)), (q7, .inl (cy8, 3, .inl (va_cpy (f0) (fun _ => 0) 0 0 3))), (q6, .inr (0, [.ref q7, .int 0, .int 0, .int 0]))] H := hP
  have hD : va_D A [(h0, .inr (0, [.ref h1, .int 0, v0, v1])), (h1, .inl (cc0, 4, .inl f0)), (q7, .inl (cy8, 3, .inl (va_cpy (f0) (fun _ => 0) 0 0 3))), (q6, .inr (0, [.ref q7, .int 0, .int 0, .int 0]))] := hD
  have hK : va_K (dC, dI) vwCl [(cc0, .byte), (cy8, .byte)] s := hK
  refine W.widen (k := 2) (n := 7) (Nat.le_of_ble_eq_true rfl) (Nat.le_of_ble_eq_true rfl) ?_
  have hP9 := hP.sub (ws' := [(h0, .inr (0, [.ref h1, .int 0, v0, v1])), (h1, .inl (cc0, 4, .inl f0)), (q7, .inl (cy8, 3, .inl (va_cpy (f0) (fun _ => 0) 0 0 3))), (q6, .inr (0, [.ref q7, .int 0, .int 0, .int 0]))]) [0, 1, 2, 3] rfl
  have hD9 := hD.sub (ws' := [(h0, .inr (0, [.ref h1, .int 0, v0, v1])), (h1, .inl (cc0, 4, .inl f0)), (q7, .inl (cy8, 3, .inl (va_cpy (f0) (fun _ => 0) 0 0 3))), (q6, .inr (0, [.ref q7, .int 0, .int 0, .int 0]))]) [0, 1, 2, 3] (by decide) rfl
  have hK9 := hK.sub (tys' := [(cc0, .byte), (cy8, .byte)]) [0, 1] rfl
  refine W.widen (k := 2) (n := 7) (Nat.le_of_ble_eq_true rfl) (Nat.le_of_ble_eq_true rfl) ?_
  exact W.aret (v := .ref q6) hx hb hr (by first | exact Or.inl ⟨_, rfl⟩ | exact Or.inr ⟨_, rfl⟩) (Or.inr ⟨_, rfl⟩) (fun t ht hW => ⟨⟨(), _, rfl, trivial, q6, q7, cy8, rfl, by rw [ht]; exact hP9, va_K.moved hW.alike hK9, hD9⟩, hS.F ht⟩) hS.2.2 dX16_said_66
set_option maxHeartbeats 4000000 in
set_option maxRecDepth 100000 in
theorem kJ4_toString_0e30d_7 (l : Launch) (dC : Nat → ClassId) (dI : Nat → Nat → Nat) (g : Nat → Nat) (sz : Nat) (h0 : Nat) (h1 : Nat) (v0 : Value) (cc0 : ClassId) (f0 : Nat → Int32) (hf0 : sb_Fit f0) : Met l yJ4_toString_0e30d wbJ4_toString_0e30d ({ frames := 5, cells := 2, slots := 11, locals := 131 }) (va_Pc [.ref h0] (fun U => U.heap.size = sz ∧ va_P (dC, dI) vwCl [(h0, .inr (1, [.ref h1, .int 0, v0, .int 7])), (h1, .inl (cc0, 16, .inl f0))] U.heap ∧ va_K (dC, dI) vwCl [(cc0, .byte)] U ∧ va_D (fun _ => True) [(h0, .inr (1, [.ref h1, .int 0, v0, .int 7])), (h1, .inl (cc0, 16, .inl f0))] ∧ ns_F g (va_A [(h0, .inr (1, [.ref h1, .int 0, v0, .int 7])), (h1, .inl (cc0, 16, .inl f0))] sz) U U.heap)) (va_Qr (fun _ : Unit => True) (fun _ r t => ∃ k0 : Nat, ∃ k1 : Nat, ∃ kc2 : ClassId, r = k0 ∧ va_P (dC, dI) vwCl [(k0, .inr (0, [.ref k1, .int 0, .int 0, .int 0])), (h0, .inr (1, [.ref h1, .int 0, v0, .int 7])), (h1, .inl (cc0, 16, .inl f0)), (k1, .inl (kc2, 7, .inl (va_cpy (f0) (fun _ => 0) 0 0 7)))] t.heap ∧ va_K (dC, dI) vwCl [(cc0, .byte), (kc2, .byte)] t ∧ va_D (va_A [(h0, .inr (1, [.ref h1, .int 0, v0, .int 7])), (h1, .inl (cc0, 16, .inl f0))] sz) [(k0, .inr (0, [.ref k1, .int 0, .int 0, .int 0])), (h0, .inr (1, [.ref h1, .int 0, v0, .int 7])), (h1, .inl (cc0, 16, .inl f0)), (k1, .inl (kc2, 7, .inl (va_cpy (f0) (fun _ => 0) 0 0 7)))]) (va_A [(h0, .inr (1, [.ref h1, .int 0, v0, .int 7])), (h1, .inl (cc0, 16, .inl f0))] sz)) 2 11 (va_A [(h0, .inr (1, [.ref h1, .int 0, v0, .int 7])), (h1, .inl (cc0, 16, .inl f0))] sz) := by
  refine Met.ofW (cc := cJ4_toString_0e30d) (maxL := 1) (ret := (some (.object "java/lang/String"))) (by decide) rfl ?_
  intro p e s m args below meth c s₁ B hml hv
  obtain ⟨rfl, hsz, hP, hK, hD0, hF⟩ := hv
  have hx := B.exec
  have hb := B.bytes
  have hr := B.returns
  have hts := atoms_spec (ws := wbJ4_toString_0e30d) B.pre
  have hta : ∀ w ∈ wsALL, w.before _ s = true := fun w h => hts w (List.mem_cons_of_mem _ h)
  have hown : s.vm.findClass RJ4 = some m.cls := findClass_of_methodNamed B.named
  have hlocks := B.notSynchronized
  subst hsz
  have hD := hD0.self (sz := s.heap.size)
  generalize hAe : va_A [(h0, .inr (1, [.ref h1, .int 0, v0, .int 7])), (h1, .inl (cc0, 16, .inl f0))] s.heap.size = A at hD hF ⊢
  have hA : ∀ q : Nat, s.heap.size ≤ q → A q := fun q h => by rw [← hAe]; exact Or.inr h
  have hS : va_S A s.heap s.heap [] := va_S.rf
  have hP : va_P (dC, dI) vwCl [(h0, .inr (1, [.ref h1, .int 0, v0, .int 7])), (h1, .inl (cc0, 16, .inl f0))] s.heap := hP
  have hl := lv_entry ([.ref h0]) (n := 1) (Nat.le_of_ble_eq_true rfl)
  rw [lg_entry_eq]
  generalize (lg_sl ([.ref h0]) ++ List.replicate (1 - (lg_sl ([.ref h0])).length) Slot.unset).toArray = ls at hl ⊢
  have hl : lv_has ls 1 [(0, .ref h0)] := hl
  refine va_new (ci := 0) (fs := [.null, .int 0, .int 0, .int 0]) (C := RJ0) (T := TJ0) (N := 4) hx hb hta naJ0 tyJ0 tyJ0_ok hown (hta _ wm314) (hta _ wm315) (hta _ wm316) hK hP hD hS hA rfl (fun j hj => by rcases (show j = 0 ∨ j = 1 ∨ j = 2 ∨ j = 3 by omega) with rfl | rfl | rfl | rfl <;> rfl) (Nat.le_of_ble_eq_true rfl) (Nat.le_of_ble_eq_true rfl) dJ4_toString_0e30d_0 (fun q1 H hP hD hS => ?_)
  have hP : va_P (dC, dI) vwCl [(h0, .inr (1, [.ref h1, .int 0, v0, .int 7])), (h1, .inl (cc0, 16, .inl f0)), (q1, .inr (0, [.null, .int 0, .int 0, .int 0]))] H := hP
  have hD : va_D A [(h0, .inr (1, [.ref h1, .int 0, v0, .int 7])), (h1, .inl (cc0, 16, .inl f0)), (q1, .inr (0, [.null, .int 0, .int 0, .int 0]))] := hD
  refine W.widen (k := 1) (n := 4) (Nat.le_of_ble_eq_true rfl) (Nat.le_of_ble_eq_true rfl) ?_
  refine lv_dup hx hb dJ4_toString_0e30d_3 rfl ?_
  refine lv_aload_n hx hb dJ4_toString_0e30d_4 rfl (lv_at hl 0 rfl) ?_
  have hPc := hP.sub (ws' := [(h0, .inr (1, [.ref h1, .int 0, v0, .int 7])), (q1, .inr (0, [.null, .int 0, .int 0, .int 0])), (h1, .inl (cc0, 16, .inl f0))]) [0, 2, 1] rfl
  have hDc := hD.sub (ws' := [(h0, .inr (1, [.ref h1, .int 0, v0, .int 7])), (q1, .inr (0, [.null, .int 0, .int 0, .int 0])), (h1, .inl (cc0, 16, .inl f0))]) [0, 2, 1] (by decide) rfl
  have hKc := hK.sub (tys' := [(cc0, .byte)]) [0] rfl
  have hFc := va_free (wc := [(h0, .inr (1, [.ref h1, .int 0, v0, .int 7])), (q1, .inr (0, [.null, .int 0, .int 0, .int 0])), (h1, .inl (cc0, 16, .inl f0))]) hD hS hA [0, 2, 1] rfl
  refine va_callv (va_runI (As := [.ref h0]) (rest := [.ref q1]) ⟨hx, hb, hml, hown, hts⟩ (kJ0_init_81219_7 l dC dI g H.size q1 h0 h1 v0 .null (.int 0) (.int 0) (.int 0) cc0 f0 hf0 ) (cwI 1 hts (ns_g0 wm357) rfl rfl rfl (hta _ wm316) (hta _ wm358) (hta _ wm359) rfl (by decide +kernel) ⟨Nat.le_of_ble_eq_true rfl, Nat.le_of_ble_eq_true rfl⟩) ⟨fun a U gg mk q => by obtain ⟨q0, q1, qP, qK, qD, qF⟩ := q; exact ⟨q0, q1, qP, va_K.moved (u := U) (U := U.calling gg mk a) (Vm.Alike.refl U.vm) qK, qD, ns_same qF⟩, fun U hU hW => ⟨rfl, by rw [hU], by rw [hU]; exact hPc, va_K.moved hW.alike hKc, hDc.weaken (fun _ _ _ _ => trivial), ns_call hF hS hFc hU hW⟩⟩ rfl rfl hl.1 rfl (lv_room (Nat.le_of_ble_eq_true rfl)) dJ4_toString_0e30d_5 ⟨Nat.le_of_ble_eq_true rfl, Nat.le_of_ble_eq_true rfl⟩) hS (fun q _ h => hFc q h) hFc (fun u t H1 locs ht hvm hw hB hz1 hk1 hS => ?_)
  obtain ⟨q2, cy3, hP1, hK1, hD1⟩ := hB
  rw [ht] at hP1
  have hK1 := va_K.moved hvm.symm hK1
  obtain ⟨hP, hD⟩ := va_join (wr := []) (w1 := [(q1, .inr (0, [.ref q2, .int 0, .int 0, .int 0])), (h0, .inr (1, [.ref h1, .int 0, v0, .int 7])), (h1, .inl (cc0, 16, .inl f0)), (q2, .inl (cy3, 7, .inl (va_cpy (f0) (fun _ => 0) 0 0 7)))]) hP hD [0, 2, 1] [] rfl rfl (by decide) (by decide) hk1 hFc hP1 hD1
  have hK := (hK.sub (tys' := []) [] rfl).app hK1
  generalize H1 = H at hP hS ⊢
  have hP : va_P (dC, dI) vwCl [(q1, .inr (0, [.ref q2, .int 0, .int 0, .int 0])), (h0, .inr (1, [.ref h1, .int 0, v0, .int 7])), (h1, .inl (cc0, 16, .inl f0)), (q2, .inl (cy3, 7, .inl (va_cpy (f0) (fun _ => 0) 0 0 7)))] H := hP
  have hD : va_D A [(q1, .inr (0, [.ref q2, .int 0, .int 0, .int 0])), (h0, .inr (1, [.ref h1, .int 0, v0, .int 7])), (h1, .inl (cc0, 16, .inl f0)), (q2, .inl (cy3, 7, .inl (va_cpy (f0) (fun _ => 0) 0 0 7)))] := hD
  have hK : va_K (dC, dI) vwCl [(cc0, .byte), (cy3, .byte)] s := hK
  refine W.widen (k := 2) (n := 11) (Nat.le_of_ble_eq_true rfl) (Nat.le_of_ble_eq_true rfl) ?_
  have hP9 := hP.sub (ws' := [(q1, .inr (0, [.ref q2, .int 0, .int 0, .int 0])), (h0, .inr (1, [.ref h1, .int 0, v0, .int 7])), (h1, .inl (cc0, 16, .inl f0)), (q2, .inl (cy3, 7, .inl (va_cpy (f0) (fun _ => 0) 0 0 7)))]) [0, 1, 2, 3] rfl
  have hD9 := hD.sub (ws' := [(q1, .inr (0, [.ref q2, .int 0, .int 0, .int 0])), (h0, .inr (1, [.ref h1, .int 0, v0, .int 7])), (h1, .inl (cc0, 16, .inl f0)), (q2, .inl (cy3, 7, .inl (va_cpy (f0) (fun _ => 0) 0 0 7)))]) [0, 1, 2, 3] (by decide) rfl
  have hK9 := hK.sub (tys' := [(cc0, .byte), (cy3, .byte)]) [0, 1] rfl
  refine W.widen (k := 2) (n := 11) (Nat.le_of_ble_eq_true rfl) (Nat.le_of_ble_eq_true rfl) ?_
  exact W.aret (v := .ref q1) hx hb hr (by first | exact Or.inl ⟨_, rfl⟩ | exact Or.inr ⟨_, rfl⟩) (Or.inr ⟨_, rfl⟩) (fun t ht hW => ⟨⟨(), _, rfl, trivial, q1, q2, cy3, rfl, by rw [ht]; exact hP9, va_K.moved hW.alike hK9, hD9⟩, hS.F ht⟩) hS.2.2 dJ4_toString_0e30d_8
set_option maxHeartbeats 4000000 in
set_option maxRecDepth 100000 in
theorem kJ4_toString_0e30d_10 (l : Launch) (dC : Nat → ClassId) (dI : Nat → Nat → Nat) (g : Nat → Nat) (sz : Nat) (h0 : Nat) (h1 : Nat) (v0 : Value) (cc0 : ClassId) (f0 : Nat → Int32) (hf0 : sb_Fit f0) : Met l yJ4_toString_0e30d wbJ4_toString_0e30d ({ frames := 5, cells := 2, slots := 4, locals := 131 }) (va_Pc [.ref h0] (fun U => U.heap.size = sz ∧ va_P (dC, dI) vwCl [(h0, .inr (1, [.ref h1, .int 0, v0, .int 0])), (h1, .inl (cc0, 16, .inl f0))] U.heap ∧ va_K (dC, dI) vwCl [(cc0, .byte)] U ∧ va_D (fun _ => True) [(h0, .inr (1, [.ref h1, .int 0, v0, .int 0])), (h1, .inl (cc0, 16, .inl f0))] ∧ ns_F g (va_A [(h0, .inr (1, [.ref h1, .int 0, v0, .int 0])), (h1, .inl (cc0, 16, .inl f0))] sz) U U.heap)) (va_Qr (fun _ : Unit => True) (fun _ r t => ∃ k0 : Nat, ∃ k1 : Nat, ∃ kc2 : ClassId, r = k0 ∧ va_P (dC, dI) vwCl [(k0, .inr (0, [.ref k1, .int 0, .int 0, .int 0])), (h0, .inr (1, [.ref h1, .int 0, v0, .int 0])), (h1, .inl (cc0, 16, .inl f0)), (k1, .inl (kc2, 0, .inl (va_cpy (f0) (fun _ => 0) 0 0 0)))] t.heap ∧ va_K (dC, dI) vwCl [(cc0, .byte), (kc2, .byte)] t ∧ va_D (va_A [(h0, .inr (1, [.ref h1, .int 0, v0, .int 0])), (h1, .inl (cc0, 16, .inl f0))] sz) [(k0, .inr (0, [.ref k1, .int 0, .int 0, .int 0])), (h0, .inr (1, [.ref h1, .int 0, v0, .int 0])), (h1, .inl (cc0, 16, .inl f0)), (k1, .inl (kc2, 0, .inl (va_cpy (f0) (fun _ => 0) 0 0 0)))]) (va_A [(h0, .inr (1, [.ref h1, .int 0, v0, .int 0])), (h1, .inl (cc0, 16, .inl f0))] sz)) 2 4 (va_A [(h0, .inr (1, [.ref h1, .int 0, v0, .int 0])), (h1, .inl (cc0, 16, .inl f0))] sz) := by
  refine Met.ofW (cc := cJ4_toString_0e30d) (maxL := 1) (ret := (some (.object "java/lang/String"))) (by decide) rfl ?_
  intro p e s m args below meth c s₁ B hml hv
  obtain ⟨rfl, hsz, hP, hK, hD0, hF⟩ := hv
  have hx := B.exec
  have hb := B.bytes
  have hr := B.returns
  have hts := atoms_spec (ws := wbJ4_toString_0e30d) B.pre
  have hta : ∀ w ∈ wsALL, w.before _ s = true := fun w h => hts w (List.mem_cons_of_mem _ h)
  have hown : s.vm.findClass RJ4 = some m.cls := findClass_of_methodNamed B.named
  have hlocks := B.notSynchronized
  subst hsz
  have hD := hD0.self (sz := s.heap.size)
  generalize hAe : va_A [(h0, .inr (1, [.ref h1, .int 0, v0, .int 0])), (h1, .inl (cc0, 16, .inl f0))] s.heap.size = A at hD hF ⊢
  have hA : ∀ q : Nat, s.heap.size ≤ q → A q := fun q h => by rw [← hAe]; exact Or.inr h
  have hS : va_S A s.heap s.heap [] := va_S.rf
  have hP : va_P (dC, dI) vwCl [(h0, .inr (1, [.ref h1, .int 0, v0, .int 0])), (h1, .inl (cc0, 16, .inl f0))] s.heap := hP
  have hl := lv_entry ([.ref h0]) (n := 1) (Nat.le_of_ble_eq_true rfl)
  rw [lg_entry_eq]
  generalize (lg_sl ([.ref h0]) ++ List.replicate (1 - (lg_sl ([.ref h0])).length) Slot.unset).toArray = ls at hl ⊢
  have hl : lv_has ls 1 [(0, .ref h0)] := hl
  refine va_new (ci := 0) (fs := [.null, .int 0, .int 0, .int 0]) (C := RJ0) (T := TJ0) (N := 4) hx hb hta naJ0 tyJ0 tyJ0_ok hown (hta _ wm314) (hta _ wm315) (hta _ wm316) hK hP hD hS hA rfl (fun j hj => by rcases (show j = 0 ∨ j = 1 ∨ j = 2 ∨ j = 3 by omega) with rfl | rfl | rfl | rfl <;> rfl) (Nat.le_of_ble_eq_true rfl) (Nat.le_of_ble_eq_true rfl) dJ4_toString_0e30d_0 (fun q1 H hP hD hS => ?_)
  have hP : va_P (dC, dI) vwCl [(h0, .inr (1, [.ref h1, .int 0, v0, .int 0])), (h1, .inl (cc0, 16, .inl f0)), (q1, .inr (0, [.null, .int 0, .int 0, .int 0]))] H := hP
  have hD : va_D A [(h0, .inr (1, [.ref h1, .int 0, v0, .int 0])), (h1, .inl (cc0, 16, .inl f0)), (q1, .inr (0, [.null, .int 0, .int 0, .int 0]))] := hD
  refine W.widen (k := 1) (n := 4) (Nat.le_of_ble_eq_true rfl) (Nat.le_of_ble_eq_true rfl) ?_
  refine lv_dup hx hb dJ4_toString_0e30d_3 rfl ?_
  refine lv_aload_n hx hb dJ4_toString_0e30d_4 rfl (lv_at hl 0 rfl) ?_
  have hPc := hP.sub (ws' := [(h0, .inr (1, [.ref h1, .int 0, v0, .int 0])), (q1, .inr (0, [.null, .int 0, .int 0, .int 0])), (h1, .inl (cc0, 16, .inl f0))]) [0, 2, 1] rfl
  have hDc := hD.sub (ws' := [(h0, .inr (1, [.ref h1, .int 0, v0, .int 0])), (q1, .inr (0, [.null, .int 0, .int 0, .int 0])), (h1, .inl (cc0, 16, .inl f0))]) [0, 2, 1] (by decide) rfl
  have hKc := hK.sub (tys' := [(cc0, .byte)]) [0] rfl
  have hFc := va_free (wc := [(h0, .inr (1, [.ref h1, .int 0, v0, .int 0])), (q1, .inr (0, [.null, .int 0, .int 0, .int 0])), (h1, .inl (cc0, 16, .inl f0))]) hD hS hA [0, 2, 1] rfl
  refine va_callv (va_runI (As := [.ref h0]) (rest := [.ref q1]) ⟨hx, hb, hml, hown, hts⟩ (kJ0_init_81219_10 l dC dI g H.size q1 h0 h1 v0 .null (.int 0) (.int 0) (.int 0) cc0 f0 hf0 ) (cwI 1 hts (ns_g0 wm357) rfl rfl rfl (hta _ wm316) (hta _ wm358) (hta _ wm359) rfl (by decide +kernel) ⟨Nat.le_of_ble_eq_true rfl, Nat.le_of_ble_eq_true rfl⟩) ⟨fun a U gg mk q => by obtain ⟨q0, q1, qP, qK, qD, qF⟩ := q; exact ⟨q0, q1, qP, va_K.moved (u := U) (U := U.calling gg mk a) (Vm.Alike.refl U.vm) qK, qD, ns_same qF⟩, fun U hU hW => ⟨rfl, by rw [hU], by rw [hU]; exact hPc, va_K.moved hW.alike hKc, hDc.weaken (fun _ _ _ _ => trivial), ns_call hF hS hFc hU hW⟩⟩ rfl rfl hl.1 rfl (lv_room (Nat.le_of_ble_eq_true rfl)) dJ4_toString_0e30d_5 ⟨Nat.le_of_ble_eq_true rfl, Nat.le_of_ble_eq_true rfl⟩) hS (fun q _ h => hFc q h) hFc (fun u t H1 locs ht hvm hw hB hz1 hk1 hS => ?_)
  obtain ⟨q2, cy3, hP1, hK1, hD1⟩ := hB
  rw [ht] at hP1
  have hK1 := va_K.moved hvm.symm hK1
  obtain ⟨hP, hD⟩ := va_join (wr := []) (w1 := [(q1, .inr (0, [.ref q2, .int 0, .int 0, .int 0])), (h0, .inr (1, [.ref h1, .int 0, v0, .int 0])), (h1, .inl (cc0, 16, .inl f0)), (q2, .inl (cy3, 0, .inl (va_cpy (f0) (fun _ => 0) 0 0 0)))]) hP hD [0, 2, 1] [] rfl rfl (by decide) (by decide) hk1 hFc hP1 hD1
  have hK := (hK.sub (tys' := []) [] rfl).app hK1
  generalize H1 = H at hP hS ⊢
  have hP : va_P (dC, dI) vwCl [(q1, .inr (0, [.ref q2, .int 0, .int 0, .int 0])), (h0, .inr (1, [.ref h1, .int 0, v0, .int 0])), (h1, .inl (cc0, 16, .inl f0)), (q2, .inl (cy3, 0, .inl (va_cpy (f0) (fun _ => 0) 0 0 0)))] H := hP
  have hD : va_D A [(q1, .inr (0, [.ref q2, .int 0, .int 0, .int 0])), (h0, .inr (1, [.ref h1, .int 0, v0, .int 0])), (h1, .inl (cc0, 16, .inl f0)), (q2, .inl (cy3, 0, .inl (va_cpy (f0) (fun _ => 0) 0 0 0)))] := hD
  have hK : va_K (dC, dI) vwCl [(cc0, .byte), (cy3, .byte)] s := hK
  refine W.widen (k := 2) (n := 4) (Nat.le_of_ble_eq_true rfl) (Nat.le_of_ble_eq_true rfl) ?_
  have hP9 := hP.sub (ws' := [(q1, .inr (0, [.ref q2, .int 0, .int 0, .int 0])), (h0, .inr (1, [.ref h1, .int 0, v0, .int 0])), (h1, .inl (cc0, 16, .inl f0)), (q2, .inl (cy3, 0, .inl (va_cpy (f0) (fun _ => 0) 0 0 0)))]) [0, 1, 2, 3] rfl
  have hD9 := hD.sub (ws' := [(q1, .inr (0, [.ref q2, .int 0, .int 0, .int 0])), (h0, .inr (1, [.ref h1, .int 0, v0, .int 0])), (h1, .inl (cc0, 16, .inl f0)), (q2, .inl (cy3, 0, .inl (va_cpy (f0) (fun _ => 0) 0 0 0)))]) [0, 1, 2, 3] (by decide) rfl
  have hK9 := hK.sub (tys' := [(cc0, .byte), (cy3, .byte)]) [0, 1] rfl
  refine W.widen (k := 2) (n := 4) (Nat.le_of_ble_eq_true rfl) (Nat.le_of_ble_eq_true rfl) ?_
  exact W.aret (v := .ref q1) hx hb hr (by first | exact Or.inl ⟨_, rfl⟩ | exact Or.inr ⟨_, rfl⟩) (Or.inr ⟨_, rfl⟩) (fun t ht hW => ⟨⟨(), _, rfl, trivial, q1, q2, cy3, rfl, by rw [ht]; exact hP9, va_K.moved hW.alike hK9, hD9⟩, hS.F ht⟩) hS.2.2 dJ4_toString_0e30d_8
set_option maxHeartbeats 4000000 in
set_option maxRecDepth 100000 in
theorem kJ4_toString_0e30d_4 (l : Launch) (dC : Nat → ClassId) (dI : Nat → Nat → Nat) (g : Nat → Nat) (sz : Nat) (h0 : Nat) (h1 : Nat) (v0 : Value) (cc0 : ClassId) (f0 : Nat → Int32) (hf0 : sb_Fit f0) : Met l yJ4_toString_0e30d wbJ4_toString_0e30d ({ frames := 5, cells := 2, slots := 8, locals := 131 }) (va_Pc [.ref h0] (fun U => U.heap.size = sz ∧ va_P (dC, dI) vwCl [(h0, .inr (1, [.ref h1, .int 0, v0, .int 4])), (h1, .inl (cc0, 16, .inl f0))] U.heap ∧ va_K (dC, dI) vwCl [(cc0, .byte)] U ∧ va_D (fun _ => True) [(h0, .inr (1, [.ref h1, .int 0, v0, .int 4])), (h1, .inl (cc0, 16, .inl f0))] ∧ ns_F g (va_A [(h0, .inr (1, [.ref h1, .int 0, v0, .int 4])), (h1, .inl (cc0, 16, .inl f0))] sz) U U.heap)) (va_Qr (fun _ : Unit => True) (fun _ r t => ∃ k0 : Nat, ∃ k1 : Nat, ∃ kc2 : ClassId, r = k0 ∧ va_P (dC, dI) vwCl [(k0, .inr (0, [.ref k1, .int 0, .int 0, .int 0])), (h0, .inr (1, [.ref h1, .int 0, v0, .int 4])), (h1, .inl (cc0, 16, .inl f0)), (k1, .inl (kc2, 4, .inl (va_cpy (f0) (fun _ => 0) 0 0 4)))] t.heap ∧ va_K (dC, dI) vwCl [(cc0, .byte), (kc2, .byte)] t ∧ va_D (va_A [(h0, .inr (1, [.ref h1, .int 0, v0, .int 4])), (h1, .inl (cc0, 16, .inl f0))] sz) [(k0, .inr (0, [.ref k1, .int 0, .int 0, .int 0])), (h0, .inr (1, [.ref h1, .int 0, v0, .int 4])), (h1, .inl (cc0, 16, .inl f0)), (k1, .inl (kc2, 4, .inl (va_cpy (f0) (fun _ => 0) 0 0 4)))]) (va_A [(h0, .inr (1, [.ref h1, .int 0, v0, .int 4])), (h1, .inl (cc0, 16, .inl f0))] sz)) 2 8 (va_A [(h0, .inr (1, [.ref h1, .int 0, v0, .int 4])), (h1, .inl (cc0, 16, .inl f0))] sz) := by
  refine Met.ofW (cc := cJ4_toString_0e30d) (maxL := 1) (ret := (some (.object "java/lang/String"))) (by decide) rfl ?_
  intro p e s m args below meth c s₁ B hml hv
  obtain ⟨rfl, hsz, hP, hK, hD0, hF⟩ := hv
  have hx := B.exec
  have hb := B.bytes
  have hr := B.returns
  have hts := atoms_spec (ws := wbJ4_toString_0e30d) B.pre
  have hta : ∀ w ∈ wsALL, w.before _ s = true := fun w h => hts w (List.mem_cons_of_mem _ h)
  have hown : s.vm.findClass RJ4 = some m.cls := findClass_of_methodNamed B.named
  have hlocks := B.notSynchronized
  subst hsz
  have hD := hD0.self (sz := s.heap.size)
  generalize hAe : va_A [(h0, .inr (1, [.ref h1, .int 0, v0, .int 4])), (h1, .inl (cc0, 16, .inl f0))] s.heap.size = A at hD hF ⊢
  have hA : ∀ q : Nat, s.heap.size ≤ q → A q := fun q h => by rw [← hAe]; exact Or.inr h
  have hS : va_S A s.heap s.heap [] := va_S.rf
  have hP : va_P (dC, dI) vwCl [(h0, .inr (1, [.ref h1, .int 0, v0, .int 4])), (h1, .inl (cc0, 16, .inl f0))] s.heap := hP
  have hl := lv_entry ([.ref h0]) (n := 1) (Nat.le_of_ble_eq_true rfl)
  rw [lg_entry_eq]
  generalize (lg_sl ([.ref h0]) ++ List.replicate (1 - (lg_sl ([.ref h0])).length) Slot.unset).toArray = ls at hl ⊢
  have hl : lv_has ls 1 [(0, .ref h0)] := hl
  refine va_new (ci := 0) (fs := [.null, .int 0, .int 0, .int 0]) (C := RJ0) (T := TJ0) (N := 4) hx hb hta naJ0 tyJ0 tyJ0_ok hown (hta _ wm314) (hta _ wm315) (hta _ wm316) hK hP hD hS hA rfl (fun j hj => by rcases (show j = 0 ∨ j = 1 ∨ j = 2 ∨ j = 3 by omega) with rfl | rfl | rfl | rfl <;> rfl) (Nat.le_of_ble_eq_true rfl) (Nat.le_of_ble_eq_true rfl) dJ4_toString_0e30d_0 (fun q1 H hP hD hS => ?_)
  have hP : va_P (dC, dI) vwCl [(h0, .inr (1, [.ref h1, .int 0, v0, .int 4])), (h1, .inl (cc0, 16, .inl f0)), (q1, .inr (0, [.null, .int 0, .int 0, .int 0]))] H := hP
  have hD : va_D A [(h0, .inr (1, [.ref h1, .int 0, v0, .int 4])), (h1, .inl (cc0, 16, .inl f0)), (q1, .inr (0, [.null, .int 0, .int 0, .int 0]))] := hD
  refine W.widen (k := 1) (n := 4) (Nat.le_of_ble_eq_true rfl) (Nat.le_of_ble_eq_true rfl) ?_
  refine lv_dup hx hb dJ4_toString_0e30d_3 rfl ?_
  refine lv_aload_n hx hb dJ4_toString_0e30d_4 rfl (lv_at hl 0 rfl) ?_
  have hPc := hP.sub (ws' := [(h0, .inr (1, [.ref h1, .int 0, v0, .int 4])), (q1, .inr (0, [.null, .int 0, .int 0, .int 0])), (h1, .inl (cc0, 16, .inl f0))]) [0, 2, 1] rfl
  have hDc := hD.sub (ws' := [(h0, .inr (1, [.ref h1, .int 0, v0, .int 4])), (q1, .inr (0, [.null, .int 0, .int 0, .int 0])), (h1, .inl (cc0, 16, .inl f0))]) [0, 2, 1] (by decide) rfl
  have hKc := hK.sub (tys' := [(cc0, .byte)]) [0] rfl
  have hFc := va_free (wc := [(h0, .inr (1, [.ref h1, .int 0, v0, .int 4])), (q1, .inr (0, [.null, .int 0, .int 0, .int 0])), (h1, .inl (cc0, 16, .inl f0))]) hD hS hA [0, 2, 1] rfl
  refine va_callv (va_runI (As := [.ref h0]) (rest := [.ref q1]) ⟨hx, hb, hml, hown, hts⟩ (kJ0_init_81219_4 l dC dI g H.size q1 h0 h1 v0 .null (.int 0) (.int 0) (.int 0) cc0 f0 hf0 ) (cwI 1 hts (ns_g0 wm357) rfl rfl rfl (hta _ wm316) (hta _ wm358) (hta _ wm359) rfl (by decide +kernel) ⟨Nat.le_of_ble_eq_true rfl, Nat.le_of_ble_eq_true rfl⟩) ⟨fun a U gg mk q => by obtain ⟨q0, q1, qP, qK, qD, qF⟩ := q; exact ⟨q0, q1, qP, va_K.moved (u := U) (U := U.calling gg mk a) (Vm.Alike.refl U.vm) qK, qD, ns_same qF⟩, fun U hU hW => ⟨rfl, by rw [hU], by rw [hU]; exact hPc, va_K.moved hW.alike hKc, hDc.weaken (fun _ _ _ _ => trivial), ns_call hF hS hFc hU hW⟩⟩ rfl rfl hl.1 rfl (lv_room (Nat.le_of_ble_eq_true rfl)) dJ4_toString_0e30d_5 ⟨Nat.le_of_ble_eq_true rfl, Nat.le_of_ble_eq_true rfl⟩) hS (fun q _ h => hFc q h) hFc (fun u t H1 locs ht hvm hw hB hz1 hk1 hS => ?_)
  obtain ⟨q2, cy3, hP1, hK1, hD1⟩ := hB
  rw [ht] at hP1
  have hK1 := va_K.moved hvm.symm hK1
  obtain ⟨hP, hD⟩ := va_join (wr := []) (w1 := [(q1, .inr (0, [.ref q2, .int 0, .int 0, .int 0])), (h0, .inr (1, [.ref h1, .int 0, v0, .int 4])), (h1, .inl (cc0, 16, .inl f0)), (q2, .inl (cy3, 4, .inl (va_cpy (f0) (fun _ => 0) 0 0 4)))]) hP hD [0, 2, 1] [] rfl rfl (by decide) (by decide) hk1 hFc hP1 hD1
  have hK := (hK.sub (tys' := []) [] rfl).app hK1
  generalize H1 = H at hP hS ⊢
  have hP : va_P (dC, dI) vwCl [(q1, .inr (0, [.ref q2, .int 0, .int 0, .int 0])), (h0, .inr (1, [.ref h1, .int 0, v0, .int 4])), (h1, .inl (cc0, 16, .inl f0)), (q2, .inl (cy3, 4, .inl (va_cpy (f0) (fun _ => 0) 0 0 4)))] H := hP
  have hD : va_D A [(q1, .inr (0, [.ref q2, .int 0, .int 0, .int 0])), (h0, .inr (1, [.ref h1, .int 0, v0, .int 4])), (h1, .inl (cc0, 16, .inl f0)), (q2, .inl (cy3, 4, .inl (va_cpy (f0) (fun _ => 0) 0 0 4)))] := hD
  have hK : va_K (dC, dI) vwCl [(cc0, .byte), (cy3, .byte)] s := hK
  refine W.widen (k := 2) (n := 8) (Nat.le_of_ble_eq_true rfl) (Nat.le_of_ble_eq_true rfl) ?_
  have hP9 := hP.sub (ws' := [(q1, .inr (0, [.ref q2, .int 0, .int 0, .int 0])), (h0, .inr (1, [.ref h1, .int 0, v0, .int 4])), (h1, .inl (cc0, 16, .inl f0)), (q2, .inl (cy3, 4, .inl (va_cpy (f0) (fun _ => 0) 0 0 4)))]) [0, 1, 2, 3] rfl
  have hD9 := hD.sub (ws' := [(q1, .inr (0, [.ref q2, .int 0, .int 0, .int 0])), (h0, .inr (1, [.ref h1, .int 0, v0, .int 4])), (h1, .inl (cc0, 16, .inl f0)), (q2, .inl (cy3, 4, .inl (va_cpy (f0) (fun _ => 0) 0 0 4)))]) [0, 1, 2, 3] (by decide) rfl
  have hK9 := hK.sub (tys' := [(cc0, .byte), (cy3, .byte)]) [0, 1] rfl
  refine W.widen (k := 2) (n := 8) (Nat.le_of_ble_eq_true rfl) (Nat.le_of_ble_eq_true rfl) ?_
  exact W.aret (v := .ref q1) hx hb hr (by first | exact Or.inl ⟨_, rfl⟩ | exact Or.inr ⟨_, rfl⟩) (Or.inr ⟨_, rfl⟩) (fun t ht hW => ⟨⟨(), _, rfl, trivial, q1, q2, cy3, rfl, by rw [ht]; exact hP9, va_K.moved hW.alike hK9, hD9⟩, hS.F ht⟩) hS.2.2 dJ4_toString_0e30d_8

set_option maxHeartbeats 4000000 in
set_option maxRecDepth 100000 in
theorem kX16_word_21 (l : Launch) (dC : Nat → ClassId) (dI : Nat → Nat → Nat) (g : Nat → Nat) (sz : Nat) (h0 : Nat) (x0 : Int32) (h1 : Nat) (v0 : Value) (v1 : Value) (v2 : Value) (v3 : Value) (v4 : Value) (v5 : Value) (v6 : Value) (ex0 : (0 : Int) ≤ x0.toInt ∧ x0.toInt ≤ (25 : Int)) : Met l yX16_word wbX16_word ({ frames := 6, cells := 7, slots := 50, locals := 151 }) (va_Pc [.ref h0, .int x0, .int 9] (fun U => U.heap.size = sz ∧ va_P (dC, dI) vwCl [(h0, .inr (23, [v0, .ref h1, v1, v2, v3, v4, v5, v6, .int 0])), (h1, .inr (6, [.int 0, .ref (g 0), .int 0]))] U.heap ∧ va_K (dC, dI) vwCl [] U ∧ va_D (fun _ => True) [(h0, .inr (23, [v0, .ref h1, v1, v2, v3, v4, v5, v6, .int 0])), (h1, .inr (6, [.int 0, .ref (g 0), .int 0]))] ∧ ns_F g (va_A [(h0, .inr (23, [v0, .ref h1, v1, v2, v3, v4, v5, v6, .int 0])), (h1, .inr (6, [.int 0, .ref (g 0), .int 0]))] sz) U U.heap)) (va_Qi (fun (r : Int32) (_ : Unit) => r = 0) (fun _ t => ∃ k0 : Nat, ∃ k1 : Nat, ∃ kc2 : ClassId, ∃ k3 : Nat, ∃ k4 : Nat, ∃ k5 : Nat, ∃ kc6 : ClassId, ∃ k7 : Nat, ∃ k8 : Nat, ∃ kc9 : ClassId, va_P (dC, dI) vwCl [(k4, .inr (0, [.ref k5, .int 0, .int 0, .int 0])), (k0, .inr (1, [.ref k1, .int 0, .int 0, .int 9])), (k1, .inl (kc2, 16, .inl (upd ((upd ((upd ((upd ((upd ((upd ((upd ((upd ((upd ((fun _ => 0)) 0 (vp_nar .byte (97 + x0).toInt8.toInt32))) 1 (vp_nar .byte (97 + x0).toInt8.toInt32))) 2 (vp_nar .byte (97 + x0).toInt8.toInt32))) 3 (vp_nar .byte (97 + x0).toInt8.toInt32))) 4 (vp_nar .byte (97 + x0).toInt8.toInt32))) 5 (vp_nar .byte (97 + x0).toInt8.toInt32))) 6 (vp_nar .byte (97 + x0).toInt8.toInt32))) 7 (vp_nar .byte (97 + x0).toInt8.toInt32))) 8 (vp_nar .byte (97 + x0).toInt8.toInt32)))), (k5, .inl (kc6, 9, .inl (va_cpy ((upd ((upd ((upd ((upd ((upd ((upd ((upd ((upd ((upd ((fun _ => 0)) 0 (vp_nar .byte (97 + x0).toInt8.toInt32))) 1 (vp_nar .byte (97 + x0).toInt8.toInt32))) 2 (vp_nar .byte (97 + x0).toInt8.toInt32))) 3 (vp_nar .byte (97 + x0).toInt8.toInt32))) 4 (vp_nar .byte (97 + x0).toInt8.toInt32))) 5 (vp_nar .byte (97 + x0).toInt8.toInt32))) 6 (vp_nar .byte (97 + x0).toInt8.toInt32))) 7 (vp_nar .byte (97 + x0).toInt8.toInt32))) 8 (vp_nar .byte (97 + x0).toInt8.toInt32))) (fun _ => 0) 0 0 9))), (k7, .inr (6, [.int 0, .ref (g 0), .int 0])), (h0, .inr (23, [.int 0, .ref h1, v1, v2, v3, v4, v5, v6, .int 1])), (k3, .inr (18, [.int 0, .ref k4, .int 0, .ref k7])), (k8, .inl (kc9, 10, .inr (.inr (.inr (.inr (va_up (fun _ => none) 0 (some k3))))))), (h1, .inr (6, [.int 1, .ref k8, .int 1]))] t.heap ∧ va_K (dC, dI) vwCl [(kc2, .byte), (kc6, .byte), (kc9, .object "java/lang/Object")] t ∧ va_D (va_A [(h0, .inr (23, [v0, .ref h1, v1, v2, v3, v4, v5, v6, .int 0])), (h1, .inr (6, [.int 0, .ref (g 0), .int 0]))] sz) [(k4, .inr (0, [.ref k5, .int 0, .int 0, .int 0])), (k0, .inr (1, [.ref k1, .int 0, .int 0, .int 9])), (k1, .inl (kc2, 16, .inl (upd ((upd ((upd ((upd ((upd ((upd ((upd ((upd ((upd ((fun _ => 0)) 0 (vp_nar .byte (97 + x0).toInt8.toInt32))) 1 (vp_nar .byte (97 + x0).toInt8.toInt32))) 2 (vp_nar .byte (97 + x0).toInt8.toInt32))) 3 (vp_nar .byte (97 + x0).toInt8.toInt32))) 4 (vp_nar .byte (97 + x0).toInt8.toInt32))) 5 (vp_nar .byte (97 + x0).toInt8.toInt32))) 6 (vp_nar .byte (97 + x0).toInt8.toInt32))) 7 (vp_nar .byte (97 + x0).toInt8.toInt32))) 8 (vp_nar .byte (97 + x0).toInt8.toInt32)))), (k5, .inl (kc6, 9, .inl (va_cpy ((upd ((upd ((upd ((upd ((upd ((upd ((upd ((upd ((upd ((fun _ => 0)) 0 (vp_nar .byte (97 + x0).toInt8.toInt32))) 1 (vp_nar .byte (97 + x0).toInt8.toInt32))) 2 (vp_nar .byte (97 + x0).toInt8.toInt32))) 3 (vp_nar .byte (97 + x0).toInt8.toInt32))) 4 (vp_nar .byte (97 + x0).toInt8.toInt32))) 5 (vp_nar .byte (97 + x0).toInt8.toInt32))) 6 (vp_nar .byte (97 + x0).toInt8.toInt32))) 7 (vp_nar .byte (97 + x0).toInt8.toInt32))) 8 (vp_nar .byte (97 + x0).toInt8.toInt32))) (fun _ => 0) 0 0 9))), (k7, .inr (6, [.int 0, .ref (g 0), .int 0])), (h0, .inr (23, [.int 0, .ref h1, v1, v2, v3, v4, v5, v6, .int 1])), (k3, .inr (18, [.int 0, .ref k4, .int 0, .ref k7])), (k8, .inl (kc9, 10, .inr (.inr (.inr (.inr (va_up (fun _ => none) 0 (some k3))))))), (h1, .inr (6, [.int 1, .ref k8, .int 1]))]) (va_A [(h0, .inr (23, [v0, .ref h1, v1, v2, v3, v4, v5, v6, .int 0])), (h1, .inr (6, [.int 0, .ref (g 0), .int 0]))] sz)) 7 50 (va_A [(h0, .inr (23, [v0, .ref h1, v1, v2, v3, v4, v5, v6, .int 0])), (h1, .inr (6, [.int 0, .ref (g 0), .int 0]))] sz) := by
  refine Met.ofW (cc := cX16_word) (maxL := 5) (ret := (some .int)) (by decide) rfl ?_
  intro p e s m args below meth c s₁ B hml hv
  obtain ⟨rfl, hsz, hP, hK, hD0, hF⟩ := hv
  have hx := B.exec
  have hb := B.bytes
  have hr := B.returns
  have hts := atoms_spec (ws := wbX16_word) B.pre
  have hta : ∀ w ∈ wsALL, w.before _ s = true := fun w h => hts w (List.mem_cons_of_mem _ h)
  have hown : s.vm.findClass RX16 = some m.cls := findClass_of_methodNamed B.named
  have hlocks := B.notSynchronized
  subst hsz
  have hD := hD0.self (sz := s.heap.size)
  generalize hAe : va_A [(h0, .inr (23, [v0, .ref h1, v1, v2, v3, v4, v5, v6, .int 0])), (h1, .inr (6, [.int 0, .ref (g 0), .int 0]))] s.heap.size = A at hD hF ⊢
  have hA : ∀ q : Nat, s.heap.size ≤ q → A q := fun q h => by rw [← hAe]; exact Or.inr h
  have hS : va_S A s.heap s.heap [] := va_S.rf
  have hP : va_P (dC, dI) vwCl [(h0, .inr (23, [v0, .ref h1, v1, v2, v3, v4, v5, v6, .int 0])), (h1, .inr (6, [.int 0, .ref (g 0), .int 0]))] s.heap := hP
  have hl := lv_entry ([.ref h0, .int x0, .int 9]) (n := 5) (Nat.le_of_ble_eq_true rfl)
  rw [lg_entry_eq]
  generalize (lg_sl ([.ref h0, .int x0, .int 9]) ++ List.replicate (5 - (lg_sl ([.ref h0, .int x0, .int 9])).length) Slot.unset).toArray = ls at hl ⊢
  have hl : lv_has ls 5 [(0, .ref h0), (1, .int x0), (2, .int 9)] := hl
  refine lv_aload_n hx hb dX16_word_0 rfl (lv_at hl 0 rfl) ?_
  refine lv_iload_n hx hb dX16_word_1 rfl (lv_at hl 1 rfl) ?_
  refine lv_iconst (v := 0) hx hb dX16_word_2 (by decide) ?_
  refine lv_bipush (v := 25) hx hb dX16_word_3 (by decide) ?_
  have hPc := hP.sub (ws' := []) [] rfl
  have hDc := hD.sub (ws' := []) [] (by decide) rfl
  have hKc := hK.sub (tys' := []) [] rfl
  have hFc := va_free (wc := []) hD hS hA [] rfl
  refine va_calli (va_runS (As := [.int x0, .int 0, .int 25]) (rest := [.ref h0]) ⟨hx, hb, hml, hown, hts⟩ (kX16_isIn_2 l dC dI g s.heap.size x0 ⟨by omega, by omega⟩) (va_cwS 3 hts (ns_gp (List.forall_mem_cons.mpr ⟨wm240, (List.forall_mem_cons.mpr ⟨wm241, (List.forall_mem_cons.mpr ⟨wm192, (fun _ h9 => nomatch h9)⟩)⟩)⟩) wm233) rfl rfl rfl (by decide +kernel) ⟨Nat.le_of_ble_eq_true rfl, Nat.le_of_ble_eq_true rfl⟩) ⟨fun a U gg mk q => by obtain ⟨q0, q1, qP, qK, qD, qF⟩ := q; exact ⟨q0, q1, qP, va_K.moved (u := U) (U := U.calling gg mk a) (Vm.Alike.refl U.vm) qK, qD, ns_same qF⟩, fun U hU hW => ⟨rfl, by rw [hU], by rw [hU]; exact hPc, va_K.moved hW.alike hKc, hDc.weaken (fun _ _ _ _ => trivial), ns_call hF hS hFc hU hW⟩⟩ rfl rfl hl.1 rfl (lv_room (Nat.le_of_ble_eq_true rfl)) dX16_word_5 ⟨Nat.le_of_ble_eq_true rfl, Nat.le_of_ble_eq_true rfl⟩) hS (fun q _ h => hFc q h) hFc (fun r9 u t H1 locs ht hvm hw hB hz1 hk1 hS => ?_)
  obtain rfl := hw.symm
  obtain ⟨hP1, hK1, hD1⟩ := hB
  rw [ht] at hP1
  have hK1 := va_K.moved hvm.symm hK1
  obtain ⟨hP, hD⟩ := va_join (wr := [(h0, .inr (23, [v0, .ref h1, v1, v2, v3, v4, v5, v6, .int 0])), (h1, .inr (6, [.int 0, .ref (g 0), .int 0]))]) (w1 := []) hP hD [] [0, 1] rfl rfl (by decide) (by decide) hk1 hFc hP1 hD1
  have hK := (hK.sub (tys' := []) [] rfl).app hK1
  generalize H1 = H at hP hS ⊢
  have hP : va_P (dC, dI) vwCl [(h0, .inr (23, [v0, .ref h1, v1, v2, v3, v4, v5, v6, .int 0])), (h1, .inr (6, [.int 0, .ref (g 0), .int 0]))] H := hP
  have hD : va_D A [(h0, .inr (23, [v0, .ref h1, v1, v2, v3, v4, v5, v6, .int 0])), (h1, .inr (6, [.int 0, .ref (g 0), .int 0]))] := hD
  have hK : va_K (dC, dI) vwCl [] s := hK
  refine W.widen (k := 0) (n := 0) (Nat.le_of_ble_eq_true rfl) (Nat.le_of_ble_eq_true rfl) ?_
  refine lv_if_eq (tgt := 21) hx hb dX16_word_8 (by decide) (fun c1 => absurd c1 (by decide)) (fun c1 => ?_)
  refine lv_iload_n hx hb dX16_word_11 rfl (lv_at hl 2 rfl) ?_
  refine lv_iconst (v := 1) hx hb dX16_word_12 (by decide) ?_
  refine lv_bipush (v := 9) hx hb dX16_word_13 (by decide) ?_
  have hPc := hP.sub (ws' := []) [] rfl
  have hDc := hD.sub (ws' := []) [] (by decide) rfl
  have hKc := hK.sub (tys' := []) [] rfl
  have hFc := va_free (wc := []) hD hS hA [] rfl
  refine va_calli (va_runS (As := [.int 9, .int 1, .int 9]) (rest := [.ref h0]) ⟨hx, hb, hml, hown, hts⟩ (kX16_isIn_12 l dC dI g H.size  ) (va_cwS 3 hts (ns_gp (List.forall_mem_cons.mpr ⟨wm240, (List.forall_mem_cons.mpr ⟨wm241, (List.forall_mem_cons.mpr ⟨wm192, (fun _ h9 => nomatch h9)⟩)⟩)⟩) wm233) rfl rfl rfl (by decide +kernel) ⟨Nat.le_of_ble_eq_true rfl, Nat.le_of_ble_eq_true rfl⟩) ⟨fun a U gg mk q => by obtain ⟨q0, q1, qP, qK, qD, qF⟩ := q; exact ⟨q0, q1, qP, va_K.moved (u := U) (U := U.calling gg mk a) (Vm.Alike.refl U.vm) qK, qD, ns_same qF⟩, fun U hU hW => ⟨rfl, by rw [hU], by rw [hU]; exact hPc, va_K.moved hW.alike hKc, hDc.weaken (fun _ _ _ _ => trivial), ns_call hF hS hFc hU hW⟩⟩ rfl rfl hl.1 rfl (lv_room (Nat.le_of_ble_eq_true rfl)) dX16_word_15 ⟨Nat.le_of_ble_eq_true rfl, Nat.le_of_ble_eq_true rfl⟩) hS (fun q _ h => hFc q h) hFc (fun r9 u t H1 locs ht hvm hw hB hz1 hk1 hS => ?_)
  obtain rfl := hw.symm
  obtain ⟨hP1, hK1, hD1⟩ := hB
  rw [ht] at hP1
  have hK1 := va_K.moved hvm.symm hK1
  obtain ⟨hP, hD⟩ := va_join (wr := [(h0, .inr (23, [v0, .ref h1, v1, v2, v3, v4, v5, v6, .int 0])), (h1, .inr (6, [.int 0, .ref (g 0), .int 0]))]) (w1 := []) hP hD [] [0, 1] rfl rfl (by decide) (by decide) hk1 hFc hP1 hD1
  have hK := (hK.sub (tys' := []) [] rfl).app hK1
  generalize H1 = H at hP hS ⊢
  have hP : va_P (dC, dI) vwCl [(h0, .inr (23, [v0, .ref h1, v1, v2, v3, v4, v5, v6, .int 0])), (h1, .inr (6, [.int 0, .ref (g 0), .int 0]))] H := hP
  have hD : va_D A [(h0, .inr (23, [v0, .ref h1, v1, v2, v3, v4, v5, v6, .int 0])), (h1, .inr (6, [.int 0, .ref (g 0), .int 0]))] := hD
  have hK : va_K (dC, dI) vwCl [] s := hK
  refine W.widen (k := 0) (n := 0) (Nat.le_of_ble_eq_true rfl) (Nat.le_of_ble_eq_true rfl) ?_
  refine lv_if_ne (tgt := 25) hx hb dX16_word_18 (by decide) (fun c2 => ?_) (fun c2 => absurd c2 (by decide))
  refine lv_iconst (v := 0) hx hb dX16_word_25 (by decide) ?_
  refine lv_iconst (v := 1) hx hb dX16_word_26 (by decide) ?_
  have hPc := hP.sub (ws' := [(h0, .inr (23, [v0, .ref h1, v1, v2, v3, v4, v5, v6, .int 0]))]) [0] rfl
  have hDc := hD.sub (ws' := [(h0, .inr (23, [v0, .ref h1, v1, v2, v3, v4, v5, v6, .int 0]))]) [0] (by decide) rfl
  have hKc := hK.sub (tys' := []) [] rfl
  have hFc := va_free (wc := [(h0, .inr (23, [v0, .ref h1, v1, v2, v3, v4, v5, v6, .int 0]))]) hD hS hA [0] rfl
  refine va_calli (va_runV (As := [.int 0, .int 1]) (rest := []) ⟨hx, hb, hml, hown, hts⟩ (kX16_start_2 l dC dI g H.size h0 v0 (.ref h1) v1 v2 v3 v4 v5 v6 (.int 0) ) (cwV 2 hts (ns_gp (List.forall_mem_cons.mpr ⟨wm242, (List.forall_mem_cons.mpr ⟨wm243, (List.forall_mem_cons.mpr ⟨wm244, (List.forall_mem_cons.mpr ⟨wm192, (fun _ h9 => nomatch h9)⟩)⟩)⟩)⟩) wm239) rfl rfl rfl (by decide +kernel) ⟨Nat.le_of_ble_eq_true rfl, Nat.le_of_ble_eq_true rfl⟩) ⟨fun a U gg mk q => by obtain ⟨q0, q1, qP, qK, qD, qF⟩ := q; exact ⟨q0, q1, qP, va_K.moved (u := U) (U := U.calling gg mk a) (Vm.Alike.refl U.vm) qK, qD, ns_same qF⟩, va_recv hK hP (ci := 23) (q0 := 0) rfl rfl, fun U hU hW => ⟨rfl, by rw [hU], by rw [hU]; exact hPc, va_K.moved hW.alike hKc, hDc.weaken (fun _ _ _ _ => trivial), ns_call hF hS hFc hU hW⟩⟩ rfl rfl hl.1 rfl (lv_room (Nat.le_of_ble_eq_true rfl)) dX16_word_27 ⟨Nat.le_of_ble_eq_true rfl, Nat.le_of_ble_eq_true rfl⟩) hS (fun q _ h => hFc q h) hFc (fun r9 u t H1 locs ht hvm hw hB hz1 hk1 hS => ?_)
  obtain rfl := hw.symm
  obtain ⟨hP1, hK1, hD1⟩ := hB
  rw [ht] at hP1
  have hK1 := va_K.moved hvm.symm hK1
  obtain ⟨hP, hD⟩ := va_join (wr := [(h1, .inr (6, [.int 0, .ref (g 0), .int 0]))]) (w1 := [(h0, .inr (23, [.int 0, .ref h1, v1, v2, v3, v4, v5, v6, .int 0]))]) hP hD [0] [1] rfl rfl (by decide) (by decide) hk1 hFc hP1 hD1
  have hK := (hK.sub (tys' := []) [] rfl).app hK1
  generalize H1 = H at hP hS ⊢
  have hP : va_P (dC, dI) vwCl [(h1, .inr (6, [.int 0, .ref (g 0), .int 0])), (h0, .inr (23, [.int 0, .ref h1, v1, v2, v3, v4, v5, v6, .int 0]))] H := hP
  have hD : va_D A [(h1, .inr (6, [.int 0, .ref (g 0), .int 0])), (h0, .inr (23, [.int 0, .ref h1, v1, v2, v3, v4, v5, v6, .int 0]))] := hD
  have hK : va_K (dC, dI) vwCl [] s := hK
  refine W.widen (k := 0) (n := 0) (Nat.le_of_ble_eq_true rfl) (Nat.le_of_ble_eq_true rfl) ?_
  refine lv_if_ne (tgt := 45) hx hb dX16_word_30 (by decide) (fun c3 => absurd (by decide) c3) (fun c3 => ?_)
  refine lv_aload_n hx hb dX16_word_33 rfl (lv_at hl 0 rfl) ?_
  refine lv_aload_n hx hb dX16_word_34 rfl (lv_at hl 0 rfl) ?_
  have hPc := hP.sub (ws' := [(h0, .inr (23, [.int 0, .ref h1, v1, v2, v3, v4, v5, v6, .int 0])), (h1, .inr (6, [.int 0, .ref (g 0), .int 0]))]) [1, 0] rfl
  have hDc := hD.sub (ws' := [(h0, .inr (23, [.int 0, .ref h1, v1, v2, v3, v4, v5, v6, .int 0])), (h1, .inr (6, [.int 0, .ref (g 0), .int 0]))]) [1, 0] (by decide) rfl
  have hKc := hK.sub (tys' := []) [] rfl
  have hFc := va_free (wc := [(h0, .inr (23, [.int 0, .ref h1, v1, v2, v3, v4, v5, v6, .int 0])), (h1, .inr (6, [.int 0, .ref (g 0), .int 0]))]) hD hS hA [1, 0] rfl
  refine va_calli (va_runV (As := []) (rest := [.ref h0]) ⟨hx, hb, hml, hown, hts⟩ (kX16_isFull l dC dI g H.size h0 h1 (.int 0) v1 v2 v3 v4 v5 v6 (.int 0) (.int 0) (.ref (g 0)) ) (cwV 0 hts (ns_gp (List.forall_mem_cons.mpr ⟨wm393, (List.forall_mem_cons.mpr ⟨wm394, (List.forall_mem_cons.mpr ⟨wm395, (List.forall_mem_cons.mpr ⟨wm192, (fun _ h9 => nomatch h9)⟩)⟩)⟩)⟩) wm288) rfl rfl rfl (by decide +kernel) ⟨Nat.le_of_ble_eq_true rfl, Nat.le_of_ble_eq_true rfl⟩) ⟨fun a U gg mk q => by obtain ⟨q0, q1, qP, qK, qD, qF⟩ := q; exact ⟨q0, q1, qP, va_K.moved (u := U) (U := U.calling gg mk a) (Vm.Alike.refl U.vm) qK, qD, ns_same qF⟩, va_recv hK hP (ci := 23) (q0 := 1) rfl rfl, fun U hU hW => ⟨rfl, by rw [hU], by rw [hU]; exact hPc, va_K.moved hW.alike hKc, hDc.weaken (fun _ _ _ _ => trivial), ns_call hF hS hFc hU hW⟩⟩ rfl rfl hl.1 rfl (lv_room (Nat.le_of_ble_eq_true rfl)) dX16_word_35 ⟨Nat.le_of_ble_eq_true rfl, Nat.le_of_ble_eq_true rfl⟩) hS (fun q _ h => hFc q h) hFc (fun r9 u t H1 locs ht hvm hw hB hz1 hk1 hS => ?_)
  obtain rfl := hw.symm
  obtain ⟨hP1, hK1, hD1⟩ := hB
  rw [ht] at hP1
  have hK1 := va_K.moved hvm.symm hK1
  obtain ⟨hP, hD⟩ := va_join (wr := []) (w1 := [(h0, .inr (23, [.int 0, .ref h1, v1, v2, v3, v4, v5, v6, .int 0])), (h1, .inr (6, [.int 0, .ref (g 0), .int 0]))]) hP hD [1, 0] [] rfl rfl (by decide) (by decide) hk1 hFc hP1 hD1
  have hK := (hK.sub (tys' := []) [] rfl).app hK1
  generalize H1 = H at hP hS ⊢
  have hP : va_P (dC, dI) vwCl [(h0, .inr (23, [.int 0, .ref h1, v1, v2, v3, v4, v5, v6, .int 0])), (h1, .inr (6, [.int 0, .ref (g 0), .int 0]))] H := hP
  have hD : va_D A [(h0, .inr (23, [.int 0, .ref h1, v1, v2, v3, v4, v5, v6, .int 0])), (h1, .inr (6, [.int 0, .ref (g 0), .int 0]))] := hD
  have hK : va_K (dC, dI) vwCl [] s := hK
  refine W.widen (k := 0) (n := 0) (Nat.le_of_ble_eq_true rfl) (Nat.le_of_ble_eq_true rfl) ?_
  refine lv_iconst (v := 2) hx hb dX16_word_38 (by decide) ?_
  have hPc := hP.sub (ws' := [(h0, .inr (23, [.int 0, .ref h1, v1, v2, v3, v4, v5, v6, .int 0]))]) [0] rfl
  have hDc := hD.sub (ws' := [(h0, .inr (23, [.int 0, .ref h1, v1, v2, v3, v4, v5, v6, .int 0]))]) [0] (by decide) rfl
  have hKc := hK.sub (tys' := []) [] rfl
  have hFc := va_free (wc := [(h0, .inr (23, [.int 0, .ref h1, v1, v2, v3, v4, v5, v6, .int 0]))]) hD hS hA [0] rfl
  refine va_calli (va_runV (As := [.int 0, .int 2]) (rest := []) ⟨hx, hb, hml, hown, hts⟩ (kX16_refuse_3 l dC dI g H.size h0 (.ref h1) v1 v2 v3 v4 v5 v6 (.int 0) ) (cwV 2 hts (ns_gp (List.forall_mem_cons.mpr ⟨wm236, (List.forall_mem_cons.mpr ⟨wm237, (List.forall_mem_cons.mpr ⟨wm238, (List.forall_mem_cons.mpr ⟨wm192, (fun _ h9 => nomatch h9)⟩)⟩)⟩)⟩) wm235) rfl rfl rfl (by decide +kernel) ⟨Nat.le_of_ble_eq_true rfl, Nat.le_of_ble_eq_true rfl⟩) ⟨fun a U gg mk q => by obtain ⟨q0, q1, qP, qK, qD, qF⟩ := q; exact ⟨q0, q1, qP, va_K.moved (u := U) (U := U.calling gg mk a) (Vm.Alike.refl U.vm) qK, qD, ns_same qF⟩, va_recv hK hP (ci := 23) (q0 := 0) rfl rfl, fun U hU hW => ⟨rfl, by rw [hU], by rw [hU]; exact hPc, va_K.moved hW.alike hKc, hDc.weaken (fun _ _ _ _ => trivial), ns_call hF hS hFc hU hW⟩⟩ rfl rfl hl.1 rfl (lv_room (Nat.le_of_ble_eq_true rfl)) dX16_word_39 ⟨Nat.le_of_ble_eq_true rfl, Nat.le_of_ble_eq_true rfl⟩) hS (fun q _ h => hFc q h) hFc (fun r9 u t H1 locs ht hvm hw hB hz1 hk1 hS => ?_)
  obtain rfl := hw.symm
  obtain ⟨hP1, hK1, hD1⟩ := hB
  rw [ht] at hP1
  have hK1 := va_K.moved hvm.symm hK1
  obtain ⟨hP, hD⟩ := va_join (wr := [(h1, .inr (6, [.int 0, .ref (g 0), .int 0]))]) (w1 := [(h0, .inr (23, [.int 0, .ref h1, v1, v2, v3, v4, v5, v6, .int 0]))]) hP hD [0] [1] rfl rfl (by decide) (by decide) hk1 hFc hP1 hD1
  have hK := (hK.sub (tys' := []) [] rfl).app hK1
  generalize H1 = H at hP hS ⊢
  have hP : va_P (dC, dI) vwCl [(h1, .inr (6, [.int 0, .ref (g 0), .int 0])), (h0, .inr (23, [.int 0, .ref h1, v1, v2, v3, v4, v5, v6, .int 0]))] H := hP
  have hD : va_D A [(h1, .inr (6, [.int 0, .ref (g 0), .int 0])), (h0, .inr (23, [.int 0, .ref h1, v1, v2, v3, v4, v5, v6, .int 0]))] := hD
  have hK : va_K (dC, dI) vwCl [] s := hK
  refine W.widen (k := 0) (n := 0) (Nat.le_of_ble_eq_true rfl) (Nat.le_of_ble_eq_true rfl) ?_
  refine lv_if_eq (tgt := 47) hx hb dX16_word_42 (by decide) (fun c4 => ?_) (fun c4 => absurd (by decide) c4)
  refine va_new (ci := 1) (fs := [.null, .int 0, .int 0, .int 0]) (C := RJ4) (T := TJ4) (N := 4) hx hb hta naJ4 tyJ4 tyJ4_ok hown (hta _ wm289) (hta _ wm136) (hta _ wm137) hK hP hD hS hA rfl (fun j hj => by rcases (show j = 0 ∨ j = 1 ∨ j = 2 ∨ j = 3 by omega) with rfl | rfl | rfl | rfl <;> rfl) (Nat.le_of_ble_eq_true rfl) (Nat.le_of_ble_eq_true rfl) dX16_word_47 (fun q5 H hP hD hS => ?_)
  have hP : va_P (dC, dI) vwCl [(h1, .inr (6, [.int 0, .ref (g 0), .int 0])), (h0, .inr (23, [.int 0, .ref h1, v1, v2, v3, v4, v5, v6, .int 0])), (q5, .inr (1, [.null, .int 0, .int 0, .int 0]))] H := hP
  have hD : va_D A [(h1, .inr (6, [.int 0, .ref (g 0), .int 0])), (h0, .inr (23, [.int 0, .ref h1, v1, v2, v3, v4, v5, v6, .int 0])), (q5, .inr (1, [.null, .int 0, .int 0, .int 0]))] := hD
  refine W.widen (k := 1) (n := 4) (Nat.le_of_ble_eq_true rfl) (Nat.le_of_ble_eq_true rfl) ?_
  refine lv_dup hx hb dX16_word_50 rfl ?_
  have hPc := hP.sub (ws' := [(q5, .inr (1, [.null, .int 0, .int 0, .int 0]))]) [2] rfl
  have hDc := hD.sub (ws' := [(q5, .inr (1, [.null, .int 0, .int 0, .int 0]))]) [2] (by decide) rfl
  have hKc := hK.sub (tys' := []) [] rfl
  have hFc := va_free (wc := [(q5, .inr (1, [.null, .int 0, .int 0, .int 0]))]) hD hS hA [2] rfl
  refine va_callv (va_runI (As := []) (rest := [.ref q5]) ⟨hx, hb, hml, hown, hts⟩ (kJ4_init_da8c8 l dC dI g H.size q5 .null (.int 0) (.int 0) (.int 0) ) (cwI 0 hts (ns_g0 wm147) rfl rfl rfl (hta _ wm137) (hta _ wm396) (hta _ wm185) rfl (by decide +kernel) ⟨Nat.le_of_ble_eq_true rfl, Nat.le_of_ble_eq_true rfl⟩) ⟨fun a U gg mk q => by obtain ⟨q0, q1, qP, qK, qD, qF⟩ := q; exact ⟨q0, q1, qP, va_K.moved (u := U) (U := U.calling gg mk a) (Vm.Alike.refl U.vm) qK, qD, ns_same qF⟩, fun U hU hW => ⟨rfl, by rw [hU], by rw [hU]; exact hPc, va_K.moved hW.alike hKc, hDc.weaken (fun _ _ _ _ => trivial), ns_call hF hS hFc hU hW⟩⟩ rfl rfl hl.1 rfl (lv_room (Nat.le_of_ble_eq_true rfl)) dX16_word_51 ⟨Nat.le_of_ble_eq_true rfl, Nat.le_of_ble_eq_true rfl⟩) hS (fun q _ h => hFc q h) hFc (fun u t H1 locs ht hvm hw hB hz1 hk1 hS => ?_)
  obtain ⟨q6, cy7, hP1, hK1, hD1⟩ := hB
  rw [ht] at hP1
  have hK1 := va_K.moved hvm.symm hK1
  obtain ⟨hP, hD⟩ := va_join (wr := [(h1, .inr (6, [.int 0, .ref (g 0), .int 0])), (h0, .inr (23, [.int 0, .ref h1, v1, v2, v3, v4, v5, v6, .int 0]))]) (w1 := [(q5, .inr (1, [.ref q6, .int 0, .int 0, .int 0])), (q6, .inl (cy7, 16, .inl (fun _ => 0)))]) hP hD [2] [0, 1] rfl rfl (by decide) (by decide) hk1 hFc hP1 hD1
  have hK := (hK.sub (tys' := []) [] rfl).app hK1
  generalize H1 = H at hP hS ⊢
  have hP : va_P (dC, dI) vwCl [(h1, .inr (6, [.int 0, .ref (g 0), .int 0])), (h0, .inr (23, [.int 0, .ref h1, v1, v2, v3, v4, v5, v6, .int 0])), (q5, .inr (1, [.ref q6, .int 0, .int 0, .int 0])), (q6, .inl (cy7, 16, .inl (fun _ => 0)))] H := hP
  have hD : va_D A [(h1, .inr (6, [.int 0, .ref (g 0), .int 0])), (h0, .inr (23, [.int 0, .ref h1, v1, v2, v3, v4, v5, v6, .int 0])), (q5, .inr (1, [.ref q6, .int 0, .int 0, .int 0])), (q6, .inl (cy7, 16, .inl (fun _ => 0)))] := hD
  have hK : va_K (dC, dI) vwCl [(cy7, .byte)] s := hK
  refine W.widen (k := 2) (n := 20) (Nat.le_of_ble_eq_true rfl) (Nat.le_of_ble_eq_true rfl) ?_
  refine lv_astore_n (lv' := [(3, .ref q5), (0, .ref h0), (1, .int x0), (2, .int 9)]) hx hb dX16_word_54 rfl hl (by decide) rfl (fun ls hl => ?_)
  refine lv_iconst (v := 0) hx hb dX16_word_55 (by decide) ?_
  refine lv_istore (lv' := [(4, .int 0), (3, .ref q5), (0, .ref h0), (1, .int x0), (2, .int 9)]) hx hb dX16_word_56 hl (by decide) rfl (fun ls hl => ?_)
  refine lv_iload hx hb dX16_word_58 (lv_at hl 0 rfl) ?_
  refine lv_iload_n hx hb dX16_word_60 rfl (lv_at hl 4 rfl) ?_
  refine lv_icmp_ge (tgt := 80) hx hb dX16_word_61 (by decide) (fun c8 => absurd c8 (by decide)) (fun c8 => ?_)
  refine lv_aload_n hx hb dX16_word_64 rfl (lv_at hl 1 rfl) ?_
  refine lv_bipush (v := 97) hx hb dX16_word_65 (by decide) ?_
  refine lv_iload_n hx hb dX16_word_67 rfl (lv_at hl 3 rfl) ?_
  refine lv_iadd hx hb dX16_word_68 ?_
  have r9 : (97 + x0).toInt = (97 : Int) + x0.toInt := fb_addI (show (-2147483648 : Int) ≤ (97 : Int) + x0.toInt by omega) (show (97 : Int) + x0.toInt < (2147483648 : Int) by omega)
  refine lv_i2c (v := (97 + x0)) hx hb dX16_word_69 (ns_i2c (show (0 : Int) ≤ (97 + x0).toInt by omega) (by omega)) ?_
  have hPc := hP.sub (ws' := [(q5, .inr (1, [.ref q6, .int 0, .int 0, .int 0])), (q6, .inl (cy7, 16, .inl (fun _ => 0)))]) [2, 3] rfl
  have hDc := hD.sub (ws' := [(q5, .inr (1, [.ref q6, .int 0, .int 0, .int 0])), (q6, .inl (cy7, 16, .inl (fun _ => 0)))]) [2, 3] (by decide) rfl
  have hKc := hK.sub (tys' := [(cy7, .byte)]) [0] rfl
  have hFc := va_free (wc := [(q5, .inr (1, [.ref q6, .int 0, .int 0, .int 0])), (q6, .inl (cy7, 16, .inl (fun _ => 0)))]) hD hS hA [2, 3] rfl
  refine va_callr (va_runV (As := [.int (97 + x0)]) (rest := []) ⟨hx, hb, hml, hown, hts⟩ (kJ4_append_cf468 l dC dI g H.size q5 (97 + x0) q6 (.int 0) cy7 (fun _ => 0) sb_fit0 ⟨by omega, by omega⟩) (cwV 1 hts (ns_gp (List.forall_mem_cons.mpr ⟨wm397, (List.forall_mem_cons.mpr ⟨wm398, (List.forall_mem_cons.mpr ⟨wm399, (List.forall_mem_cons.mpr ⟨wm137, (fun _ h9 => nomatch h9)⟩)⟩)⟩)⟩) wm310) rfl rfl rfl (by decide +kernel) ⟨Nat.le_of_ble_eq_true rfl, Nat.le_of_ble_eq_true rfl⟩) ⟨fun a U gg mk q => by obtain ⟨q0, q1, qP, qK, qD, qF⟩ := q; exact ⟨q0, q1, qP, va_K.moved (u := U) (U := U.calling gg mk a) (Vm.Alike.refl U.vm) qK, qD, ns_same qF⟩, va_recv hK hP (ci := 1) (q0 := 2) rfl rfl, fun U hU hW => ⟨rfl, by rw [hU], by rw [hU]; exact hPc, va_K.moved hW.alike hKc, hDc.weaken (fun _ _ _ _ => trivial), ns_call hF hS hFc hU hW⟩⟩ rfl rfl hl.1 rfl (lv_room (Nat.le_of_ble_eq_true rfl)) dX16_word_70 ⟨Nat.le_of_ble_eq_true rfl, Nat.le_of_ble_eq_true rfl⟩) hS (fun q _ h => hFc q h) hFc (fun u r9 t H1 locs ht hvm hw hB hz1 hk1 hS => ?_)
  obtain ⟨hr9, hP1, hK1, hD1⟩ := hB
  obtain rfl := hr9.symm
  rw [ht] at hP1
  have hK1 := va_K.moved hvm.symm hK1
  obtain ⟨hP, hD⟩ := va_join (wr := [(h1, .inr (6, [.int 0, .ref (g 0), .int 0])), (h0, .inr (23, [.int 0, .ref h1, v1, v2, v3, v4, v5, v6, .int 0]))]) (w1 := [(q6, .inl (cy7, 16, .inl (upd ((fun _ => 0)) 0 (vp_nar .byte (97 + x0).toInt8.toInt32)))), (q5, .inr (1, [.ref q6, .int 0, .int 0, .int 1]))]) hP hD [2, 3] [0, 1] rfl rfl (by decide) (by decide) hk1 hFc hP1 hD1
  have hK := (hK.sub (tys' := []) [] rfl).app hK1
  generalize H1 = H at hP hS ⊢
  have hP : va_P (dC, dI) vwCl [(h1, .inr (6, [.int 0, .ref (g 0), .int 0])), (h0, .inr (23, [.int 0, .ref h1, v1, v2, v3, v4, v5, v6, .int 0])), (q6, .inl (cy7, 16, .inl (upd ((fun _ => 0)) 0 (vp_nar .byte (97 + x0).toInt8.toInt32)))), (q5, .inr (1, [.ref q6, .int 0, .int 0, .int 1]))] H := hP
  have hD : va_D A [(h1, .inr (6, [.int 0, .ref (g 0), .int 0])), (h0, .inr (23, [.int 0, .ref h1, v1, v2, v3, v4, v5, v6, .int 0])), (q6, .inl (cy7, 16, .inl (upd ((fun _ => 0)) 0 (vp_nar .byte (97 + x0).toInt8.toInt32)))), (q5, .inr (1, [.ref q6, .int 0, .int 0, .int 1]))] := hD
  have hK : va_K (dC, dI) vwCl [(cy7, .byte)] s := hK
  refine W.widen (k := 2) (n := 20) (Nat.le_of_ble_eq_true rfl) (Nat.le_of_ble_eq_true rfl) ?_
  refine lv_pop hx hb dX16_word_73 rfl ?_
  refine lv_iinc (v := 1) (lv' := [(4, .int 1), (3, .ref q5), (0, .ref h0), (1, .int x0), (2, .int 9)]) hx hb dX16_word_74 hl (k := 0) rfl (by decide) (by decide) rfl (fun ls hl => ?_)
  refine lv_goto (tgt := 58) hx hb dX16_word_77 (by decide) ?_
  refine lv_iload hx hb dX16_word_58 (lv_at hl 0 rfl) ?_
  refine lv_iload_n hx hb dX16_word_60 rfl (lv_at hl 4 rfl) ?_
  refine lv_icmp_ge (tgt := 80) hx hb dX16_word_61 (by decide) (fun c10 => absurd c10 (by decide)) (fun c10 => ?_)
  refine lv_aload_n hx hb dX16_word_64 rfl (lv_at hl 1 rfl) ?_
  refine lv_bipush (v := 97) hx hb dX16_word_65 (by decide) ?_
  refine lv_iload_n hx hb dX16_word_67 rfl (lv_at hl 3 rfl) ?_
  refine lv_iadd hx hb dX16_word_68 ?_
  have r11 : (97 + x0).toInt = (97 : Int) + x0.toInt := fb_addI (show (-2147483648 : Int) ≤ (97 : Int) + x0.toInt by omega) (show (97 : Int) + x0.toInt < (2147483648 : Int) by omega)
  refine lv_i2c (v := (97 + x0)) hx hb dX16_word_69 (ns_i2c (show (0 : Int) ≤ (97 + x0).toInt by omega) (by omega)) ?_
  have hPc := hP.sub (ws' := [(q5, .inr (1, [.ref q6, .int 0, .int 0, .int 1])), (q6, .inl (cy7, 16, .inl (upd ((fun _ => 0)) 0 (vp_nar .byte (97 + x0).toInt8.toInt32))))]) [3, 2] rfl
  have hDc := hD.sub (ws' := [(q5, .inr (1, [.ref q6, .int 0, .int 0, .int 1])), (q6, .inl (cy7, 16, .inl (upd ((fun _ => 0)) 0 (vp_nar .byte (97 + x0).toInt8.toInt32))))]) [3, 2] (by decide) rfl
  have hKc := hK.sub (tys' := [(cy7, .byte)]) [0] rfl
  have hFc := va_free (wc := [(q5, .inr (1, [.ref q6, .int 0, .int 0, .int 1])), (q6, .inl (cy7, 16, .inl (upd ((fun _ => 0)) 0 (vp_nar .byte (97 + x0).toInt8.toInt32))))]) hD hS hA [3, 2] rfl
  refine va_callr (va_runV (As := [.int (97 + x0)]) (rest := []) ⟨hx, hb, hml, hown, hts⟩ (kJ4_append_cf468_2 l dC dI g H.size q5 (97 + x0) q6 (.int 0) cy7 (upd ((fun _ => 0)) 0 (vp_nar .byte (97 + x0).toInt8.toInt32)) (sb_fitU sb_fit0 (pk_fb _)) ⟨by omega, by omega⟩) (cwV 1 hts (ns_gp (List.forall_mem_cons.mpr ⟨wm397, (List.forall_mem_cons.mpr ⟨wm398, (List.forall_mem_cons.mpr ⟨wm399, (List.forall_mem_cons.mpr ⟨wm137, (fun _ h9 => nomatch h9)⟩)⟩)⟩)⟩) wm310) rfl rfl rfl (by decide +kernel) ⟨Nat.le_of_ble_eq_true rfl, Nat.le_of_ble_eq_true rfl⟩) ⟨fun a U gg mk q => by obtain ⟨q0, q1, qP, qK, qD, qF⟩ := q; exact ⟨q0, q1, qP, va_K.moved (u := U) (U := U.calling gg mk a) (Vm.Alike.refl U.vm) qK, qD, ns_same qF⟩, va_recv hK hP (ci := 1) (q0 := 3) rfl rfl, fun U hU hW => ⟨rfl, by rw [hU], by rw [hU]; exact hPc, va_K.moved hW.alike hKc, hDc.weaken (fun _ _ _ _ => trivial), ns_call hF hS hFc hU hW⟩⟩ rfl rfl hl.1 rfl (lv_room (Nat.le_of_ble_eq_true rfl)) dX16_word_70 ⟨Nat.le_of_ble_eq_true rfl, Nat.le_of_ble_eq_true rfl⟩) hS (fun q _ h => hFc q h) hFc (fun u r9 t H1 locs ht hvm hw hB hz1 hk1 hS => ?_)
  obtain ⟨hr9, hP1, hK1, hD1⟩ := hB
  obtain rfl := hr9.symm
  rw [ht] at hP1
  have hK1 := va_K.moved hvm.symm hK1
  obtain ⟨hP, hD⟩ := va_join (wr := [(h1, .inr (6, [.int 0, .ref (g 0), .int 0])), (h0, .inr (23, [.int 0, .ref h1, v1, v2, v3, v4, v5, v6, .int 0]))]) (w1 := [(q6, .inl (cy7, 16, .inl (upd ((upd ((fun _ => 0)) 0 (vp_nar .byte (97 + x0).toInt8.toInt32))) 1 (vp_nar .byte (97 + x0).toInt8.toInt32)))), (q5, .inr (1, [.ref q6, .int 0, .int 0, .int 2]))]) hP hD [3, 2] [0, 1] rfl rfl (by decide) (by decide) hk1 hFc hP1 hD1
  have hK := (hK.sub (tys' := []) [] rfl).app hK1
  generalize H1 = H at hP hS ⊢
  have hP : va_P (dC, dI) vwCl [(h1, .inr (6, [.int 0, .ref (g 0), .int 0])), (h0, .inr (23, [.int 0, .ref h1, v1, v2, v3, v4, v5, v6, .int 0])), (q6, .inl (cy7, 16, .inl (upd ((upd ((fun _ => 0)) 0 (vp_nar .byte (97 + x0).toInt8.toInt32))) 1 (vp_nar .byte (97 + x0).toInt8.toInt32)))), (q5, .inr (1, [.ref q6, .int 0, .int 0, .int 2]))] H := hP
  have hD : va_D A [(h1, .inr (6, [.int 0, .ref (g 0), .int 0])), (h0, .inr (23, [.int 0, .ref h1, v1, v2, v3, v4, v5, v6, .int 0])), (q6, .inl (cy7, 16, .inl (upd ((upd ((fun _ => 0)) 0 (vp_nar .byte (97 + x0).toInt8.toInt32))) 1 (vp_nar .byte (97 + x0).toInt8.toInt32)))), (q5, .inr (1, [.ref q6, .int 0, .int 0, .int 2]))] := hD
  have hK : va_K (dC, dI) vwCl [(cy7, .byte)] s := hK
  refine W.widen (k := 2) (n := 20) (Nat.le_of_ble_eq_true rfl) (Nat.le_of_ble_eq_true rfl) ?_
  refine lv_pop hx hb dX16_word_73 rfl ?_
  refine lv_iinc (v := 2) (lv' := [(4, .int 2), (3, .ref q5), (0, .ref h0), (1, .int x0), (2, .int 9)]) hx hb dX16_word_74 hl (k := 0) rfl (by decide) (by decide) rfl (fun ls hl => ?_)
  refine lv_goto (tgt := 58) hx hb dX16_word_77 (by decide) ?_
  refine lv_iload hx hb dX16_word_58 (lv_at hl 0 rfl) ?_
  refine lv_iload_n hx hb dX16_word_60 rfl (lv_at hl 4 rfl) ?_
  refine lv_icmp_ge (tgt := 80) hx hb dX16_word_61 (by decide) (fun c12 => absurd c12 (by decide)) (fun c12 => ?_)
  refine lv_aload_n hx hb dX16_word_64 rfl (lv_at hl 1 rfl) ?_
  refine lv_bipush (v := 97) hx hb dX16_word_65 (by decide) ?_
  refine lv_iload_n hx hb dX16_word_67 rfl (lv_at hl 3 rfl) ?_
  refine lv_iadd hx hb dX16_word_68 ?_
  have r13 : (97 + x0).toInt = (97 : Int) + x0.toInt := fb_addI (show (-2147483648 : Int) ≤ (97 : Int) + x0.toInt by omega) (show (97 : Int) + x0.toInt < (2147483648 : Int) by omega)
  refine lv_i2c (v := (97 + x0)) hx hb dX16_word_69 (ns_i2c (show (0 : Int) ≤ (97 + x0).toInt by omega) (by omega)) ?_
  have hPc := hP.sub (ws' := [(q5, .inr (1, [.ref q6, .int 0, .int 0, .int 2])), (q6, .inl (cy7, 16, .inl (upd ((upd ((fun _ => 0)) 0 (vp_nar .byte (97 + x0).toInt8.toInt32))) 1 (vp_nar .byte (97 + x0).toInt8.toInt32))))]) [3, 2] rfl
  have hDc := hD.sub (ws' := [(q5, .inr (1, [.ref q6, .int 0, .int 0, .int 2])), (q6, .inl (cy7, 16, .inl (upd ((upd ((fun _ => 0)) 0 (vp_nar .byte (97 + x0).toInt8.toInt32))) 1 (vp_nar .byte (97 + x0).toInt8.toInt32))))]) [3, 2] (by decide) rfl
  have hKc := hK.sub (tys' := [(cy7, .byte)]) [0] rfl
  have hFc := va_free (wc := [(q5, .inr (1, [.ref q6, .int 0, .int 0, .int 2])), (q6, .inl (cy7, 16, .inl (upd ((upd ((fun _ => 0)) 0 (vp_nar .byte (97 + x0).toInt8.toInt32))) 1 (vp_nar .byte (97 + x0).toInt8.toInt32))))]) hD hS hA [3, 2] rfl
  refine va_callr (va_runV (As := [.int (97 + x0)]) (rest := []) ⟨hx, hb, hml, hown, hts⟩ (kJ4_append_cf468_3 l dC dI g H.size q5 (97 + x0) q6 (.int 0) cy7 (upd ((upd ((fun _ => 0)) 0 (vp_nar .byte (97 + x0).toInt8.toInt32))) 1 (vp_nar .byte (97 + x0).toInt8.toInt32)) (sb_fitU (sb_fitU sb_fit0 (pk_fb _)) (pk_fb _)) ⟨by omega, by omega⟩) (cwV 1 hts (ns_gp (List.forall_mem_cons.mpr ⟨wm397, (List.forall_mem_cons.mpr ⟨wm398, (List.forall_mem_cons.mpr ⟨wm399, (List.forall_mem_cons.mpr ⟨wm137, (fun _ h9 => nomatch h9)⟩)⟩)⟩)⟩) wm310) rfl rfl rfl (by decide +kernel) ⟨Nat.le_of_ble_eq_true rfl, Nat.le_of_ble_eq_true rfl⟩) ⟨fun a U gg mk q => by obtain ⟨q0, q1, qP, qK, qD, qF⟩ := q; exact ⟨q0, q1, qP, va_K.moved (u := U) (U := U.calling gg mk a) (Vm.Alike.refl U.vm) qK, qD, ns_same qF⟩, va_recv hK hP (ci := 1) (q0 := 3) rfl rfl, fun U hU hW => ⟨rfl, by rw [hU], by rw [hU]; exact hPc, va_K.moved hW.alike hKc, hDc.weaken (fun _ _ _ _ => trivial), ns_call hF hS hFc hU hW⟩⟩ rfl rfl hl.1 rfl (lv_room (Nat.le_of_ble_eq_true rfl)) dX16_word_70 ⟨Nat.le_of_ble_eq_true rfl, Nat.le_of_ble_eq_true rfl⟩) hS (fun q _ h => hFc q h) hFc (fun u r9 t H1 locs ht hvm hw hB hz1 hk1 hS => ?_)
  obtain ⟨hr9, hP1, hK1, hD1⟩ := hB
  obtain rfl := hr9.symm
  rw [ht] at hP1
  have hK1 := va_K.moved hvm.symm hK1
  obtain ⟨hP, hD⟩ := va_join (wr := [(h1, .inr (6, [.int 0, .ref (g 0), .int 0])), (h0, .inr (23, [.int 0, .ref h1, v1, v2, v3, v4, v5, v6, .int 0]))]) (w1 := [(q6, .inl (cy7, 16, .inl (upd ((upd ((upd ((fun _ => 0)) 0 (vp_nar .byte (97 + x0).toInt8.toInt32))) 1 (vp_nar .byte (97 + x0).toInt8.toInt32))) 2 (vp_nar .byte (97 + x0).toInt8.toInt32)))), (q5, .inr (1, [.ref q6, .int 0, .int 0, .int 3]))]) hP hD [3, 2] [0, 1] rfl rfl (by decide) (by decide) hk1 hFc hP1 hD1
  have hK := (hK.sub (tys' := []) [] rfl).app hK1
  generalize H1 = H at hP hS ⊢
  have hP : va_P (dC, dI) vwCl [(h1, .inr (6, [.int 0, .ref (g 0), .int 0])), (h0, .inr (23, [.int 0, .ref h1, v1, v2, v3, v4, v5, v6, .int 0])), (q6, .inl (cy7, 16, .inl (upd ((upd ((upd ((fun _ => 0)) 0 (vp_nar .byte (97 + x0).toInt8.toInt32))) 1 (vp_nar .byte (97 + x0).toInt8.toInt32))) 2 (vp_nar .byte (97 + x0).toInt8.toInt32)))), (q5, .inr (1, [.ref q6, .int 0, .int 0, .int 3]))] H := hP
  have hD : va_D A [(h1, .inr (6, [.int 0, .ref (g 0), .int 0])), (h0, .inr (23, [.int 0, .ref h1, v1, v2, v3, v4, v5, v6, .int 0])), (q6, .inl (cy7, 16, .inl (upd ((upd ((upd ((fun _ => 0)) 0 (vp_nar .byte (97 + x0).toInt8.toInt32))) 1 (vp_nar .byte (97 + x0).toInt8.toInt32))) 2 (vp_nar .byte (97 + x0).toInt8.toInt32)))), (q5, .inr (1, [.ref q6, .int 0, .int 0, .int 3]))] := hD
  have hK : va_K (dC, dI) vwCl [(cy7, .byte)] s := hK
  refine W.widen (k := 2) (n := 20) (Nat.le_of_ble_eq_true rfl) (Nat.le_of_ble_eq_true rfl) ?_
  refine lv_pop hx hb dX16_word_73 rfl ?_
  refine lv_iinc (v := 3) (lv' := [(4, .int 3), (3, .ref q5), (0, .ref h0), (1, .int x0), (2, .int 9)]) hx hb dX16_word_74 hl (k := 0) rfl (by decide) (by decide) rfl (fun ls hl => ?_)
  refine lv_goto (tgt := 58) hx hb dX16_word_77 (by decide) ?_
  refine lv_iload hx hb dX16_word_58 (lv_at hl 0 rfl) ?_
  refine lv_iload_n hx hb dX16_word_60 rfl (lv_at hl 4 rfl) ?_
  refine lv_icmp_ge (tgt := 80) hx hb dX16_word_61 (by decide) (fun c14 => absurd c14 (by decide)) (fun c14 => ?_)
  refine lv_aload_n hx hb dX16_word_64 rfl (lv_at hl 1 rfl) ?_
  refine lv_bipush (v := 97) hx hb dX16_word_65 (by decide) ?_
  refine lv_iload_n hx hb dX16_word_67 rfl (lv_at hl 3 rfl) ?_
  refine lv_iadd hx hb dX16_word_68 ?_
  have r15 : (97 + x0).toInt = (97 : Int) + x0.toInt := fb_addI (show (-2147483648 : Int) ≤ (97 : Int) + x0.toInt by omega) (show (97 : Int) + x0.toInt < (2147483648 : Int) by omega)
  refine lv_i2c (v := (97 + x0)) hx hb dX16_word_69 (ns_i2c (show (0 : Int) ≤ (97 + x0).toInt by omega) (by omega)) ?_
  have hPc := hP.sub (ws' := [(q5, .inr (1, [.ref q6, .int 0, .int 0, .int 3])), (q6, .inl (cy7, 16, .inl (upd ((upd ((upd ((fun _ => 0)) 0 (vp_nar .byte (97 + x0).toInt8.toInt32))) 1 (vp_nar .byte (97 + x0).toInt8.toInt32))) 2 (vp_nar .byte (97 + x0).toInt8.toInt32))))]) [3, 2] rfl
  have hDc := hD.sub (ws' := [(q5, .inr (1, [.ref q6, .int 0, .int 0, .int 3])), (q6, .inl (cy7, 16, .inl (upd ((upd ((upd ((fun _ => 0)) 0 (vp_nar .byte (97 + x0).toInt8.toInt32))) 1 (vp_nar .byte (97 + x0).toInt8.toInt32))) 2 (vp_nar .byte (97 + x0).toInt8.toInt32))))]) [3, 2] (by decide) rfl
  have hKc := hK.sub (tys' := [(cy7, .byte)]) [0] rfl
  have hFc := va_free (wc := [(q5, .inr (1, [.ref q6, .int 0, .int 0, .int 3])), (q6, .inl (cy7, 16, .inl (upd ((upd ((upd ((fun _ => 0)) 0 (vp_nar .byte (97 + x0).toInt8.toInt32))) 1 (vp_nar .byte (97 + x0).toInt8.toInt32))) 2 (vp_nar .byte (97 + x0).toInt8.toInt32))))]) hD hS hA [3, 2] rfl
  refine va_callr (va_runV (As := [.int (97 + x0)]) (rest := []) ⟨hx, hb, hml, hown, hts⟩ (kJ4_append_cf468_4 l dC dI g H.size q5 (97 + x0) q6 (.int 0) cy7 (upd ((upd ((upd ((fun _ => 0)) 0 (vp_nar .byte (97 + x0).toInt8.toInt32))) 1 (vp_nar .byte (97 + x0).toInt8.toInt32))) 2 (vp_nar .byte (97 + x0).toInt8.toInt32)) (sb_fitU (sb_fitU (sb_fitU sb_fit0 (pk_fb _)) (pk_fb _)) (pk_fb _)) ⟨by omega, by omega⟩) (cwV 1 hts (ns_gp (List.forall_mem_cons.mpr ⟨wm397, (List.forall_mem_cons.mpr ⟨wm398, (List.forall_mem_cons.mpr ⟨wm399, (List.forall_mem_cons.mpr ⟨wm137, (fun _ h9 => nomatch h9)⟩)⟩)⟩)⟩) wm310) rfl rfl rfl (by decide +kernel) ⟨Nat.le_of_ble_eq_true rfl, Nat.le_of_ble_eq_true rfl⟩) ⟨fun a U gg mk q => by obtain ⟨q0, q1, qP, qK, qD, qF⟩ := q; exact ⟨q0, q1, qP, va_K.moved (u := U) (U := U.calling gg mk a) (Vm.Alike.refl U.vm) qK, qD, ns_same qF⟩, va_recv hK hP (ci := 1) (q0 := 3) rfl rfl, fun U hU hW => ⟨rfl, by rw [hU], by rw [hU]; exact hPc, va_K.moved hW.alike hKc, hDc.weaken (fun _ _ _ _ => trivial), ns_call hF hS hFc hU hW⟩⟩ rfl rfl hl.1 rfl (lv_room (Nat.le_of_ble_eq_true rfl)) dX16_word_70 ⟨Nat.le_of_ble_eq_true rfl, Nat.le_of_ble_eq_true rfl⟩) hS (fun q _ h => hFc q h) hFc (fun u r9 t H1 locs ht hvm hw hB hz1 hk1 hS => ?_)
  obtain ⟨hr9, hP1, hK1, hD1⟩ := hB
  obtain rfl := hr9.symm
  rw [ht] at hP1
  have hK1 := va_K.moved hvm.symm hK1
  obtain ⟨hP, hD⟩ := va_join (wr := [(h1, .inr (6, [.int 0, .ref (g 0), .int 0])), (h0, .inr (23, [.int 0, .ref h1, v1, v2, v3, v4, v5, v6, .int 0]))]) (w1 := [(q6, .inl (cy7, 16, .inl (upd ((upd ((upd ((upd ((fun _ => 0)) 0 (vp_nar .byte (97 + x0).toInt8.toInt32))) 1 (vp_nar .byte (97 + x0).toInt8.toInt32))) 2 (vp_nar .byte (97 + x0).toInt8.toInt32))) 3 (vp_nar .byte (97 + x0).toInt8.toInt32)))), (q5, .inr (1, [.ref q6, .int 0, .int 0, .int 4]))]) hP hD [3, 2] [0, 1] rfl rfl (by decide) (by decide) hk1 hFc hP1 hD1
  have hK := (hK.sub (tys' := []) [] rfl).app hK1
  generalize H1 = H at hP hS ⊢
  have hP : va_P (dC, dI) vwCl [(h1, .inr (6, [.int 0, .ref (g 0), .int 0])), (h0, .inr (23, [.int 0, .ref h1, v1, v2, v3, v4, v5, v6, .int 0])), (q6, .inl (cy7, 16, .inl (upd ((upd ((upd ((upd ((fun _ => 0)) 0 (vp_nar .byte (97 + x0).toInt8.toInt32))) 1 (vp_nar .byte (97 + x0).toInt8.toInt32))) 2 (vp_nar .byte (97 + x0).toInt8.toInt32))) 3 (vp_nar .byte (97 + x0).toInt8.toInt32)))), (q5, .inr (1, [.ref q6, .int 0, .int 0, .int 4]))] H := hP
  have hD : va_D A [(h1, .inr (6, [.int 0, .ref (g 0), .int 0])), (h0, .inr (23, [.int 0, .ref h1, v1, v2, v3, v4, v5, v6, .int 0])), (q6, .inl (cy7, 16, .inl (upd ((upd ((upd ((upd ((fun _ => 0)) 0 (vp_nar .byte (97 + x0).toInt8.toInt32))) 1 (vp_nar .byte (97 + x0).toInt8.toInt32))) 2 (vp_nar .byte (97 + x0).toInt8.toInt32))) 3 (vp_nar .byte (97 + x0).toInt8.toInt32)))), (q5, .inr (1, [.ref q6, .int 0, .int 0, .int 4]))] := hD
  have hK : va_K (dC, dI) vwCl [(cy7, .byte)] s := hK
  refine W.widen (k := 2) (n := 20) (Nat.le_of_ble_eq_true rfl) (Nat.le_of_ble_eq_true rfl) ?_
  refine lv_pop hx hb dX16_word_73 rfl ?_
  refine lv_iinc (v := 4) (lv' := [(4, .int 4), (3, .ref q5), (0, .ref h0), (1, .int x0), (2, .int 9)]) hx hb dX16_word_74 hl (k := 0) rfl (by decide) (by decide) rfl (fun ls hl => ?_)
  refine lv_goto (tgt := 58) hx hb dX16_word_77 (by decide) ?_
  refine lv_iload hx hb dX16_word_58 (lv_at hl 0 rfl) ?_
  refine lv_iload_n hx hb dX16_word_60 rfl (lv_at hl 4 rfl) ?_
  refine lv_icmp_ge (tgt := 80) hx hb dX16_word_61 (by decide) (fun c16 => absurd c16 (by decide)) (fun c16 => ?_)
  refine lv_aload_n hx hb dX16_word_64 rfl (lv_at hl 1 rfl) ?_
  refine lv_bipush (v := 97) hx hb dX16_word_65 (by decide) ?_
  refine lv_iload_n hx hb dX16_word_67 rfl (lv_at hl 3 rfl) ?_
  refine lv_iadd hx hb dX16_word_68 ?_
  have r17 : (97 + x0).toInt = (97 : Int) + x0.toInt := fb_addI (show (-2147483648 : Int) ≤ (97 : Int) + x0.toInt by omega) (show (97 : Int) + x0.toInt < (2147483648 : Int) by omega)
  refine lv_i2c (v := (97 + x0)) hx hb dX16_word_69 (ns_i2c (show (0 : Int) ≤ (97 + x0).toInt by omega) (by omega)) ?_
  have hPc := hP.sub (ws' := [(q5, .inr (1, [.ref q6, .int 0, .int 0, .int 4])), (q6, .inl (cy7, 16, .inl (upd ((upd ((upd ((upd ((fun _ => 0)) 0 (vp_nar .byte (97 + x0).toInt8.toInt32))) 1 (vp_nar .byte (97 + x0).toInt8.toInt32))) 2 (vp_nar .byte (97 + x0).toInt8.toInt32))) 3 (vp_nar .byte (97 + x0).toInt8.toInt32))))]) [3, 2] rfl
  have hDc := hD.sub (ws' := [(q5, .inr (1, [.ref q6, .int 0, .int 0, .int 4])), (q6, .inl (cy7, 16, .inl (upd ((upd ((upd ((upd ((fun _ => 0)) 0 (vp_nar .byte (97 + x0).toInt8.toInt32))) 1 (vp_nar .byte (97 + x0).toInt8.toInt32))) 2 (vp_nar .byte (97 + x0).toInt8.toInt32))) 3 (vp_nar .byte (97 + x0).toInt8.toInt32))))]) [3, 2] (by decide) rfl
  have hKc := hK.sub (tys' := [(cy7, .byte)]) [0] rfl
  have hFc := va_free (wc := [(q5, .inr (1, [.ref q6, .int 0, .int 0, .int 4])), (q6, .inl (cy7, 16, .inl (upd ((upd ((upd ((upd ((fun _ => 0)) 0 (vp_nar .byte (97 + x0).toInt8.toInt32))) 1 (vp_nar .byte (97 + x0).toInt8.toInt32))) 2 (vp_nar .byte (97 + x0).toInt8.toInt32))) 3 (vp_nar .byte (97 + x0).toInt8.toInt32))))]) hD hS hA [3, 2] rfl
  refine va_callr (va_runV (As := [.int (97 + x0)]) (rest := []) ⟨hx, hb, hml, hown, hts⟩ (kJ4_append_cf468_5 l dC dI g H.size q5 (97 + x0) q6 (.int 0) cy7 (upd ((upd ((upd ((upd ((fun _ => 0)) 0 (vp_nar .byte (97 + x0).toInt8.toInt32))) 1 (vp_nar .byte (97 + x0).toInt8.toInt32))) 2 (vp_nar .byte (97 + x0).toInt8.toInt32))) 3 (vp_nar .byte (97 + x0).toInt8.toInt32)) (sb_fitU (sb_fitU (sb_fitU (sb_fitU sb_fit0 (pk_fb _)) (pk_fb _)) (pk_fb _)) (pk_fb _)) ⟨by omega, by omega⟩) (cwV 1 hts (ns_gp (List.forall_mem_cons.mpr ⟨wm397, (List.forall_mem_cons.mpr ⟨wm398, (List.forall_mem_cons.mpr ⟨wm399, (List.forall_mem_cons.mpr ⟨wm137, (fun _ h9 => nomatch h9)⟩)⟩)⟩)⟩) wm310) rfl rfl rfl (by decide +kernel) ⟨Nat.le_of_ble_eq_true rfl, Nat.le_of_ble_eq_true rfl⟩) ⟨fun a U gg mk q => by obtain ⟨q0, q1, qP, qK, qD, qF⟩ := q; exact ⟨q0, q1, qP, va_K.moved (u := U) (U := U.calling gg mk a) (Vm.Alike.refl U.vm) qK, qD, ns_same qF⟩, va_recv hK hP (ci := 1) (q0 := 3) rfl rfl, fun U hU hW => ⟨rfl, by rw [hU], by rw [hU]; exact hPc, va_K.moved hW.alike hKc, hDc.weaken (fun _ _ _ _ => trivial), ns_call hF hS hFc hU hW⟩⟩ rfl rfl hl.1 rfl (lv_room (Nat.le_of_ble_eq_true rfl)) dX16_word_70 ⟨Nat.le_of_ble_eq_true rfl, Nat.le_of_ble_eq_true rfl⟩) hS (fun q _ h => hFc q h) hFc (fun u r9 t H1 locs ht hvm hw hB hz1 hk1 hS => ?_)
  obtain ⟨hr9, hP1, hK1, hD1⟩ := hB
  obtain rfl := hr9.symm
  rw [ht] at hP1
  have hK1 := va_K.moved hvm.symm hK1
  obtain ⟨hP, hD⟩ := va_join (wr := [(h1, .inr (6, [.int 0, .ref (g 0), .int 0])), (h0, .inr (23, [.int 0, .ref h1, v1, v2, v3, v4, v5, v6, .int 0]))]) (w1 := [(q6, .inl (cy7, 16, .inl (upd ((upd ((upd ((upd ((upd ((fun _ => 0)) 0 (vp_nar .byte (97 + x0).toInt8.toInt32))) 1 (vp_nar .byte (97 + x0).toInt8.toInt32))) 2 (vp_nar .byte (97 + x0).toInt8.toInt32))) 3 (vp_nar .byte (97 + x0).toInt8.toInt32))) 4 (vp_nar .byte (97 + x0).toInt8.toInt32)))), (q5, .inr (1, [.ref q6, .int 0, .int 0, .int 5]))]) hP hD [3, 2] [0, 1] rfl rfl (by decide) (by decide) hk1 hFc hP1 hD1
  have hK := (hK.sub (tys' := []) [] rfl).app hK1
  generalize H1 = H at hP hS ⊢
  have hP : va_P (dC, dI) vwCl [(h1, .inr (6, [.int 0, .ref (g 0), .int 0])), (h0, .inr (23, [.int 0, .ref h1, v1, v2, v3, v4, v5, v6, .int 0])), (q6, .inl (cy7, 16, .inl (upd ((upd ((upd ((upd ((upd ((fun _ => 0)) 0 (vp_nar .byte (97 + x0).toInt8.toInt32))) 1 (vp_nar .byte (97 + x0).toInt8.toInt32))) 2 (vp_nar .byte (97 + x0).toInt8.toInt32))) 3 (vp_nar .byte (97 + x0).toInt8.toInt32))) 4 (vp_nar .byte (97 + x0).toInt8.toInt32)))), (q5, .inr (1, [.ref q6, .int 0, .int 0, .int 5]))] H := hP
  have hD : va_D A [(h1, .inr (6, [.int 0, .ref (g 0), .int 0])), (h0, .inr (23, [.int 0, .ref h1, v1, v2, v3, v4, v5, v6, .int 0])), (q6, .inl (cy7, 16, .inl (upd ((upd ((upd ((upd ((upd ((fun _ => 0)) 0 (vp_nar .byte (97 + x0).toInt8.toInt32))) 1 (vp_nar .byte (97 + x0).toInt8.toInt32))) 2 (vp_nar .byte (97 + x0).toInt8.toInt32))) 3 (vp_nar .byte (97 + x0).toInt8.toInt32))) 4 (vp_nar .byte (97 + x0).toInt8.toInt32)))), (q5, .inr (1, [.ref q6, .int 0, .int 0, .int 5]))] := hD
  have hK : va_K (dC, dI) vwCl [(cy7, .byte)] s := hK
  refine W.widen (k := 2) (n := 20) (Nat.le_of_ble_eq_true rfl) (Nat.le_of_ble_eq_true rfl) ?_
  refine lv_pop hx hb dX16_word_73 rfl ?_
  refine lv_iinc (v := 5) (lv' := [(4, .int 5), (3, .ref q5), (0, .ref h0), (1, .int x0), (2, .int 9)]) hx hb dX16_word_74 hl (k := 0) rfl (by decide) (by decide) rfl (fun ls hl => ?_)
  refine lv_goto (tgt := 58) hx hb dX16_word_77 (by decide) ?_
  refine lv_iload hx hb dX16_word_58 (lv_at hl 0 rfl) ?_
  refine lv_iload_n hx hb dX16_word_60 rfl (lv_at hl 4 rfl) ?_
  refine lv_icmp_ge (tgt := 80) hx hb dX16_word_61 (by decide) (fun c18 => absurd c18 (by decide)) (fun c18 => ?_)
  refine lv_aload_n hx hb dX16_word_64 rfl (lv_at hl 1 rfl) ?_
  refine lv_bipush (v := 97) hx hb dX16_word_65 (by decide) ?_
  refine lv_iload_n hx hb dX16_word_67 rfl (lv_at hl 3 rfl) ?_
  refine lv_iadd hx hb dX16_word_68 ?_
  have r19 : (97 + x0).toInt = (97 : Int) + x0.toInt := fb_addI (show (-2147483648 : Int) ≤ (97 : Int) + x0.toInt by omega) (show (97 : Int) + x0.toInt < (2147483648 : Int) by omega)
  refine lv_i2c (v := (97 + x0)) hx hb dX16_word_69 (ns_i2c (show (0 : Int) ≤ (97 + x0).toInt by omega) (by omega)) ?_
  have hPc := hP.sub (ws' := [(q5, .inr (1, [.ref q6, .int 0, .int 0, .int 5])), (q6, .inl (cy7, 16, .inl (upd ((upd ((upd ((upd ((upd ((fun _ => 0)) 0 (vp_nar .byte (97 + x0).toInt8.toInt32))) 1 (vp_nar .byte (97 + x0).toInt8.toInt32))) 2 (vp_nar .byte (97 + x0).toInt8.toInt32))) 3 (vp_nar .byte (97 + x0).toInt8.toInt32))) 4 (vp_nar .byte (97 + x0).toInt8.toInt32))))]) [3, 2] rfl
  have hDc := hD.sub (ws' := [(q5, .inr (1, [.ref q6, .int 0, .int 0, .int 5])), (q6, .inl (cy7, 16, .inl (upd ((upd ((upd ((upd ((upd ((fun _ => 0)) 0 (vp_nar .byte (97 + x0).toInt8.toInt32))) 1 (vp_nar .byte (97 + x0).toInt8.toInt32))) 2 (vp_nar .byte (97 + x0).toInt8.toInt32))) 3 (vp_nar .byte (97 + x0).toInt8.toInt32))) 4 (vp_nar .byte (97 + x0).toInt8.toInt32))))]) [3, 2] (by decide) rfl
  have hKc := hK.sub (tys' := [(cy7, .byte)]) [0] rfl
  have hFc := va_free (wc := [(q5, .inr (1, [.ref q6, .int 0, .int 0, .int 5])), (q6, .inl (cy7, 16, .inl (upd ((upd ((upd ((upd ((upd ((fun _ => 0)) 0 (vp_nar .byte (97 + x0).toInt8.toInt32))) 1 (vp_nar .byte (97 + x0).toInt8.toInt32))) 2 (vp_nar .byte (97 + x0).toInt8.toInt32))) 3 (vp_nar .byte (97 + x0).toInt8.toInt32))) 4 (vp_nar .byte (97 + x0).toInt8.toInt32))))]) hD hS hA [3, 2] rfl
  refine va_callr (va_runV (As := [.int (97 + x0)]) (rest := []) ⟨hx, hb, hml, hown, hts⟩ (kJ4_append_cf468_6 l dC dI g H.size q5 (97 + x0) q6 (.int 0) cy7 (upd ((upd ((upd ((upd ((upd ((fun _ => 0)) 0 (vp_nar .byte (97 + x0).toInt8.toInt32))) 1 (vp_nar .byte (97 + x0).toInt8.toInt32))) 2 (vp_nar .byte (97 + x0).toInt8.toInt32))) 3 (vp_nar .byte (97 + x0).toInt8.toInt32))) 4 (vp_nar .byte (97 + x0).toInt8.toInt32)) (sb_fitU (sb_fitU (sb_fitU (sb_fitU (sb_fitU sb_fit0 (pk_fb _)) (pk_fb _)) (pk_fb _)) (pk_fb _)) (pk_fb _)) ⟨by omega, by omega⟩) (cwV 1 hts (ns_gp (List.forall_mem_cons.mpr ⟨wm397, (List.forall_mem_cons.mpr ⟨wm398, (List.forall_mem_cons.mpr ⟨wm399, (List.forall_mem_cons.mpr ⟨wm137, (fun _ h9 => nomatch h9)⟩)⟩)⟩)⟩) wm310) rfl rfl rfl (by decide +kernel) ⟨Nat.le_of_ble_eq_true rfl, Nat.le_of_ble_eq_true rfl⟩) ⟨fun a U gg mk q => by obtain ⟨q0, q1, qP, qK, qD, qF⟩ := q; exact ⟨q0, q1, qP, va_K.moved (u := U) (U := U.calling gg mk a) (Vm.Alike.refl U.vm) qK, qD, ns_same qF⟩, va_recv hK hP (ci := 1) (q0 := 3) rfl rfl, fun U hU hW => ⟨rfl, by rw [hU], by rw [hU]; exact hPc, va_K.moved hW.alike hKc, hDc.weaken (fun _ _ _ _ => trivial), ns_call hF hS hFc hU hW⟩⟩ rfl rfl hl.1 rfl (lv_room (Nat.le_of_ble_eq_true rfl)) dX16_word_70 ⟨Nat.le_of_ble_eq_true rfl, Nat.le_of_ble_eq_true rfl⟩) hS (fun q _ h => hFc q h) hFc (fun u r9 t H1 locs ht hvm hw hB hz1 hk1 hS => ?_)
  obtain ⟨hr9, hP1, hK1, hD1⟩ := hB
  obtain rfl := hr9.symm
  rw [ht] at hP1
  have hK1 := va_K.moved hvm.symm hK1
  obtain ⟨hP, hD⟩ := va_join (wr := [(h1, .inr (6, [.int 0, .ref (g 0), .int 0])), (h0, .inr (23, [.int 0, .ref h1, v1, v2, v3, v4, v5, v6, .int 0]))]) (w1 := [(q6, .inl (cy7, 16, .inl (upd ((upd ((upd ((upd ((upd ((upd ((fun _ => 0)) 0 (vp_nar .byte (97 + x0).toInt8.toInt32))) 1 (vp_nar .byte (97 + x0).toInt8.toInt32))) 2 (vp_nar .byte (97 + x0).toInt8.toInt32))) 3 (vp_nar .byte (97 + x0).toInt8.toInt32))) 4 (vp_nar .byte (97 + x0).toInt8.toInt32))) 5 (vp_nar .byte (97 + x0).toInt8.toInt32)))), (q5, .inr (1, [.ref q6, .int 0, .int 0, .int 6]))]) hP hD [3, 2] [0, 1] rfl rfl (by decide) (by decide) hk1 hFc hP1 hD1
  have hK := (hK.sub (tys' := []) [] rfl).app hK1
  generalize H1 = H at hP hS ⊢
  have hP : va_P (dC, dI) vwCl [(h1, .inr (6, [.int 0, .ref (g 0), .int 0])), (h0, .inr (23, [.int 0, .ref h1, v1, v2, v3, v4, v5, v6, .int 0])), (q6, .inl (cy7, 16, .inl (upd ((upd ((upd ((upd ((upd ((upd ((fun _ => 0)) 0 (vp_nar .byte (97 + x0).toInt8.toInt32))) 1 (vp_nar .byte (97 + x0).toInt8.toInt32))) 2 (vp_nar .byte (97 + x0).toInt8.toInt32))) 3 (vp_nar .byte (97 + x0).toInt8.toInt32))) 4 (vp_nar .byte (97 + x0).toInt8.toInt32))) 5 (vp_nar .byte (97 + x0).toInt8.toInt32)))), (q5, .inr (1, [.ref q6, .int 0, .int 0, .int 6]))] H := hP
  have hD : va_D A [(h1, .inr (6, [.int 0, .ref (g 0), .int 0])), (h0, .inr (23, [.int 0, .ref h1, v1, v2, v3, v4, v5, v6, .int 0])), (q6, .inl (cy7, 16, .inl (upd ((upd ((upd ((upd ((upd ((upd ((fun _ => 0)) 0 (vp_nar .byte (97 + x0).toInt8.toInt32))) 1 (vp_nar .byte (97 + x0).toInt8.toInt32))) 2 (vp_nar .byte (97 + x0).toInt8.toInt32))) 3 (vp_nar .byte (97 + x0).toInt8.toInt32))) 4 (vp_nar .byte (97 + x0).toInt8.toInt32))) 5 (vp_nar .byte (97 + x0).toInt8.toInt32)))), (q5, .inr (1, [.ref q6, .int 0, .int 0, .int 6]))] := hD
  have hK : va_K (dC, dI) vwCl [(cy7, .byte)] s := hK
  refine W.widen (k := 2) (n := 20) (Nat.le_of_ble_eq_true rfl) (Nat.le_of_ble_eq_true rfl) ?_
  refine lv_pop hx hb dX16_word_73 rfl ?_
  refine lv_iinc (v := 6) (lv' := [(4, .int 6), (3, .ref q5), (0, .ref h0), (1, .int x0), (2, .int 9)]) hx hb dX16_word_74 hl (k := 0) rfl (by decide) (by decide) rfl (fun ls hl => ?_)
  refine lv_goto (tgt := 58) hx hb dX16_word_77 (by decide) ?_
  refine lv_iload hx hb dX16_word_58 (lv_at hl 0 rfl) ?_
  refine lv_iload_n hx hb dX16_word_60 rfl (lv_at hl 4 rfl) ?_
  refine lv_icmp_ge (tgt := 80) hx hb dX16_word_61 (by decide) (fun c20 => absurd c20 (by decide)) (fun c20 => ?_)
  refine lv_aload_n hx hb dX16_word_64 rfl (lv_at hl 1 rfl) ?_
  refine lv_bipush (v := 97) hx hb dX16_word_65 (by decide) ?_
  refine lv_iload_n hx hb dX16_word_67 rfl (lv_at hl 3 rfl) ?_
  refine lv_iadd hx hb dX16_word_68 ?_
  have r21 : (97 + x0).toInt = (97 : Int) + x0.toInt := fb_addI (show (-2147483648 : Int) ≤ (97 : Int) + x0.toInt by omega) (show (97 : Int) + x0.toInt < (2147483648 : Int) by omega)
  refine lv_i2c (v := (97 + x0)) hx hb dX16_word_69 (ns_i2c (show (0 : Int) ≤ (97 + x0).toInt by omega) (by omega)) ?_
  have hPc := hP.sub (ws' := [(q5, .inr (1, [.ref q6, .int 0, .int 0, .int 6])), (q6, .inl (cy7, 16, .inl (upd ((upd ((upd ((upd ((upd ((upd ((fun _ => 0)) 0 (vp_nar .byte (97 + x0).toInt8.toInt32))) 1 (vp_nar .byte (97 + x0).toInt8.toInt32))) 2 (vp_nar .byte (97 + x0).toInt8.toInt32))) 3 (vp_nar .byte (97 + x0).toInt8.toInt32))) 4 (vp_nar .byte (97 + x0).toInt8.toInt32))) 5 (vp_nar .byte (97 + x0).toInt8.toInt32))))]) [3, 2] rfl
  have hDc := hD.sub (ws' := [(q5, .inr (1, [.ref q6, .int 0, .int 0, .int 6])), (q6, .inl (cy7, 16, .inl (upd ((upd ((upd ((upd ((upd ((upd ((fun _ => 0)) 0 (vp_nar .byte (97 + x0).toInt8.toInt32))) 1 (vp_nar .byte (97 + x0).toInt8.toInt32))) 2 (vp_nar .byte (97 + x0).toInt8.toInt32))) 3 (vp_nar .byte (97 + x0).toInt8.toInt32))) 4 (vp_nar .byte (97 + x0).toInt8.toInt32))) 5 (vp_nar .byte (97 + x0).toInt8.toInt32))))]) [3, 2] (by decide) rfl
  have hKc := hK.sub (tys' := [(cy7, .byte)]) [0] rfl
  have hFc := va_free (wc := [(q5, .inr (1, [.ref q6, .int 0, .int 0, .int 6])), (q6, .inl (cy7, 16, .inl (upd ((upd ((upd ((upd ((upd ((upd ((fun _ => 0)) 0 (vp_nar .byte (97 + x0).toInt8.toInt32))) 1 (vp_nar .byte (97 + x0).toInt8.toInt32))) 2 (vp_nar .byte (97 + x0).toInt8.toInt32))) 3 (vp_nar .byte (97 + x0).toInt8.toInt32))) 4 (vp_nar .byte (97 + x0).toInt8.toInt32))) 5 (vp_nar .byte (97 + x0).toInt8.toInt32))))]) hD hS hA [3, 2] rfl
  refine va_callr (va_runV (As := [.int (97 + x0)]) (rest := []) ⟨hx, hb, hml, hown, hts⟩ (kJ4_append_cf468_7 l dC dI g H.size q5 (97 + x0) q6 (.int 0) cy7 (upd ((upd ((upd ((upd ((upd ((upd ((fun _ => 0)) 0 (vp_nar .byte (97 + x0).toInt8.toInt32))) 1 (vp_nar .byte (97 + x0).toInt8.toInt32))) 2 (vp_nar .byte (97 + x0).toInt8.toInt32))) 3 (vp_nar .byte (97 + x0).toInt8.toInt32))) 4 (vp_nar .byte (97 + x0).toInt8.toInt32))) 5 (vp_nar .byte (97 + x0).toInt8.toInt32)) (sb_fitU (sb_fitU (sb_fitU (sb_fitU (sb_fitU (sb_fitU sb_fit0 (pk_fb _)) (pk_fb _)) (pk_fb _)) (pk_fb _)) (pk_fb _)) (pk_fb _)) ⟨by omega, by omega⟩) (cwV 1 hts (ns_gp (List.forall_mem_cons.mpr ⟨wm397, (List.forall_mem_cons.mpr ⟨wm398, (List.forall_mem_cons.mpr ⟨wm399, (List.forall_mem_cons.mpr ⟨wm137, (fun _ h9 => nomatch h9)⟩)⟩)⟩)⟩) wm310) rfl rfl rfl (by decide +kernel) ⟨Nat.le_of_ble_eq_true rfl, Nat.le_of_ble_eq_true rfl⟩) ⟨fun a U gg mk q => by obtain ⟨q0, q1, qP, qK, qD, qF⟩ := q; exact ⟨q0, q1, qP, va_K.moved (u := U) (U := U.calling gg mk a) (Vm.Alike.refl U.vm) qK, qD, ns_same qF⟩, va_recv hK hP (ci := 1) (q0 := 3) rfl rfl, fun U hU hW => ⟨rfl, by rw [hU], by rw [hU]; exact hPc, va_K.moved hW.alike hKc, hDc.weaken (fun _ _ _ _ => trivial), ns_call hF hS hFc hU hW⟩⟩ rfl rfl hl.1 rfl (lv_room (Nat.le_of_ble_eq_true rfl)) dX16_word_70 ⟨Nat.le_of_ble_eq_true rfl, Nat.le_of_ble_eq_true rfl⟩) hS (fun q _ h => hFc q h) hFc (fun u r9 t H1 locs ht hvm hw hB hz1 hk1 hS => ?_)
  obtain ⟨hr9, hP1, hK1, hD1⟩ := hB
  obtain rfl := hr9.symm
  rw [ht] at hP1
  have hK1 := va_K.moved hvm.symm hK1
  obtain ⟨hP, hD⟩ := va_join (wr := [(h1, .inr (6, [.int 0, .ref (g 0), .int 0])), (h0, .inr (23, [.int 0, .ref h1, v1, v2, v3, v4, v5, v6, .int 0]))]) (w1 := [(q6, .inl (cy7, 16, .inl (upd ((upd ((upd ((upd ((upd ((upd ((upd ((fun _ => 0)) 0 (vp_nar .byte (97 + x0).toInt8.toInt32))) 1 (vp_nar .byte (97 + x0).toInt8.toInt32))) 2 (vp_nar .byte (97 + x0).toInt8.toInt32))) 3 (vp_nar .byte (97 + x0).toInt8.toInt32))) 4 (vp_nar .byte (97 + x0).toInt8.toInt32))) 5 (vp_nar .byte (97 + x0).toInt8.toInt32))) 6 (vp_nar .byte (97 + x0).toInt8.toInt32)))), (q5, .inr (1, [.ref q6, .int 0, .int 0, .int 7]))]) hP hD [3, 2] [0, 1] rfl rfl (by decide) (by decide) hk1 hFc hP1 hD1
  have hK := (hK.sub (tys' := []) [] rfl).app hK1
  generalize H1 = H at hP hS ⊢
  have hP : va_P (dC, dI) vwCl [(h1, .inr (6, [.int 0, .ref (g 0), .int 0])), (h0, .inr (23, [.int 0, .ref h1, v1, v2, v3, v4, v5, v6, .int 0])), (q6, .inl (cy7, 16, .inl (upd ((upd ((upd ((upd ((upd ((upd ((upd ((fun _ => 0)) 0 (vp_nar .byte (97 + x0).toInt8.toInt32))) 1 (vp_nar .byte (97 + x0).toInt8.toInt32))) 2 (vp_nar .byte (97 + x0).toInt8.toInt32))) 3 (vp_nar .byte (97 + x0).toInt8.toInt32))) 4 (vp_nar .byte (97 + x0).toInt8.toInt32))) 5 (vp_nar .byte (97 + x0).toInt8.toInt32))) 6 (vp_nar .byte (97 + x0).toInt8.toInt32)))), (q5, .inr (1, [.ref q6, .int 0, .int 0, .int 7]))] H := hP
  have hD : va_D A [(h1, .inr (6, [.int 0, .ref (g 0), .int 0])), (h0, .inr (23, [.int 0, .ref h1, v1, v2, v3, v4, v5, v6, .int 0])), (q6, .inl (cy7, 16, .inl (upd ((upd ((upd ((upd ((upd ((upd ((upd ((fun _ => 0)) 0 (vp_nar .byte (97 + x0).toInt8.toInt32))) 1 (vp_nar .byte (97 + x0).toInt8.toInt32))) 2 (vp_nar .byte (97 + x0).toInt8.toInt32))) 3 (vp_nar .byte (97 + x0).toInt8.toInt32))) 4 (vp_nar .byte (97 + x0).toInt8.toInt32))) 5 (vp_nar .byte (97 + x0).toInt8.toInt32))) 6 (vp_nar .byte (97 + x0).toInt8.toInt32)))), (q5, .inr (1, [.ref q6, .int 0, .int 0, .int 7]))] := hD
  have hK : va_K (dC, dI) vwCl [(cy7, .byte)] s := hK
  refine W.widen (k := 2) (n := 20) (Nat.le_of_ble_eq_true rfl) (Nat.le_of_ble_eq_true rfl) ?_
  refine lv_pop hx hb dX16_word_73 rfl ?_
  refine lv_iinc (v := 7) (lv' := [(4, .int 7), (3, .ref q5), (0, .ref h0), (1, .int x0), (2, .int 9)]) hx hb dX16_word_74 hl (k := 0) rfl (by decide) (by decide) rfl (fun ls hl => ?_)
  refine lv_goto (tgt := 58) hx hb dX16_word_77 (by decide) ?_
  refine lv_iload hx hb dX16_word_58 (lv_at hl 0 rfl) ?_
  refine lv_iload_n hx hb dX16_word_60 rfl (lv_at hl 4 rfl) ?_
  refine lv_icmp_ge (tgt := 80) hx hb dX16_word_61 (by decide) (fun c22 => absurd c22 (by decide)) (fun c22 => ?_)
  refine lv_aload_n hx hb dX16_word_64 rfl (lv_at hl 1 rfl) ?_
  refine lv_bipush (v := 97) hx hb dX16_word_65 (by decide) ?_
  refine lv_iload_n hx hb dX16_word_67 rfl (lv_at hl 3 rfl) ?_
  refine lv_iadd hx hb dX16_word_68 ?_
  have r23 : (97 + x0).toInt = (97 : Int) + x0.toInt := fb_addI (show (-2147483648 : Int) ≤ (97 : Int) + x0.toInt by omega) (show (97 : Int) + x0.toInt < (2147483648 : Int) by omega)
  refine lv_i2c (v := (97 + x0)) hx hb dX16_word_69 (ns_i2c (show (0 : Int) ≤ (97 + x0).toInt by omega) (by omega)) ?_
  have hPc := hP.sub (ws' := [(q5, .inr (1, [.ref q6, .int 0, .int 0, .int 7])), (q6, .inl (cy7, 16, .inl (upd ((upd ((upd ((upd ((upd ((upd ((upd ((fun _ => 0)) 0 (vp_nar .byte (97 + x0).toInt8.toInt32))) 1 (vp_nar .byte (97 + x0).toInt8.toInt32))) 2 (vp_nar .byte (97 + x0).toInt8.toInt32))) 3 (vp_nar .byte (97 + x0).toInt8.toInt32))) 4 (vp_nar .byte (97 + x0).toInt8.toInt32))) 5 (vp_nar .byte (97 + x0).toInt8.toInt32))) 6 (vp_nar .byte (97 + x0).toInt8.toInt32))))]) [3, 2] rfl
  have hDc := hD.sub (ws' := [(q5, .inr (1, [.ref q6, .int 0, .int 0, .int 7])), (q6, .inl (cy7, 16, .inl (upd ((upd ((upd ((upd ((upd ((upd ((upd ((fun _ => 0)) 0 (vp_nar .byte (97 + x0).toInt8.toInt32))) 1 (vp_nar .byte (97 + x0).toInt8.toInt32))) 2 (vp_nar .byte (97 + x0).toInt8.toInt32))) 3 (vp_nar .byte (97 + x0).toInt8.toInt32))) 4 (vp_nar .byte (97 + x0).toInt8.toInt32))) 5 (vp_nar .byte (97 + x0).toInt8.toInt32))) 6 (vp_nar .byte (97 + x0).toInt8.toInt32))))]) [3, 2] (by decide) rfl
  have hKc := hK.sub (tys' := [(cy7, .byte)]) [0] rfl
  have hFc := va_free (wc := [(q5, .inr (1, [.ref q6, .int 0, .int 0, .int 7])), (q6, .inl (cy7, 16, .inl (upd ((upd ((upd ((upd ((upd ((upd ((upd ((fun _ => 0)) 0 (vp_nar .byte (97 + x0).toInt8.toInt32))) 1 (vp_nar .byte (97 + x0).toInt8.toInt32))) 2 (vp_nar .byte (97 + x0).toInt8.toInt32))) 3 (vp_nar .byte (97 + x0).toInt8.toInt32))) 4 (vp_nar .byte (97 + x0).toInt8.toInt32))) 5 (vp_nar .byte (97 + x0).toInt8.toInt32))) 6 (vp_nar .byte (97 + x0).toInt8.toInt32))))]) hD hS hA [3, 2] rfl
  refine va_callr (va_runV (As := [.int (97 + x0)]) (rest := []) ⟨hx, hb, hml, hown, hts⟩ (kJ4_append_cf468_8 l dC dI g H.size q5 (97 + x0) q6 (.int 0) cy7 (upd ((upd ((upd ((upd ((upd ((upd ((upd ((fun _ => 0)) 0 (vp_nar .byte (97 + x0).toInt8.toInt32))) 1 (vp_nar .byte (97 + x0).toInt8.toInt32))) 2 (vp_nar .byte (97 + x0).toInt8.toInt32))) 3 (vp_nar .byte (97 + x0).toInt8.toInt32))) 4 (vp_nar .byte (97 + x0).toInt8.toInt32))) 5 (vp_nar .byte (97 + x0).toInt8.toInt32))) 6 (vp_nar .byte (97 + x0).toInt8.toInt32)) (sb_fitU (sb_fitU (sb_fitU (sb_fitU (sb_fitU (sb_fitU (sb_fitU sb_fit0 (pk_fb _)) (pk_fb _)) (pk_fb _)) (pk_fb _)) (pk_fb _)) (pk_fb _)) (pk_fb _)) ⟨by omega, by omega⟩) (cwV 1 hts (ns_gp (List.forall_mem_cons.mpr ⟨wm397, (List.forall_mem_cons.mpr ⟨wm398, (List.forall_mem_cons.mpr ⟨wm399, (List.forall_mem_cons.mpr ⟨wm137, (fun _ h9 => nomatch h9)⟩)⟩)⟩)⟩) wm310) rfl rfl rfl (by decide +kernel) ⟨Nat.le_of_ble_eq_true rfl, Nat.le_of_ble_eq_true rfl⟩) ⟨fun a U gg mk q => by obtain ⟨q0, q1, qP, qK, qD, qF⟩ := q; exact ⟨q0, q1, qP, va_K.moved (u := U) (U := U.calling gg mk a) (Vm.Alike.refl U.vm) qK, qD, ns_same qF⟩, va_recv hK hP (ci := 1) (q0 := 3) rfl rfl, fun U hU hW => ⟨rfl, by rw [hU], by rw [hU]; exact hPc, va_K.moved hW.alike hKc, hDc.weaken (fun _ _ _ _ => trivial), ns_call hF hS hFc hU hW⟩⟩ rfl rfl hl.1 rfl (lv_room (Nat.le_of_ble_eq_true rfl)) dX16_word_70 ⟨Nat.le_of_ble_eq_true rfl, Nat.le_of_ble_eq_true rfl⟩) hS (fun q _ h => hFc q h) hFc (fun u r9 t H1 locs ht hvm hw hB hz1 hk1 hS => ?_)
  obtain ⟨hr9, hP1, hK1, hD1⟩ := hB
  obtain rfl := hr9.symm
  rw [ht] at hP1
  have hK1 := va_K.moved hvm.symm hK1
  obtain ⟨hP, hD⟩ := va_join (wr := [(h1, .inr (6, [.int 0, .ref (g 0), .int 0])), (h0, .inr (23, [.int 0, .ref h1, v1, v2, v3, v4, v5, v6, .int 0]))]) (w1 := [(q6, .inl (cy7, 16, .inl (upd ((upd ((upd ((upd ((upd ((upd ((upd ((upd ((fun _ => 0)) 0 (vp_nar .byte (97 + x0).toInt8.toInt32))) 1 (vp_nar .byte (97 + x0).toInt8.toInt32))) 2 (vp_nar .byte (97 + x0).toInt8.toInt32))) 3 (vp_nar .byte (97 + x0).toInt8.toInt32))) 4 (vp_nar .byte (97 + x0).toInt8.toInt32))) 5 (vp_nar .byte (97 + x0).toInt8.toInt32))) 6 (vp_nar .byte (97 + x0).toInt8.toInt32))) 7 (vp_nar .byte (97 + x0).toInt8.toInt32)))), (q5, .inr (1, [.ref q6, .int 0, .int 0, .int 8]))]) hP hD [3, 2] [0, 1] rfl rfl (by decide) (by decide) hk1 hFc hP1 hD1
  have hK := (hK.sub (tys' := []) [] rfl).app hK1
  generalize H1 = H at hP hS ⊢
  have hP : va_P (dC, dI) vwCl [(h1, .inr (6, [.int 0, .ref (g 0), .int 0])), (h0, .inr (23, [.int 0, .ref h1, v1, v2, v3, v4, v5, v6, .int 0])), (q6, .inl (cy7, 16, .inl (upd ((upd ((upd ((upd ((upd ((upd ((upd ((upd ((fun _ => 0)) 0 (vp_nar .byte (97 + x0).toInt8.toInt32))) 1 (vp_nar .byte (97 + x0).toInt8.toInt32))) 2 (vp_nar .byte (97 + x0).toInt8.toInt32))) 3 (vp_nar .byte (97 + x0).toInt8.toInt32))) 4 (vp_nar .byte (97 + x0).toInt8.toInt32))) 5 (vp_nar .byte (97 + x0).toInt8.toInt32))) 6 (vp_nar .byte (97 + x0).toInt8.toInt32))) 7 (vp_nar .byte (97 + x0).toInt8.toInt32)))), (q5, .inr (1, [.ref q6, .int 0, .int 0, .int 8]))] H := hP
  have hD : va_D A [(h1, .inr (6, [.int 0, .ref (g 0), .int 0])), (h0, .inr (23, [.int 0, .ref h1, v1, v2, v3, v4, v5, v6, .int 0])), (q6, .inl (cy7, 16, .inl (upd ((upd ((upd ((upd ((upd ((upd ((upd ((upd ((fun _ => 0)) 0 (vp_nar .byte (97 + x0).toInt8.toInt32))) 1 (vp_nar .byte (97 + x0).toInt8.toInt32))) 2 (vp_nar .byte (97 + x0).toInt8.toInt32))) 3 (vp_nar .byte (97 + x0).toInt8.toInt32))) 4 (vp_nar .byte (97 + x0).toInt8.toInt32))) 5 (vp_nar .byte (97 + x0).toInt8.toInt32))) 6 (vp_nar .byte (97 + x0).toInt8.toInt32))) 7 (vp_nar .byte (97 + x0).toInt8.toInt32)))), (q5, .inr (1, [.ref q6, .int 0, .int 0, .int 8]))] := hD
  have hK : va_K (dC, dI) vwCl [(cy7, .byte)] s := hK
  refine W.widen (k := 2) (n := 20) (Nat.le_of_ble_eq_true rfl) (Nat.le_of_ble_eq_true rfl) ?_
  refine lv_pop hx hb dX16_word_73 rfl ?_
  refine lv_iinc (v := 8) (lv' := [(4, .int 8), (3, .ref q5), (0, .ref h0), (1, .int x0), (2, .int 9)]) hx hb dX16_word_74 hl (k := 0) rfl (by decide) (by decide) rfl (fun ls hl => ?_)
  refine lv_goto (tgt := 58) hx hb dX16_word_77 (by decide) ?_
  refine lv_iload hx hb dX16_word_58 (lv_at hl 0 rfl) ?_
  refine lv_iload_n hx hb dX16_word_60 rfl (lv_at hl 4 rfl) ?_
  refine lv_icmp_ge (tgt := 80) hx hb dX16_word_61 (by decide) (fun c24 => absurd c24 (by decide)) (fun c24 => ?_)
  refine lv_aload_n hx hb dX16_word_64 rfl (lv_at hl 1 rfl) ?_
  refine lv_bipush (v := 97) hx hb dX16_word_65 (by decide) ?_
  refine lv_iload_n hx hb dX16_word_67 rfl (lv_at hl 3 rfl) ?_
  refine lv_iadd hx hb dX16_word_68 ?_
  have r25 : (97 + x0).toInt = (97 : Int) + x0.toInt := fb_addI (show (-2147483648 : Int) ≤ (97 : Int) + x0.toInt by omega) (show (97 : Int) + x0.toInt < (2147483648 : Int) by omega)
  refine lv_i2c (v := (97 + x0)) hx hb dX16_word_69 (ns_i2c (show (0 : Int) ≤ (97 + x0).toInt by omega) (by omega)) ?_
  have hPc := hP.sub (ws' := [(q5, .inr (1, [.ref q6, .int 0, .int 0, .int 8])), (q6, .inl (cy7, 16, .inl (upd ((upd ((upd ((upd ((upd ((upd ((upd ((upd ((fun _ => 0)) 0 (vp_nar .byte (97 + x0).toInt8.toInt32))) 1 (vp_nar .byte (97 + x0).toInt8.toInt32))) 2 (vp_nar .byte (97 + x0).toInt8.toInt32))) 3 (vp_nar .byte (97 + x0).toInt8.toInt32))) 4 (vp_nar .byte (97 + x0).toInt8.toInt32))) 5 (vp_nar .byte (97 + x0).toInt8.toInt32))) 6 (vp_nar .byte (97 + x0).toInt8.toInt32))) 7 (vp_nar .byte (97 + x0).toInt8.toInt32))))]) [3, 2] rfl
  have hDc := hD.sub (ws' := [(q5, .inr (1, [.ref q6, .int 0, .int 0, .int 8])), (q6, .inl (cy7, 16, .inl (upd ((upd ((upd ((upd ((upd ((upd ((upd ((upd ((fun _ => 0)) 0 (vp_nar .byte (97 + x0).toInt8.toInt32))) 1 (vp_nar .byte (97 + x0).toInt8.toInt32))) 2 (vp_nar .byte (97 + x0).toInt8.toInt32))) 3 (vp_nar .byte (97 + x0).toInt8.toInt32))) 4 (vp_nar .byte (97 + x0).toInt8.toInt32))) 5 (vp_nar .byte (97 + x0).toInt8.toInt32))) 6 (vp_nar .byte (97 + x0).toInt8.toInt32))) 7 (vp_nar .byte (97 + x0).toInt8.toInt32))))]) [3, 2] (by decide) rfl
  have hKc := hK.sub (tys' := [(cy7, .byte)]) [0] rfl
  have hFc := va_free (wc := [(q5, .inr (1, [.ref q6, .int 0, .int 0, .int 8])), (q6, .inl (cy7, 16, .inl (upd ((upd ((upd ((upd ((upd ((upd ((upd ((upd ((fun _ => 0)) 0 (vp_nar .byte (97 + x0).toInt8.toInt32))) 1 (vp_nar .byte (97 + x0).toInt8.toInt32))) 2 (vp_nar .byte (97 + x0).toInt8.toInt32))) 3 (vp_nar .byte (97 + x0).toInt8.toInt32))) 4 (vp_nar .byte (97 + x0).toInt8.toInt32))) 5 (vp_nar .byte (97 + x0).toInt8.toInt32))) 6 (vp_nar .byte (97 + x0).toInt8.toInt32))) 7 (vp_nar .byte (97 + x0).toInt8.toInt32))))]) hD hS hA [3, 2] rfl
  refine va_callr (va_runV (As := [.int (97 + x0)]) (rest := []) ⟨hx, hb, hml, hown, hts⟩ (kJ4_append_cf468_9 l dC dI g H.size q5 (97 + x0) q6 (.int 0) cy7 (upd ((upd ((upd ((upd ((upd ((upd ((upd ((upd ((fun _ => 0)) 0 (vp_nar .byte (97 + x0).toInt8.toInt32))) 1 (vp_nar .byte (97 + x0).toInt8.toInt32))) 2 (vp_nar .byte (97 + x0).toInt8.toInt32))) 3 (vp_nar .byte (97 + x0).toInt8.toInt32))) 4 (vp_nar .byte (97 + x0).toInt8.toInt32))) 5 (vp_nar .byte (97 + x0).toInt8.toInt32))) 6 (vp_nar .byte (97 + x0).toInt8.toInt32))) 7 (vp_nar .byte (97 + x0).toInt8.toInt32)) (sb_fitU (sb_fitU (sb_fitU (sb_fitU (sb_fitU (sb_fitU (sb_fitU (sb_fitU sb_fit0 (pk_fb _)) (pk_fb _)) (pk_fb _)) (pk_fb _)) (pk_fb _)) (pk_fb _)) (pk_fb _)) (pk_fb _)) ⟨by omega, by omega⟩) (cwV 1 hts (ns_gp (List.forall_mem_cons.mpr ⟨wm397, (List.forall_mem_cons.mpr ⟨wm398, (List.forall_mem_cons.mpr ⟨wm399, (List.forall_mem_cons.mpr ⟨wm137, (fun _ h9 => nomatch h9)⟩)⟩)⟩)⟩) wm310) rfl rfl rfl (by decide +kernel) ⟨Nat.le_of_ble_eq_true rfl, Nat.le_of_ble_eq_true rfl⟩) ⟨fun a U gg mk q => by obtain ⟨q0, q1, qP, qK, qD, qF⟩ := q; exact ⟨q0, q1, qP, va_K.moved (u := U) (U := U.calling gg mk a) (Vm.Alike.refl U.vm) qK, qD, ns_same qF⟩, va_recv hK hP (ci := 1) (q0 := 3) rfl rfl, fun U hU hW => ⟨rfl, by rw [hU], by rw [hU]; exact hPc, va_K.moved hW.alike hKc, hDc.weaken (fun _ _ _ _ => trivial), ns_call hF hS hFc hU hW⟩⟩ rfl rfl hl.1 rfl (lv_room (Nat.le_of_ble_eq_true rfl)) dX16_word_70 ⟨Nat.le_of_ble_eq_true rfl, Nat.le_of_ble_eq_true rfl⟩) hS (fun q _ h => hFc q h) hFc (fun u r9 t H1 locs ht hvm hw hB hz1 hk1 hS => ?_)
  obtain ⟨hr9, hP1, hK1, hD1⟩ := hB
  obtain rfl := hr9.symm
  rw [ht] at hP1
  have hK1 := va_K.moved hvm.symm hK1
  obtain ⟨hP, hD⟩ := va_join (wr := [(h1, .inr (6, [.int 0, .ref (g 0), .int 0])), (h0, .inr (23, [.int 0, .ref h1, v1, v2, v3, v4, v5, v6, .int 0]))]) (w1 := [(q6, .inl (cy7, 16, .inl (upd ((upd ((upd ((upd ((upd ((upd ((upd ((upd ((upd ((fun _ => 0)) 0 (vp_nar .byte (97 + x0).toInt8.toInt32))) 1 (vp_nar .byte (97 + x0).toInt8.toInt32))) 2 (vp_nar .byte (97 + x0).toInt8.toInt32))) 3 (vp_nar .byte (97 + x0).toInt8.toInt32))) 4 (vp_nar .byte (97 + x0).toInt8.toInt32))) 5 (vp_nar .byte (97 + x0).toInt8.toInt32))) 6 (vp_nar .byte (97 + x0).toInt8.toInt32))) 7 (vp_nar .byte (97 + x0).toInt8.toInt32))) 8 (vp_nar .byte (97 + x0).toInt8.toInt32)))), (q5, .inr (1, [.ref q6, .int 0, .int 0, .int 9]))]) hP hD [3, 2] [0, 1] rfl rfl (by decide) (by decide) hk1 hFc hP1 hD1
  have hK := (hK.sub (tys' := []) [] rfl).app hK1
  generalize H1 = H at hP hS ⊢
  have hP : va_P (dC, dI) vwCl [(h1, .inr (6, [.int 0, .ref (g 0), .int 0])), (h0, .inr (23, [.int 0, .ref h1, v1, v2, v3, v4, v5, v6, .int 0])), (q6, .inl (cy7, 16, .inl (upd ((upd ((upd ((upd ((upd ((upd ((upd ((upd ((upd ((fun _ => 0)) 0 (vp_nar .byte (97 + x0).toInt8.toInt32))) 1 (vp_nar .byte (97 + x0).toInt8.toInt32))) 2 (vp_nar .byte (97 + x0).toInt8.toInt32))) 3 (vp_nar .byte (97 + x0).toInt8.toInt32))) 4 (vp_nar .byte (97 + x0).toInt8.toInt32))) 5 (vp_nar .byte (97 + x0).toInt8.toInt32))) 6 (vp_nar .byte (97 + x0).toInt8.toInt32))) 7 (vp_nar .byte (97 + x0).toInt8.toInt32))) 8 (vp_nar .byte (97 + x0).toInt8.toInt32)))), (q5, .inr (1, [.ref q6, .int 0, .int 0, .int 9]))] H := hP
  have hD : va_D A [(h1, .inr (6, [.int 0, .ref (g 0), .int 0])), (h0, .inr (23, [.int 0, .ref h1, v1, v2, v3, v4, v5, v6, .int 0])), (q6, .inl (cy7, 16, .inl (upd ((upd ((upd ((upd ((upd ((upd ((upd ((upd ((upd ((fun _ => 0)) 0 (vp_nar .byte (97 + x0).toInt8.toInt32))) 1 (vp_nar .byte (97 + x0).toInt8.toInt32))) 2 (vp_nar .byte (97 + x0).toInt8.toInt32))) 3 (vp_nar .byte (97 + x0).toInt8.toInt32))) 4 (vp_nar .byte (97 + x0).toInt8.toInt32))) 5 (vp_nar .byte (97 + x0).toInt8.toInt32))) 6 (vp_nar .byte (97 + x0).toInt8.toInt32))) 7 (vp_nar .byte (97 + x0).toInt8.toInt32))) 8 (vp_nar .byte (97 + x0).toInt8.toInt32)))), (q5, .inr (1, [.ref q6, .int 0, .int 0, .int 9]))] := hD
  have hK : va_K (dC, dI) vwCl [(cy7, .byte)] s := hK
  refine W.widen (k := 2) (n := 20) (Nat.le_of_ble_eq_true rfl) (Nat.le_of_ble_eq_true rfl) ?_
  refine lv_pop hx hb dX16_word_73 rfl ?_
  refine lv_iinc (v := 9) (lv' := [(4, .int 9), (3, .ref q5), (0, .ref h0), (1, .int x0), (2, .int 9)]) hx hb dX16_word_74 hl (k := 0) rfl (by decide) (by decide) rfl (fun ls hl => ?_)
  refine lv_goto (tgt := 58) hx hb dX16_word_77 (by decide) ?_
  refine lv_iload hx hb dX16_word_58 (lv_at hl 0 rfl) ?_
  refine lv_iload_n hx hb dX16_word_60 rfl (lv_at hl 4 rfl) ?_
  refine lv_icmp_ge (tgt := 80) hx hb dX16_word_61 (by decide) (fun c26 => ?_) (fun c26 => absurd (by decide) c26)
  refine lv_aload_n hx hb dX16_word_80 rfl (lv_at hl 2 rfl) ?_
  refine va_new (ci := 18) (fs := [.int 0, .null, .int 0, .null]) (C := RX11) (T := TX11) (N := 4) hx hb hta naX11 tyX11 tyX11_ok hown (hta _ wm311) (hta _ wm312) (hta _ wm313) hK hP hD hS hA rfl (fun j hj => by rcases (show j = 0 ∨ j = 1 ∨ j = 2 ∨ j = 3 by omega) with rfl | rfl | rfl | rfl <;> rfl) (Nat.le_of_ble_eq_true rfl) (Nat.le_of_ble_eq_true rfl) dX16_word_81 (fun q27 H hP hD hS => ?_)
  have hP : va_P (dC, dI) vwCl [(h1, .inr (6, [.int 0, .ref (g 0), .int 0])), (h0, .inr (23, [.int 0, .ref h1, v1, v2, v3, v4, v5, v6, .int 0])), (q6, .inl (cy7, 16, .inl (upd ((upd ((upd ((upd ((upd ((upd ((upd ((upd ((upd ((fun _ => 0)) 0 (vp_nar .byte (97 + x0).toInt8.toInt32))) 1 (vp_nar .byte (97 + x0).toInt8.toInt32))) 2 (vp_nar .byte (97 + x0).toInt8.toInt32))) 3 (vp_nar .byte (97 + x0).toInt8.toInt32))) 4 (vp_nar .byte (97 + x0).toInt8.toInt32))) 5 (vp_nar .byte (97 + x0).toInt8.toInt32))) 6 (vp_nar .byte (97 + x0).toInt8.toInt32))) 7 (vp_nar .byte (97 + x0).toInt8.toInt32))) 8 (vp_nar .byte (97 + x0).toInt8.toInt32)))), (q5, .inr (1, [.ref q6, .int 0, .int 0, .int 9])), (q27, .inr (18, [.int 0, .null, .int 0, .null]))] H := hP
  have hD : va_D A [(h1, .inr (6, [.int 0, .ref (g 0), .int 0])), (h0, .inr (23, [.int 0, .ref h1, v1, v2, v3, v4, v5, v6, .int 0])), (q6, .inl (cy7, 16, .inl (upd ((upd ((upd ((upd ((upd ((upd ((upd ((upd ((upd ((fun _ => 0)) 0 (vp_nar .byte (97 + x0).toInt8.toInt32))) 1 (vp_nar .byte (97 + x0).toInt8.toInt32))) 2 (vp_nar .byte (97 + x0).toInt8.toInt32))) 3 (vp_nar .byte (97 + x0).toInt8.toInt32))) 4 (vp_nar .byte (97 + x0).toInt8.toInt32))) 5 (vp_nar .byte (97 + x0).toInt8.toInt32))) 6 (vp_nar .byte (97 + x0).toInt8.toInt32))) 7 (vp_nar .byte (97 + x0).toInt8.toInt32))) 8 (vp_nar .byte (97 + x0).toInt8.toInt32)))), (q5, .inr (1, [.ref q6, .int 0, .int 0, .int 9])), (q27, .inr (18, [.int 0, .null, .int 0, .null]))] := hD
  refine W.widen (k := 3) (n := 24) (Nat.le_of_ble_eq_true rfl) (Nat.le_of_ble_eq_true rfl) ?_
  refine lv_dup hx hb dX16_word_84 rfl ?_
  refine lv_iconst (v := 0) hx hb dX16_word_85 (by decide) ?_
  refine lv_aload_n hx hb dX16_word_86 rfl (lv_at hl 1 rfl) ?_
  have hPc := hP.sub (ws' := [(q5, .inr (1, [.ref q6, .int 0, .int 0, .int 9])), (q6, .inl (cy7, 16, .inl (upd ((upd ((upd ((upd ((upd ((upd ((upd ((upd ((upd ((fun _ => 0)) 0 (vp_nar .byte (97 + x0).toInt8.toInt32))) 1 (vp_nar .byte (97 + x0).toInt8.toInt32))) 2 (vp_nar .byte (97 + x0).toInt8.toInt32))) 3 (vp_nar .byte (97 + x0).toInt8.toInt32))) 4 (vp_nar .byte (97 + x0).toInt8.toInt32))) 5 (vp_nar .byte (97 + x0).toInt8.toInt32))) 6 (vp_nar .byte (97 + x0).toInt8.toInt32))) 7 (vp_nar .byte (97 + x0).toInt8.toInt32))) 8 (vp_nar .byte (97 + x0).toInt8.toInt32))))]) [3, 2] rfl
  have hDc := hD.sub (ws' := [(q5, .inr (1, [.ref q6, .int 0, .int 0, .int 9])), (q6, .inl (cy7, 16, .inl (upd ((upd ((upd ((upd ((upd ((upd ((upd ((upd ((upd ((fun _ => 0)) 0 (vp_nar .byte (97 + x0).toInt8.toInt32))) 1 (vp_nar .byte (97 + x0).toInt8.toInt32))) 2 (vp_nar .byte (97 + x0).toInt8.toInt32))) 3 (vp_nar .byte (97 + x0).toInt8.toInt32))) 4 (vp_nar .byte (97 + x0).toInt8.toInt32))) 5 (vp_nar .byte (97 + x0).toInt8.toInt32))) 6 (vp_nar .byte (97 + x0).toInt8.toInt32))) 7 (vp_nar .byte (97 + x0).toInt8.toInt32))) 8 (vp_nar .byte (97 + x0).toInt8.toInt32))))]) [3, 2] (by decide) rfl
  have hKc := hK.sub (tys' := [(cy7, .byte)]) [0] rfl
  have hFc := va_free (wc := [(q5, .inr (1, [.ref q6, .int 0, .int 0, .int 9])), (q6, .inl (cy7, 16, .inl (upd ((upd ((upd ((upd ((upd ((upd ((upd ((upd ((upd ((fun _ => 0)) 0 (vp_nar .byte (97 + x0).toInt8.toInt32))) 1 (vp_nar .byte (97 + x0).toInt8.toInt32))) 2 (vp_nar .byte (97 + x0).toInt8.toInt32))) 3 (vp_nar .byte (97 + x0).toInt8.toInt32))) 4 (vp_nar .byte (97 + x0).toInt8.toInt32))) 5 (vp_nar .byte (97 + x0).toInt8.toInt32))) 6 (vp_nar .byte (97 + x0).toInt8.toInt32))) 7 (vp_nar .byte (97 + x0).toInt8.toInt32))) 8 (vp_nar .byte (97 + x0).toInt8.toInt32))))]) hD hS hA [3, 2] rfl
  refine va_callr (va_runV (As := []) (rest := [.int 0, .ref q27, .ref q27, .ref h0]) ⟨hx, hb, hml, hown, hts⟩ (kJ4_toString_0e30d_9 l dC dI g H.size q5 q6 (.int 0) cy7 (upd ((upd ((upd ((upd ((upd ((upd ((upd ((upd ((upd ((fun _ => 0)) 0 (vp_nar .byte (97 + x0).toInt8.toInt32))) 1 (vp_nar .byte (97 + x0).toInt8.toInt32))) 2 (vp_nar .byte (97 + x0).toInt8.toInt32))) 3 (vp_nar .byte (97 + x0).toInt8.toInt32))) 4 (vp_nar .byte (97 + x0).toInt8.toInt32))) 5 (vp_nar .byte (97 + x0).toInt8.toInt32))) 6 (vp_nar .byte (97 + x0).toInt8.toInt32))) 7 (vp_nar .byte (97 + x0).toInt8.toInt32))) 8 (vp_nar .byte (97 + x0).toInt8.toInt32)) (sb_fitU (sb_fitU (sb_fitU (sb_fitU (sb_fitU (sb_fitU (sb_fitU (sb_fitU (sb_fitU sb_fit0 (pk_fb _)) (pk_fb _)) (pk_fb _)) (pk_fb _)) (pk_fb _)) (pk_fb _)) (pk_fb _)) (pk_fb _)) (pk_fb _)) ) (cwV 0 hts (ns_gp (List.forall_mem_cons.mpr ⟨wm400, (List.forall_mem_cons.mpr ⟨wm401, (List.forall_mem_cons.mpr ⟨wm402, (List.forall_mem_cons.mpr ⟨wm137, (fun _ h9 => nomatch h9)⟩)⟩)⟩)⟩) wm360) rfl rfl rfl (by decide +kernel) ⟨Nat.le_of_ble_eq_true rfl, Nat.le_of_ble_eq_true rfl⟩) ⟨fun a U gg mk q => by obtain ⟨q0, q1, qP, qK, qD, qF⟩ := q; exact ⟨q0, q1, qP, va_K.moved (u := U) (U := U.calling gg mk a) (Vm.Alike.refl U.vm) qK, qD, ns_same qF⟩, va_recv hK hP (ci := 1) (q0 := 3) rfl rfl, fun U hU hW => ⟨rfl, by rw [hU], by rw [hU]; exact hPc, va_K.moved hW.alike hKc, hDc.weaken (fun _ _ _ _ => trivial), ns_call hF hS hFc hU hW⟩⟩ rfl rfl hl.1 rfl (lv_room (Nat.le_of_ble_eq_true rfl)) dX16_word_87 ⟨Nat.le_of_ble_eq_true rfl, Nat.le_of_ble_eq_true rfl⟩) hS (fun q _ h => hFc q h) hFc (fun u r9 t H1 locs ht hvm hw hB hz1 hk1 hS => ?_)
  obtain ⟨q28, q29, cy30, hr9, hP1, hK1, hD1⟩ := hB
  obtain rfl := hr9.symm
  rw [ht] at hP1
  have hK1 := va_K.moved hvm.symm hK1
  obtain ⟨hP, hD⟩ := va_join (wr := [(h1, .inr (6, [.int 0, .ref (g 0), .int 0])), (h0, .inr (23, [.int 0, .ref h1, v1, v2, v3, v4, v5, v6, .int 0])), (q27, .inr (18, [.int 0, .null, .int 0, .null]))]) (w1 := [(q28, .inr (0, [.ref q29, .int 0, .int 0, .int 0])), (q5, .inr (1, [.ref q6, .int 0, .int 0, .int 9])), (q6, .inl (cy7, 16, .inl (upd ((upd ((upd ((upd ((upd ((upd ((upd ((upd ((upd ((fun _ => 0)) 0 (vp_nar .byte (97 + x0).toInt8.toInt32))) 1 (vp_nar .byte (97 + x0).toInt8.toInt32))) 2 (vp_nar .byte (97 + x0).toInt8.toInt32))) 3 (vp_nar .byte (97 + x0).toInt8.toInt32))) 4 (vp_nar .byte (97 + x0).toInt8.toInt32))) 5 (vp_nar .byte (97 + x0).toInt8.toInt32))) 6 (vp_nar .byte (97 + x0).toInt8.toInt32))) 7 (vp_nar .byte (97 + x0).toInt8.toInt32))) 8 (vp_nar .byte (97 + x0).toInt8.toInt32)))), (q29, .inl (cy30, 9, .inl (va_cpy ((upd ((upd ((upd ((upd ((upd ((upd ((upd ((upd ((upd ((fun _ => 0)) 0 (vp_nar .byte (97 + x0).toInt8.toInt32))) 1 (vp_nar .byte (97 + x0).toInt8.toInt32))) 2 (vp_nar .byte (97 + x0).toInt8.toInt32))) 3 (vp_nar .byte (97 + x0).toInt8.toInt32))) 4 (vp_nar .byte (97 + x0).toInt8.toInt32))) 5 (vp_nar .byte (97 + x0).toInt8.toInt32))) 6 (vp_nar .byte (97 + x0).toInt8.toInt32))) 7 (vp_nar .byte (97 + x0).toInt8.toInt32))) 8 (vp_nar .byte (97 + x0).toInt8.toInt32))) (fun _ => 0) 0 0 9)))]) hP hD [3, 2] [0, 1, 4] rfl rfl (by decide) (by decide) hk1 hFc hP1 hD1
  have hK := (hK.sub (tys' := []) [] rfl).app hK1
  generalize H1 = H at hP hS ⊢
  have hP : va_P (dC, dI) vwCl [(h1, .inr (6, [.int 0, .ref (g 0), .int 0])), (h0, .inr (23, [.int 0, .ref h1, v1, v2, v3, v4, v5, v6, .int 0])), (q27, .inr (18, [.int 0, .null, .int 0, .null])), (q28, .inr (0, [.ref q29, .int 0, .int 0, .int 0])), (q5, .inr (1, [.ref q6, .int 0, .int 0, .int 9])), (q6, .inl (cy7, 16, .inl (upd ((upd ((upd ((upd ((upd ((upd ((upd ((upd ((upd ((fun _ => 0)) 0 (vp_nar .byte (97 + x0).toInt8.toInt32))) 1 (vp_nar .byte (97 + x0).toInt8.toInt32))) 2 (vp_nar .byte (97 + x0).toInt8.toInt32))) 3 (vp_nar .byte (97 + x0).toInt8.toInt32))) 4 (vp_nar .byte (97 + x0).toInt8.toInt32))) 5 (vp_nar .byte (97 + x0).toInt8.toInt32))) 6 (vp_nar .byte (97 + x0).toInt8.toInt32))) 7 (vp_nar .byte (97 + x0).toInt8.toInt32))) 8 (vp_nar .byte (97 + x0).toInt8.toInt32)))), (q29, .inl (cy30, 9, .inl (va_cpy ((upd ((upd ((upd ((upd ((upd ((upd ((upd ((upd ((upd ((fun _ => 0)) 0 (vp_nar .byte (97 + x0).toInt8.toInt32))) 1 (vp_nar .byte (97 + x0).toInt8.toInt32))) 2 (vp_nar .byte (97 + x0).toInt8.toInt32))) 3 (vp_nar .byte (97 + x0).toInt8.toInt32))) 4 (vp_nar .byte (97 + x0).toInt8.toInt32))) 5 (vp_nar .byte (97 + x0).toInt8.toInt32))) 6 (vp_nar .byte (97 + x0).toInt8.toInt32))) 7 (vp_nar .byte (97 + x0).toInt8.toInt32))) 8 (vp_nar .byte (97 + x0).toInt8.toInt32))) (fun _ => 0) 0 0 9)))] H := hP
  have hD : va_D A [(h1, .inr (6, [.int 0, .ref (g 0), .int 0])), (h0, .inr (23, [.int 0, .ref h1, v1, v2, v3, v4, v5, v6, .int 0])), (q27, .inr (18, [.int 0, .null, .int 0, .null])), (q28, .inr (0, [.ref q29, .int 0, .int 0, .int 0])), (q5, .inr (1, [.ref q6, .int 0, .int 0, .int 9])), (q6, .inl (cy7, 16, .inl (upd ((upd ((upd ((upd ((upd ((upd ((upd ((upd ((upd ((fun _ => 0)) 0 (vp_nar .byte (97 + x0).toInt8.toInt32))) 1 (vp_nar .byte (97 + x0).toInt8.toInt32))) 2 (vp_nar .byte (97 + x0).toInt8.toInt32))) 3 (vp_nar .byte (97 + x0).toInt8.toInt32))) 4 (vp_nar .byte (97 + x0).toInt8.toInt32))) 5 (vp_nar .byte (97 + x0).toInt8.toInt32))) 6 (vp_nar .byte (97 + x0).toInt8.toInt32))) 7 (vp_nar .byte (97 + x0).toInt8.toInt32))) 8 (vp_nar .byte (97 + x0).toInt8.toInt32)))), (q29, .inl (cy30, 9, .inl (va_cpy ((upd ((upd ((upd ((upd ((upd ((upd ((upd ((upd ((upd ((fun _ => 0)) 0 (vp_nar .byte (97 + x0).toInt8.toInt32))) 1 (vp_nar .byte (97 + x0).toInt8.toInt32))) 2 (vp_nar .byte (97 + x0).toInt8.toInt32))) 3 (vp_nar .byte (97 + x0).toInt8.toInt32))) 4 (vp_nar .byte (97 + x0).toInt8.toInt32))) 5 (vp_nar .byte (97 + x0).toInt8.toInt32))) 6 (vp_nar .byte (97 + x0).toInt8.toInt32))) 7 (vp_nar .byte (97 + x0).toInt8.toInt32))) 8 (vp_nar .byte (97 + x0).toInt8.toInt32))) (fun _ => 0) 0 0 9)))] := hD
  have hK : va_K (dC, dI) vwCl [(cy7, .byte), (cy30, .byte)] s := hK
  refine W.widen (k := 5) (n := 37) (Nat.le_of_ble_eq_true rfl) (Nat.le_of_ble_eq_true rfl) ?_
  refine lv_iconst (v := 0) hx hb dX16_word_90 (by decide) ?_
  have hPc := hP.sub (ws' := [(q27, .inr (18, [.int 0, .null, .int 0, .null]))]) [2] rfl
  have hDc := hD.sub (ws' := [(q27, .inr (18, [.int 0, .null, .int 0, .null]))]) [2] (by decide) rfl
  have hKc := hK.sub (tys' := []) [] rfl
  have hFc := va_free (wc := [(q27, .inr (18, [.int 0, .null, .int 0, .null]))]) hD hS hA [2] rfl
  refine va_callv (va_runI (As := [.int 0, .ref q28, .int 0]) (rest := [.ref q27, .ref h0]) ⟨hx, hb, hml, hown, hts⟩ (kX11_init l dC dI g H.size q27 q28 (.int 0) .null (.int 0) .null ) (cwI 3 hts (ns_g0 wm368) rfl rfl rfl (hta _ wm313) (hta _ wm403) (hta _ wm404) rfl (by decide +kernel) ⟨Nat.le_of_ble_eq_true rfl, Nat.le_of_ble_eq_true rfl⟩) ⟨fun a U gg mk q => by obtain ⟨q0, q1, qP, qK, qD, qF⟩ := q; exact ⟨q0, q1, qP, va_K.moved (u := U) (U := U.calling gg mk a) (Vm.Alike.refl U.vm) qK, qD, ns_same qF⟩, fun U hU hW => ⟨rfl, by rw [hU], by rw [hU]; exact hPc, va_K.moved hW.alike hKc, hDc.weaken (fun _ _ _ _ => trivial), ns_call hF hS hFc hU hW⟩⟩ rfl rfl hl.1 rfl (lv_room (Nat.le_of_ble_eq_true rfl)) dX16_word_91 ⟨Nat.le_of_ble_eq_true rfl, Nat.le_of_ble_eq_true rfl⟩) hS (fun q _ h => hFc q h) hFc (fun u t H1 locs ht hvm hw hB hz1 hk1 hS => ?_)
  obtain ⟨q31, hP1, hK1, hD1⟩ := hB
  rw [ht] at hP1
  have hK1 := va_K.moved hvm.symm hK1
  obtain ⟨hP, hD⟩ := va_join (wr := [(h1, .inr (6, [.int 0, .ref (g 0), .int 0])), (h0, .inr (23, [.int 0, .ref h1, v1, v2, v3, v4, v5, v6, .int 0])), (q28, .inr (0, [.ref q29, .int 0, .int 0, .int 0])), (q5, .inr (1, [.ref q6, .int 0, .int 0, .int 9])), (q6, .inl (cy7, 16, .inl (upd ((upd ((upd ((upd ((upd ((upd ((upd ((upd ((upd ((fun _ => 0)) 0 (vp_nar .byte (97 + x0).toInt8.toInt32))) 1 (vp_nar .byte (97 + x0).toInt8.toInt32))) 2 (vp_nar .byte (97 + x0).toInt8.toInt32))) 3 (vp_nar .byte (97 + x0).toInt8.toInt32))) 4 (vp_nar .byte (97 + x0).toInt8.toInt32))) 5 (vp_nar .byte (97 + x0).toInt8.toInt32))) 6 (vp_nar .byte (97 + x0).toInt8.toInt32))) 7 (vp_nar .byte (97 + x0).toInt8.toInt32))) 8 (vp_nar .byte (97 + x0).toInt8.toInt32)))), (q29, .inl (cy30, 9, .inl (va_cpy ((upd ((upd ((upd ((upd ((upd ((upd ((upd ((upd ((upd ((fun _ => 0)) 0 (vp_nar .byte (97 + x0).toInt8.toInt32))) 1 (vp_nar .byte (97 + x0).toInt8.toInt32))) 2 (vp_nar .byte (97 + x0).toInt8.toInt32))) 3 (vp_nar .byte (97 + x0).toInt8.toInt32))) 4 (vp_nar .byte (97 + x0).toInt8.toInt32))) 5 (vp_nar .byte (97 + x0).toInt8.toInt32))) 6 (vp_nar .byte (97 + x0).toInt8.toInt32))) 7 (vp_nar .byte (97 + x0).toInt8.toInt32))) 8 (vp_nar .byte (97 + x0).toInt8.toInt32))) (fun _ => 0) 0 0 9)))]) (w1 := [(q27, .inr (18, [.int 0, .ref q28, .int 0, .ref q31])), (q31, .inr (6, [.int 0, .ref (g 0), .int 0]))]) hP hD [2] [0, 1, 3, 4, 5, 6] rfl rfl (by decide) (by decide) hk1 hFc hP1 hD1
  have hK := (hK.sub (tys' := [(cy7, .byte), (cy30, .byte)]) [0, 1] rfl).app hK1
  generalize H1 = H at hP hS ⊢
  have hP : va_P (dC, dI) vwCl [(h1, .inr (6, [.int 0, .ref (g 0), .int 0])), (h0, .inr (23, [.int 0, .ref h1, v1, v2, v3, v4, v5, v6, .int 0])), (q28, .inr (0, [.ref q29, .int 0, .int 0, .int 0])), (q5, .inr (1, [.ref q6, .int 0, .int 0, .int 9])), (q6, .inl (cy7, 16, .inl (upd ((upd ((upd ((upd ((upd ((upd ((upd ((upd ((upd ((fun _ => 0)) 0 (vp_nar .byte (97 + x0).toInt8.toInt32))) 1 (vp_nar .byte (97 + x0).toInt8.toInt32))) 2 (vp_nar .byte (97 + x0).toInt8.toInt32))) 3 (vp_nar .byte (97 + x0).toInt8.toInt32))) 4 (vp_nar .byte (97 + x0).toInt8.toInt32))) 5 (vp_nar .byte (97 + x0).toInt8.toInt32))) 6 (vp_nar .byte (97 + x0).toInt8.toInt32))) 7 (vp_nar .byte (97 + x0).toInt8.toInt32))) 8 (vp_nar .byte (97 + x0).toInt8.toInt32)))), (q29, .inl (cy30, 9, .inl (va_cpy ((upd ((upd ((upd ((upd ((upd ((upd ((upd ((upd ((upd ((fun _ => 0)) 0 (vp_nar .byte (97 + x0).toInt8.toInt32))) 1 (vp_nar .byte (97 + x0).toInt8.toInt32))) 2 (vp_nar .byte (97 + x0).toInt8.toInt32))) 3 (vp_nar .byte (97 + x0).toInt8.toInt32))) 4 (vp_nar .byte (97 + x0).toInt8.toInt32))) 5 (vp_nar .byte (97 + x0).toInt8.toInt32))) 6 (vp_nar .byte (97 + x0).toInt8.toInt32))) 7 (vp_nar .byte (97 + x0).toInt8.toInt32))) 8 (vp_nar .byte (97 + x0).toInt8.toInt32))) (fun _ => 0) 0 0 9))), (q27, .inr (18, [.int 0, .ref q28, .int 0, .ref q31])), (q31, .inr (6, [.int 0, .ref (g 0), .int 0]))] H := hP
  have hD : va_D A [(h1, .inr (6, [.int 0, .ref (g 0), .int 0])), (h0, .inr (23, [.int 0, .ref h1, v1, v2, v3, v4, v5, v6, .int 0])), (q28, .inr (0, [.ref q29, .int 0, .int 0, .int 0])), (q5, .inr (1, [.ref q6, .int 0, .int 0, .int 9])), (q6, .inl (cy7, 16, .inl (upd ((upd ((upd ((upd ((upd ((upd ((upd ((upd ((upd ((fun _ => 0)) 0 (vp_nar .byte (97 + x0).toInt8.toInt32))) 1 (vp_nar .byte (97 + x0).toInt8.toInt32))) 2 (vp_nar .byte (97 + x0).toInt8.toInt32))) 3 (vp_nar .byte (97 + x0).toInt8.toInt32))) 4 (vp_nar .byte (97 + x0).toInt8.toInt32))) 5 (vp_nar .byte (97 + x0).toInt8.toInt32))) 6 (vp_nar .byte (97 + x0).toInt8.toInt32))) 7 (vp_nar .byte (97 + x0).toInt8.toInt32))) 8 (vp_nar .byte (97 + x0).toInt8.toInt32)))), (q29, .inl (cy30, 9, .inl (va_cpy ((upd ((upd ((upd ((upd ((upd ((upd ((upd ((upd ((upd ((fun _ => 0)) 0 (vp_nar .byte (97 + x0).toInt8.toInt32))) 1 (vp_nar .byte (97 + x0).toInt8.toInt32))) 2 (vp_nar .byte (97 + x0).toInt8.toInt32))) 3 (vp_nar .byte (97 + x0).toInt8.toInt32))) 4 (vp_nar .byte (97 + x0).toInt8.toInt32))) 5 (vp_nar .byte (97 + x0).toInt8.toInt32))) 6 (vp_nar .byte (97 + x0).toInt8.toInt32))) 7 (vp_nar .byte (97 + x0).toInt8.toInt32))) 8 (vp_nar .byte (97 + x0).toInt8.toInt32))) (fun _ => 0) 0 0 9))), (q27, .inr (18, [.int 0, .ref q28, .int 0, .ref q31])), (q31, .inr (6, [.int 0, .ref (g 0), .int 0]))] := hD
  have hK : va_K (dC, dI) vwCl [(cy7, .byte), (cy30, .byte)] s := hK
  refine W.widen (k := 6) (n := 40) (Nat.le_of_ble_eq_true rfl) (Nat.le_of_ble_eq_true rfl) ?_
  have hPc := hP.sub (ws' := [(h0, .inr (23, [.int 0, .ref h1, v1, v2, v3, v4, v5, v6, .int 0])), (h1, .inr (6, [.int 0, .ref (g 0), .int 0])), (q27, .inr (18, [.int 0, .ref q28, .int 0, .ref q31]))]) [1, 0, 6] rfl
  have hDc := hD.sub (ws' := [(h0, .inr (23, [.int 0, .ref h1, v1, v2, v3, v4, v5, v6, .int 0])), (h1, .inr (6, [.int 0, .ref (g 0), .int 0])), (q27, .inr (18, [.int 0, .ref q28, .int 0, .ref q31]))]) [1, 0, 6] (by decide) rfl
  have hKc := hK.sub (tys' := []) [] rfl
  have hFc := va_free (wc := [(h0, .inr (23, [.int 0, .ref h1, v1, v2, v3, v4, v5, v6, .int 0])), (h1, .inr (6, [.int 0, .ref (g 0), .int 0])), (q27, .inr (18, [.int 0, .ref q28, .int 0, .ref q31]))]) hD hS hA [1, 0, 6] rfl
  refine va_calli (va_runV (As := [.ref q27]) (rest := []) ⟨hx, hb, hml, hown, hts⟩ (kX16_made l dC dI g H.size h0 q27 h1 (.int 0) v1 v2 v3 v4 v5 v6 (.int 0) (.ref q28) (.int 0) (.ref q31) ) (cwV 1 hts (ns_gp (List.forall_mem_cons.mpr ⟨wm405, (List.forall_mem_cons.mpr ⟨wm406, (List.forall_mem_cons.mpr ⟨wm407, (List.forall_mem_cons.mpr ⟨wm192, (fun _ h9 => nomatch h9)⟩)⟩)⟩)⟩) wm392) rfl rfl rfl (by decide +kernel) ⟨Nat.le_of_ble_eq_true rfl, Nat.le_of_ble_eq_true rfl⟩) ⟨fun a U gg mk q => by obtain ⟨q0, q1, qP, qK, qD, qF⟩ := q; exact ⟨q0, q1, qP, va_K.moved (u := U) (U := U.calling gg mk a) (Vm.Alike.refl U.vm) qK, qD, ns_same qF⟩, va_recv hK hP (ci := 23) (q0 := 1) rfl rfl, fun U hU hW => ⟨rfl, by rw [hU], by rw [hU]; exact hPc, va_K.moved hW.alike hKc, hDc.weaken (fun _ _ _ _ => trivial), ns_call hF hS hFc hU hW⟩⟩ rfl rfl hl.1 rfl (lv_room (Nat.le_of_ble_eq_true rfl)) dX16_word_94 ⟨Nat.le_of_ble_eq_true rfl, Nat.le_of_ble_eq_true rfl⟩) hS (fun q _ h => hFc q h) hFc (fun r9 u t H1 locs ht hvm hw hB hz1 hk1 hS => ?_)
  obtain rfl := hw.symm
  obtain ⟨q32, cy33, hP1, hK1, hD1⟩ := hB
  rw [ht] at hP1
  have hK1 := va_K.moved hvm.symm hK1
  obtain ⟨hP, hD⟩ := va_join (wr := [(q28, .inr (0, [.ref q29, .int 0, .int 0, .int 0])), (q5, .inr (1, [.ref q6, .int 0, .int 0, .int 9])), (q6, .inl (cy7, 16, .inl (upd ((upd ((upd ((upd ((upd ((upd ((upd ((upd ((upd ((fun _ => 0)) 0 (vp_nar .byte (97 + x0).toInt8.toInt32))) 1 (vp_nar .byte (97 + x0).toInt8.toInt32))) 2 (vp_nar .byte (97 + x0).toInt8.toInt32))) 3 (vp_nar .byte (97 + x0).toInt8.toInt32))) 4 (vp_nar .byte (97 + x0).toInt8.toInt32))) 5 (vp_nar .byte (97 + x0).toInt8.toInt32))) 6 (vp_nar .byte (97 + x0).toInt8.toInt32))) 7 (vp_nar .byte (97 + x0).toInt8.toInt32))) 8 (vp_nar .byte (97 + x0).toInt8.toInt32)))), (q29, .inl (cy30, 9, .inl (va_cpy ((upd ((upd ((upd ((upd ((upd ((upd ((upd ((upd ((upd ((fun _ => 0)) 0 (vp_nar .byte (97 + x0).toInt8.toInt32))) 1 (vp_nar .byte (97 + x0).toInt8.toInt32))) 2 (vp_nar .byte (97 + x0).toInt8.toInt32))) 3 (vp_nar .byte (97 + x0).toInt8.toInt32))) 4 (vp_nar .byte (97 + x0).toInt8.toInt32))) 5 (vp_nar .byte (97 + x0).toInt8.toInt32))) 6 (vp_nar .byte (97 + x0).toInt8.toInt32))) 7 (vp_nar .byte (97 + x0).toInt8.toInt32))) 8 (vp_nar .byte (97 + x0).toInt8.toInt32))) (fun _ => 0) 0 0 9))), (q31, .inr (6, [.int 0, .ref (g 0), .int 0]))]) (w1 := [(h0, .inr (23, [.int 0, .ref h1, v1, v2, v3, v4, v5, v6, .int 1])), (q27, .inr (18, [.int 0, .ref q28, .int 0, .ref q31])), (q32, .inl (cy33, 10, .inr (.inr (.inr (.inr (va_up (fun _ => none) 0 (some q27))))))), (h1, .inr (6, [.int 1, .ref q32, .int 1]))]) hP hD [1, 0, 6] [2, 3, 4, 5, 7] rfl rfl (by decide) (by decide) hk1 hFc hP1 hD1
  have hK := (hK.sub (tys' := [(cy7, .byte), (cy30, .byte)]) [0, 1] rfl).app hK1
  generalize H1 = H at hP hS ⊢
  have hP : va_P (dC, dI) vwCl [(q28, .inr (0, [.ref q29, .int 0, .int 0, .int 0])), (q5, .inr (1, [.ref q6, .int 0, .int 0, .int 9])), (q6, .inl (cy7, 16, .inl (upd ((upd ((upd ((upd ((upd ((upd ((upd ((upd ((upd ((fun _ => 0)) 0 (vp_nar .byte (97 + x0).toInt8.toInt32))) 1 (vp_nar .byte (97 + x0).toInt8.toInt32))) 2 (vp_nar .byte (97 + x0).toInt8.toInt32))) 3 (vp_nar .byte (97 + x0).toInt8.toInt32))) 4 (vp_nar .byte (97 + x0).toInt8.toInt32))) 5 (vp_nar .byte (97 + x0).toInt8.toInt32))) 6 (vp_nar .byte (97 + x0).toInt8.toInt32))) 7 (vp_nar .byte (97 + x0).toInt8.toInt32))) 8 (vp_nar .byte (97 + x0).toInt8.toInt32)))), (q29, .inl (cy30, 9, .inl (va_cpy ((upd ((upd ((upd ((upd ((upd ((upd ((upd ((upd ((upd ((fun _ => 0)) 0 (vp_nar .byte (97 + x0).toInt8.toInt32))) 1 (vp_nar .byte (97 + x0).toInt8.toInt32))) 2 (vp_nar .byte (97 + x0).toInt8.toInt32))) 3 (vp_nar .byte (97 + x0).toInt8.toInt32))) 4 (vp_nar .byte (97 + x0).toInt8.toInt32))) 5 (vp_nar .byte (97 + x0).toInt8.toInt32))) 6 (vp_nar .byte (97 + x0).toInt8.toInt32))) 7 (vp_nar .byte (97 + x0).toInt8.toInt32))) 8 (vp_nar .byte (97 + x0).toInt8.toInt32))) (fun _ => 0) 0 0 9))), (q31, .inr (6, [.int 0, .ref (g 0), .int 0])), (h0, .inr (23, [.int 0, .ref h1, v1, v2, v3, v4, v5, v6, .int 1])), (q27, .inr (18, [.int 0, .ref q28, .int 0, .ref q31])), (q32, .inl (cy33, 10, .inr (.inr (.inr (.inr (va_up (fun _ => none) 0 (some q27))))))), (h1, .inr (6, [.int 1, .ref q32, .int 1]))] H := hP
  have hD : va_D A [(q28, .inr (0, [.ref q29, .int 0, .int 0, .int 0])), (q5, .inr (1, [.ref q6, .int 0, .int 0, .int 9])), (q6, .inl (cy7, 16, .inl (upd ((upd ((upd ((upd ((upd ((upd ((upd ((upd ((upd ((fun _ => 0)) 0 (vp_nar .byte (97 + x0).toInt8.toInt32))) 1 (vp_nar .byte (97 + x0).toInt8.toInt32))) 2 (vp_nar .byte (97 + x0).toInt8.toInt32))) 3 (vp_nar .byte (97 + x0).toInt8.toInt32))) 4 (vp_nar .byte (97 + x0).toInt8.toInt32))) 5 (vp_nar .byte (97 + x0).toInt8.toInt32))) 6 (vp_nar .byte (97 + x0).toInt8.toInt32))) 7 (vp_nar .byte (97 + x0).toInt8.toInt32))) 8 (vp_nar .byte (97 + x0).toInt8.toInt32)))), (q29, .inl (cy30, 9, .inl (va_cpy ((upd ((upd ((upd ((upd ((upd ((upd ((upd ((upd ((upd ((fun _ => 0)) 0 (vp_nar .byte (97 + x0).toInt8.toInt32))) 1 (vp_nar .byte (97 + x0).toInt8.toInt32))) 2 (vp_nar .byte (97 + x0).toInt8.toInt32))) 3 (vp_nar .byte (97 + x0).toInt8.toInt32))) 4 (vp_nar .byte (97 + x0).toInt8.toInt32))) 5 (vp_nar .byte (97 + x0).toInt8.toInt32))) 6 (vp_nar .byte (97 + x0).toInt8.toInt32))) 7 (vp_nar .byte (97 + x0).toInt8.toInt32))) 8 (vp_nar .byte (97 + x0).toInt8.toInt32))) (fun _ => 0) 0 0 9))), (q31, .inr (6, [.int 0, .ref (g 0), .int 0])), (h0, .inr (23, [.int 0, .ref h1, v1, v2, v3, v4, v5, v6, .int 1])), (q27, .inr (18, [.int 0, .ref q28, .int 0, .ref q31])), (q32, .inl (cy33, 10, .inr (.inr (.inr (.inr (va_up (fun _ => none) 0 (some q27))))))), (h1, .inr (6, [.int 1, .ref q32, .int 1]))] := hD
  have hK : va_K (dC, dI) vwCl [(cy7, .byte), (cy30, .byte), (cy33, .object "java/lang/Object")] s := hK
  refine W.widen (k := 7) (n := 50) (Nat.le_of_ble_eq_true rfl) (Nat.le_of_ble_eq_true rfl) ?_
  have hP9 := hP.sub (ws' := [(q28, .inr (0, [.ref q29, .int 0, .int 0, .int 0])), (q5, .inr (1, [.ref q6, .int 0, .int 0, .int 9])), (q6, .inl (cy7, 16, .inl (upd ((upd ((upd ((upd ((upd ((upd ((upd ((upd ((upd ((fun _ => 0)) 0 (vp_nar .byte (97 + x0).toInt8.toInt32))) 1 (vp_nar .byte (97 + x0).toInt8.toInt32))) 2 (vp_nar .byte (97 + x0).toInt8.toInt32))) 3 (vp_nar .byte (97 + x0).toInt8.toInt32))) 4 (vp_nar .byte (97 + x0).toInt8.toInt32))) 5 (vp_nar .byte (97 + x0).toInt8.toInt32))) 6 (vp_nar .byte (97 + x0).toInt8.toInt32))) 7 (vp_nar .byte (97 + x0).toInt8.toInt32))) 8 (vp_nar .byte (97 + x0).toInt8.toInt32)))), (q29, .inl (cy30, 9, .inl (va_cpy ((upd ((upd ((upd ((upd ((upd ((upd ((upd ((upd ((upd ((fun _ => 0)) 0 (vp_nar .byte (97 + x0).toInt8.toInt32))) 1 (vp_nar .byte (97 + x0).toInt8.toInt32))) 2 (vp_nar .byte (97 + x0).toInt8.toInt32))) 3 (vp_nar .byte (97 + x0).toInt8.toInt32))) 4 (vp_nar .byte (97 + x0).toInt8.toInt32))) 5 (vp_nar .byte (97 + x0).toInt8.toInt32))) 6 (vp_nar .byte (97 + x0).toInt8.toInt32))) 7 (vp_nar .byte (97 + x0).toInt8.toInt32))) 8 (vp_nar .byte (97 + x0).toInt8.toInt32))) (fun _ => 0) 0 0 9))), (q31, .inr (6, [.int 0, .ref (g 0), .int 0])), (h0, .inr (23, [.int 0, .ref h1, v1, v2, v3, v4, v5, v6, .int 1])), (q27, .inr (18, [.int 0, .ref q28, .int 0, .ref q31])), (q32, .inl (cy33, 10, .inr (.inr (.inr (.inr (va_up (fun _ => none) 0 (some q27))))))), (h1, .inr (6, [.int 1, .ref q32, .int 1]))]) [0, 1, 2, 3, 4, 5, 6, 7, 8] rfl
  have hD9 := hD.sub (ws' := [(q28, .inr (0, [.ref q29, .int 0, .int 0, .int 0])), (q5, .inr (1, [.ref q6, .int 0, .int 0, .int 9])), (q6, .inl (cy7, 16, .inl (upd ((upd ((upd ((upd ((upd ((upd ((upd ((upd ((upd ((fun _ => 0)) 0 (vp_nar .byte (97 + x0).toInt8.toInt32))) 1 (vp_nar .byte (97 + x0).toInt8.toInt32))) 2 (vp_nar .byte (97 + x0).toInt8.toInt32))) 3 (vp_nar .byte (97 + x0).toInt8.toInt32))) 4 (vp_nar .byte (97 + x0).toInt8.toInt32))) 5 (vp_nar .byte (97 + x0).toInt8.toInt32))) 6 (vp_nar .byte (97 + x0).toInt8.toInt32))) 7 (vp_nar .byte (97 + x0).toInt8.toInt32))) 8 (vp_nar .byte (97 + x0).toInt8.toInt32)))), (q29, .inl (cy30, 9, .inl (va_cpy ((upd ((upd ((upd ((upd ((upd ((upd ((upd ((upd ((upd ((fun _ => 0)) 0 (vp_nar .byte (97 + x0).toInt8.toInt32))) 1 (vp_nar .byte (97 + x0).toInt8.toInt32))) 2 (vp_nar .byte (97 + x0).toInt8.toInt32))) 3 (vp_nar .byte (97 + x0).toInt8.toInt32))) 4 (vp_nar .byte (97 + x0).toInt8.toInt32))) 5 (vp_nar .byte (97 + x0).toInt8.toInt32))) 6 (vp_nar .byte (97 + x0).toInt8.toInt32))) 7 (vp_nar .byte (97 + x0).toInt8.toInt32))) 8 (vp_nar .byte (97 + x0).toInt8.toInt32))) (fun _ => 0) 0 0 9))), (q31, .inr (6, [.int 0, .ref (g 0), .int 0])), (h0, .inr (23, [.int 0, .ref h1, v1, v2, v3, v4, v5, v6, .int 1])), (q27, .inr (18, [.int 0, .ref q28, .int 0, .ref q31])), (q32, .inl (cy33, 10, .inr (.inr (.inr (.inr (va_up (fun _ => none) 0 (some q27))))))), (h1, .inr (6, [.int 1, .ref q32, .int 1]))]) [0, 1, 2, 3, 4, 5, 6, 7, 8] (by decide) rfl
  have hK9 := hK.sub (tys' := [(cy7, .byte), (cy30, .byte), (cy33, .object "java/lang/Object")]) [0, 1, 2] rfl
  refine W.widen (k := 7) (n := 50) (Nat.le_of_ble_eq_true rfl) (Nat.le_of_ble_eq_true rfl) ?_
  exact W.iret (v := 0) hx hb hr (fun t ht hW => ⟨⟨_, (), rfl, rfl, q5, q6, cy7, q27, q28, q29, cy30, q31, q32, cy33, by rw [ht]; exact hP9, va_K.moved hW.alike hK9, hD9⟩, hS.F ht⟩) hS.2.2 dX16_word_97

set_option maxHeartbeats 4000000 in
set_option maxRecDepth 100000 in
theorem kX16_word_20 (l : Launch) (dC : Nat → ClassId) (dI : Nat → Nat → Nat) (g : Nat → Nat) (sz : Nat) (h0 : Nat) (x0 : Int32) (h1 : Nat) (v0 : Value) (v1 : Value) (v2 : Value) (v3 : Value) (v4 : Value) (v5 : Value) (v6 : Value) (ex0 : (0 : Int) ≤ x0.toInt ∧ x0.toInt ≤ (25 : Int)) : Met l yX16_word wbX16_word ({ frames := 6, cells := 7, slots := 49, locals := 151 }) (va_Pc [.ref h0, .int x0, .int 8] (fun U => U.heap.size = sz ∧ va_P (dC, dI) vwCl [(h0, .inr (23, [v0, .ref h1, v1, v2, v3, v4, v5, v6, .int 0])), (h1, .inr (6, [.int 0, .ref (g 0), .int 0]))] U.heap ∧ va_K (dC, dI) vwCl [] U ∧ va_D (fun _ => True) [(h0, .inr (23, [v0, .ref h1, v1, v2, v3, v4, v5, v6, .int 0])), (h1, .inr (6, [.int 0, .ref (g 0), .int 0]))] ∧ ns_F g (va_A [(h0, .inr (23, [v0, .ref h1, v1, v2, v3, v4, v5, v6, .int 0])), (h1, .inr (6, [.int 0, .ref (g 0), .int 0]))] sz) U U.heap)) (va_Qi (fun (r : Int32) (_ : Unit) => r = 0) (fun _ t => ∃ k0 : Nat, ∃ k1 : Nat, ∃ kc2 : ClassId, ∃ k3 : Nat, ∃ k4 : Nat, ∃ k5 : Nat, ∃ kc6 : ClassId, ∃ k7 : Nat, ∃ k8 : Nat, ∃ kc9 : ClassId, va_P (dC, dI) vwCl [(k4, .inr (0, [.ref k5, .int 0, .int 0, .int 0])), (k0, .inr (1, [.ref k1, .int 0, .int 0, .int 8])), (k1, .inl (kc2, 16, .inl (upd ((upd ((upd ((upd ((upd ((upd ((upd ((upd ((fun _ => 0)) 0 (vp_nar .byte (97 + x0).toInt8.toInt32))) 1 (vp_nar .byte (97 + x0).toInt8.toInt32))) 2 (vp_nar .byte (97 + x0).toInt8.toInt32))) 3 (vp_nar .byte (97 + x0).toInt8.toInt32))) 4 (vp_nar .byte (97 + x0).toInt8.toInt32))) 5 (vp_nar .byte (97 + x0).toInt8.toInt32))) 6 (vp_nar .byte (97 + x0).toInt8.toInt32))) 7 (vp_nar .byte (97 + x0).toInt8.toInt32)))), (k5, .inl (kc6, 8, .inl (va_cpy ((upd ((upd ((upd ((upd ((upd ((upd ((upd ((upd ((fun _ => 0)) 0 (vp_nar .byte (97 + x0).toInt8.toInt32))) 1 (vp_nar .byte (97 + x0).toInt8.toInt32))) 2 (vp_nar .byte (97 + x0).toInt8.toInt32))) 3 (vp_nar .byte (97 + x0).toInt8.toInt32))) 4 (vp_nar .byte (97 + x0).toInt8.toInt32))) 5 (vp_nar .byte (97 + x0).toInt8.toInt32))) 6 (vp_nar .byte (97 + x0).toInt8.toInt32))) 7 (vp_nar .byte (97 + x0).toInt8.toInt32))) (fun _ => 0) 0 0 8))), (k7, .inr (6, [.int 0, .ref (g 0), .int 0])), (h0, .inr (23, [.int 0, .ref h1, v1, v2, v3, v4, v5, v6, .int 1])), (k3, .inr (18, [.int 0, .ref k4, .int 0, .ref k7])), (k8, .inl (kc9, 10, .inr (.inr (.inr (.inr (va_up (fun _ => none) 0 (some k3))))))), (h1, .inr (6, [.int 1, .ref k8, .int 1]))] t.heap ∧ va_K (dC, dI) vwCl [(kc2, .byte), (kc6, .byte), (kc9, .object "java/lang/Object")] t ∧ va_D (va_A [(h0, .inr (23, [v0, .ref h1, v1, v2, v3, v4, v5, v6, .int 0])), (h1, .inr (6, [.int 0, .ref (g 0), .int 0]))] sz) [(k4, .inr (0, [.ref k5, .int 0, .int 0, .int 0])), (k0, .inr (1, [.ref k1, .int 0, .int 0, .int 8])), (k1, .inl (kc2, 16, .inl (upd ((upd ((upd ((upd ((upd ((upd ((upd ((upd ((fun _ => 0)) 0 (vp_nar .byte (97 + x0).toInt8.toInt32))) 1 (vp_nar .byte (97 + x0).toInt8.toInt32))) 2 (vp_nar .byte (97 + x0).toInt8.toInt32))) 3 (vp_nar .byte (97 + x0).toInt8.toInt32))) 4 (vp_nar .byte (97 + x0).toInt8.toInt32))) 5 (vp_nar .byte (97 + x0).toInt8.toInt32))) 6 (vp_nar .byte (97 + x0).toInt8.toInt32))) 7 (vp_nar .byte (97 + x0).toInt8.toInt32)))), (k5, .inl (kc6, 8, .inl (va_cpy ((upd ((upd ((upd ((upd ((upd ((upd ((upd ((upd ((fun _ => 0)) 0 (vp_nar .byte (97 + x0).toInt8.toInt32))) 1 (vp_nar .byte (97 + x0).toInt8.toInt32))) 2 (vp_nar .byte (97 + x0).toInt8.toInt32))) 3 (vp_nar .byte (97 + x0).toInt8.toInt32))) 4 (vp_nar .byte (97 + x0).toInt8.toInt32))) 5 (vp_nar .byte (97 + x0).toInt8.toInt32))) 6 (vp_nar .byte (97 + x0).toInt8.toInt32))) 7 (vp_nar .byte (97 + x0).toInt8.toInt32))) (fun _ => 0) 0 0 8))), (k7, .inr (6, [.int 0, .ref (g 0), .int 0])), (h0, .inr (23, [.int 0, .ref h1, v1, v2, v3, v4, v5, v6, .int 1])), (k3, .inr (18, [.int 0, .ref k4, .int 0, .ref k7])), (k8, .inl (kc9, 10, .inr (.inr (.inr (.inr (va_up (fun _ => none) 0 (some k3))))))), (h1, .inr (6, [.int 1, .ref k8, .int 1]))]) (va_A [(h0, .inr (23, [v0, .ref h1, v1, v2, v3, v4, v5, v6, .int 0])), (h1, .inr (6, [.int 0, .ref (g 0), .int 0]))] sz)) 7 49 (va_A [(h0, .inr (23, [v0, .ref h1, v1, v2, v3, v4, v5, v6, .int 0])), (h1, .inr (6, [.int 0, .ref (g 0), .int 0]))] sz) := by
  refine Met.ofW (cc := cX16_word) (maxL := 5) (ret := (some .int)) (by decide) rfl ?_
  intro p e s m args below meth c s₁ B hml hv
  obtain ⟨rfl, hsz, hP, hK, hD0, hF⟩ := hv
  have hx := B.exec
  have hb := B.bytes
  have hr := B.returns
  have hts := atoms_spec (ws := wbX16_word) B.pre
  have hta : ∀ w ∈ wsALL, w.before _ s = true := fun w h => hts w (List.mem_cons_of_mem _ h)
  have hown : s.vm.findClass RX16 = some m.cls := findClass_of_methodNamed B.named
  have hlocks := B.notSynchronized
  subst hsz
  have hD := hD0.self (sz := s.heap.size)
  generalize hAe : va_A [(h0, .inr (23, [v0, .ref h1, v1, v2, v3, v4, v5, v6, .int 0])), (h1, .inr (6, [.int 0, .ref (g 0), .int 0]))] s.heap.size = A at hD hF ⊢
  have hA : ∀ q : Nat, s.heap.size ≤ q → A q := fun q h => by rw [← hAe]; exact Or.inr h
  have hS : va_S A s.heap s.heap [] := va_S.rf
  have hP : va_P (dC, dI) vwCl [(h0, .inr (23, [v0, .ref h1, v1, v2, v3, v4, v5, v6, .int 0])), (h1, .inr (6, [.int 0, .ref (g 0), .int 0]))] s.heap := hP
  have hl := lv_entry ([.ref h0, .int x0, .int 8]) (n := 5) (Nat.le_of_ble_eq_true rfl)
  rw [lg_entry_eq]
  generalize (lg_sl ([.ref h0, .int x0, .int 8]) ++ List.replicate (5 - (lg_sl ([.ref h0, .int x0, .int 8])).length) Slot.unset).toArray = ls at hl ⊢
  have hl : lv_has ls 5 [(0, .ref h0), (1, .int x0), (2, .int 8)] := hl
  refine lv_aload_n hx hb dX16_word_0 rfl (lv_at hl 0 rfl) ?_
  refine lv_iload_n hx hb dX16_word_1 rfl (lv_at hl 1 rfl) ?_
  refine lv_iconst (v := 0) hx hb dX16_word_2 (by decide) ?_
  refine lv_bipush (v := 25) hx hb dX16_word_3 (by decide) ?_
  have hPc := hP.sub (ws' := []) [] rfl
  have hDc := hD.sub (ws' := []) [] (by decide) rfl
  have hKc := hK.sub (tys' := []) [] rfl
  have hFc := va_free (wc := []) hD hS hA [] rfl
  refine va_calli (va_runS (As := [.int x0, .int 0, .int 25]) (rest := [.ref h0]) ⟨hx, hb, hml, hown, hts⟩ (kX16_isIn_2 l dC dI g s.heap.size x0 ⟨by omega, by omega⟩) (va_cwS 3 hts (ns_gp (List.forall_mem_cons.mpr ⟨wm240, (List.forall_mem_cons.mpr ⟨wm241, (List.forall_mem_cons.mpr ⟨wm192, (fun _ h9 => nomatch h9)⟩)⟩)⟩) wm233) rfl rfl rfl (by decide +kernel) ⟨Nat.le_of_ble_eq_true rfl, Nat.le_of_ble_eq_true rfl⟩) ⟨fun a U gg mk q => by obtain ⟨q0, q1, qP, qK, qD, qF⟩ := q; exact ⟨q0, q1, qP, va_K.moved (u := U) (U := U.calling gg mk a) (Vm.Alike.refl U.vm) qK, qD, ns_same qF⟩, fun U hU hW => ⟨rfl, by rw [hU], by rw [hU]; exact hPc, va_K.moved hW.alike hKc, hDc.weaken (fun _ _ _ _ => trivial), ns_call hF hS hFc hU hW⟩⟩ rfl rfl hl.1 rfl (lv_room (Nat.le_of_ble_eq_true rfl)) dX16_word_5 ⟨Nat.le_of_ble_eq_true rfl, Nat.le_of_ble_eq_true rfl⟩) hS (fun q _ h => hFc q h) hFc (fun r9 u t H1 locs ht hvm hw hB hz1 hk1 hS => ?_)
  obtain rfl := hw.symm
  obtain ⟨hP1, hK1, hD1⟩ := hB
  rw [ht] at hP1
  have hK1 := va_K.moved hvm.symm hK1
  obtain ⟨hP, hD⟩ := va_join (wr := [(h0, .inr (23, [v0, .ref h1, v1, v2, v3, v4, v5, v6, .int 0])), (h1, .inr (6, [.int 0, .ref (g 0), .int 0]))]) (w1 := []) hP hD [] [0, 1] rfl rfl (by decide) (by decide) hk1 hFc hP1 hD1
  have hK := (hK.sub (tys' := []) [] rfl).app hK1
  generalize H1 = H at hP hS ⊢
  have hP : va_P (dC, dI) vwCl [(h0, .inr (23, [v0, .ref h1, v1, v2, v3, v4, v5, v6, .int 0])), (h1, .inr (6, [.int 0, .ref (g 0), .int 0]))] H := hP
  have hD : va_D A [(h0, .inr (23, [v0, .ref h1, v1, v2, v3, v4, v5, v6, .int 0])), (h1, .inr (6, [.int 0, .ref (g 0), .int 0]))] := hD
  have hK : va_K (dC, dI) vwCl [] s := hK
  refine W.widen (k := 0) (n := 0) (Nat.le_of_ble_eq_true rfl) (Nat.le_of_ble_eq_true rfl) ?_
  refine lv_if_eq (tgt := 21) hx hb dX16_word_8 (by decide) (fun c1 => absurd c1 (by decide)) (fun c1 => ?_)
  refine lv_iload_n hx hb dX16_word_11 rfl (lv_at hl 2 rfl) ?_
  refine lv_iconst (v := 1) hx hb dX16_word_12 (by decide) ?_
  refine lv_bipush (v := 9) hx hb dX16_word_13 (by decide) ?_
  have hPc := hP.sub (ws' := []) [] rfl
  have hDc := hD.sub (ws' := []) [] (by decide) rfl
  have hKc := hK.sub (tys' := []) [] rfl
  have hFc := va_free (wc := []) hD hS hA [] rfl
  refine va_calli (va_runS (As := [.int 8, .int 1, .int 9]) (rest := [.ref h0]) ⟨hx, hb, hml, hown, hts⟩ (kX16_isIn_11 l dC dI g H.size  ) (va_cwS 3 hts (ns_gp (List.forall_mem_cons.mpr ⟨wm240, (List.forall_mem_cons.mpr ⟨wm241, (List.forall_mem_cons.mpr ⟨wm192, (fun _ h9 => nomatch h9)⟩)⟩)⟩) wm233) rfl rfl rfl (by decide +kernel) ⟨Nat.le_of_ble_eq_true rfl, Nat.le_of_ble_eq_true rfl⟩) ⟨fun a U gg mk q => by obtain ⟨q0, q1, qP, qK, qD, qF⟩ := q; exact ⟨q0, q1, qP, va_K.moved (u := U) (U := U.calling gg mk a) (Vm.Alike.refl U.vm) qK, qD, ns_same qF⟩, fun U hU hW => ⟨rfl, by rw [hU], by rw [hU]; exact hPc, va_K.moved hW.alike hKc, hDc.weaken (fun _ _ _ _ => trivial), ns_call hF hS hFc hU hW⟩⟩ rfl rfl hl.1 rfl (lv_room (Nat.le_of_ble_eq_true rfl)) dX16_word_15 ⟨Nat.le_of_ble_eq_true rfl, Nat.le_of_ble_eq_true rfl⟩) hS (fun q _ h => hFc q h) hFc (fun r9 u t H1 locs ht hvm hw hB hz1 hk1 hS => ?_)
  obtain rfl := hw.symm
  obtain ⟨hP1, hK1, hD1⟩ := hB
  rw [ht] at hP1
  have hK1 := va_K.moved hvm.symm hK1
  obtain ⟨hP, hD⟩ := va_join (wr := [(h0, .inr (23, [v0, .ref h1, v1, v2, v3, v4, v5, v6, .int 0])), (h1, .inr (6, [.int 0, .ref (g 0), .int 0]))]) (w1 := []) hP hD [] [0, 1] rfl rfl (by decide) (by decide) hk1 hFc hP1 hD1
  have hK := (hK.sub (tys' := []) [] rfl).app hK1
  generalize H1 = H at hP hS ⊢
  have hP : va_P (dC, dI) vwCl [(h0, .inr (23, [v0, .ref h1, v1, v2, v3, v4, v5, v6, .int 0])), (h1, .inr (6, [.int 0, .ref (g 0), .int 0]))] H := hP
  have hD : va_D A [(h0, .inr (23, [v0, .ref h1, v1, v2, v3, v4, v5, v6, .int 0])), (h1, .inr (6, [.int 0, .ref (g 0), .int 0]))] := hD
  have hK : va_K (dC, dI) vwCl [] s := hK
  refine W.widen (k := 0) (n := 0) (Nat.le_of_ble_eq_true rfl) (Nat.le_of_ble_eq_true rfl) ?_
  refine lv_if_ne (tgt := 25) hx hb dX16_word_18 (by decide) (fun c2 => ?_) (fun c2 => absurd c2 (by decide))
  refine lv_iconst (v := 0) hx hb dX16_word_25 (by decide) ?_
  refine lv_iconst (v := 1) hx hb dX16_word_26 (by decide) ?_
  have hPc := hP.sub (ws' := [(h0, .inr (23, [v0, .ref h1, v1, v2, v3, v4, v5, v6, .int 0]))]) [0] rfl
  have hDc := hD.sub (ws' := [(h0, .inr (23, [v0, .ref h1, v1, v2, v3, v4, v5, v6, .int 0]))]) [0] (by decide) rfl
  have hKc := hK.sub (tys' := []) [] rfl
  have hFc := va_free (wc := [(h0, .inr (23, [v0, .ref h1, v1, v2, v3, v4, v5, v6, .int 0]))]) hD hS hA [0] rfl
  refine va_calli (va_runV (As := [.int 0, .int 1]) (rest := []) ⟨hx, hb, hml, hown, hts⟩ (kX16_start_2 l dC dI g H.size h0 v0 (.ref h1) v1 v2 v3 v4 v5 v6 (.int 0) ) (cwV 2 hts (ns_gp (List.forall_mem_cons.mpr ⟨wm242, (List.forall_mem_cons.mpr ⟨wm243, (List.forall_mem_cons.mpr ⟨wm244, (List.forall_mem_cons.mpr ⟨wm192, (fun _ h9 => nomatch h9)⟩)⟩)⟩)⟩) wm239) rfl rfl rfl (by decide +kernel) ⟨Nat.le_of_ble_eq_true rfl, Nat.le_of_ble_eq_true rfl⟩) ⟨fun a U gg mk q => by obtain ⟨q0, q1, qP, qK, qD, qF⟩ := q; exact ⟨q0, q1, qP, va_K.moved (u := U) (U := U.calling gg mk a) (Vm.Alike.refl U.vm) qK, qD, ns_same qF⟩, va_recv hK hP (ci := 23) (q0 := 0) rfl rfl, fun U hU hW => ⟨rfl, by rw [hU], by rw [hU]; exact hPc, va_K.moved hW.alike hKc, hDc.weaken (fun _ _ _ _ => trivial), ns_call hF hS hFc hU hW⟩⟩ rfl rfl hl.1 rfl (lv_room (Nat.le_of_ble_eq_true rfl)) dX16_word_27 ⟨Nat.le_of_ble_eq_true rfl, Nat.le_of_ble_eq_true rfl⟩) hS (fun q _ h => hFc q h) hFc (fun r9 u t H1 locs ht hvm hw hB hz1 hk1 hS => ?_)
  obtain rfl := hw.symm
  obtain ⟨hP1, hK1, hD1⟩ := hB
  rw [ht] at hP1
  have hK1 := va_K.moved hvm.symm hK1
  obtain ⟨hP, hD⟩ := va_join (wr := [(h1, .inr (6, [.int 0, .ref (g 0), .int 0]))]) (w1 := [(h0, .inr (23, [.int 0, .ref h1, v1, v2, v3, v4, v5, v6, .int 0]))]) hP hD [0] [1] rfl rfl (by decide) (by decide) hk1 hFc hP1 hD1
  have hK := (hK.sub (tys' := []) [] rfl).app hK1
  generalize H1 = H at hP hS ⊢
  have hP : va_P (dC, dI) vwCl [(h1, .inr (6, [.int 0, .ref (g 0), .int 0])), (h0, .inr (23, [.int 0, .ref h1, v1, v2, v3, v4, v5, v6, .int 0]))] H := hP
  have hD : va_D A [(h1, .inr (6, [.int 0, .ref (g 0), .int 0])), (h0, .inr (23, [.int 0, .ref h1, v1, v2, v3, v4, v5, v6, .int 0]))] := hD
  have hK : va_K (dC, dI) vwCl [] s := hK
  refine W.widen (k := 0) (n := 0) (Nat.le_of_ble_eq_true rfl) (Nat.le_of_ble_eq_true rfl) ?_
  refine lv_if_ne (tgt := 45) hx hb dX16_word_30 (by decide) (fun c3 => absurd (by decide) c3) (fun c3 => ?_)
  refine lv_aload_n hx hb dX16_word_33 rfl (lv_at hl 0 rfl) ?_
  refine lv_aload_n hx hb dX16_word_34 rfl (lv_at hl 0 rfl) ?_
  have hPc := hP.sub (ws' := [(h0, .inr (23, [.int 0, .ref h1, v1, v2, v3, v4, v5, v6, .int 0])), (h1, .inr (6, [.int 0, .ref (g 0), .int 0]))]) [1, 0] rfl
  have hDc := hD.sub (ws' := [(h0, .inr (23, [.int 0, .ref h1, v1, v2, v3, v4, v5, v6, .int 0])), (h1, .inr (6, [.int 0, .ref (g 0), .int 0]))]) [1, 0] (by decide) rfl
  have hKc := hK.sub (tys' := []) [] rfl
  have hFc := va_free (wc := [(h0, .inr (23, [.int 0, .ref h1, v1, v2, v3, v4, v5, v6, .int 0])), (h1, .inr (6, [.int 0, .ref (g 0), .int 0]))]) hD hS hA [1, 0] rfl
  refine va_calli (va_runV (As := []) (rest := [.ref h0]) ⟨hx, hb, hml, hown, hts⟩ (kX16_isFull l dC dI g H.size h0 h1 (.int 0) v1 v2 v3 v4 v5 v6 (.int 0) (.int 0) (.ref (g 0)) ) (cwV 0 hts (ns_gp (List.forall_mem_cons.mpr ⟨wm393, (List.forall_mem_cons.mpr ⟨wm394, (List.forall_mem_cons.mpr ⟨wm395, (List.forall_mem_cons.mpr ⟨wm192, (fun _ h9 => nomatch h9)⟩)⟩)⟩)⟩) wm288) rfl rfl rfl (by decide +kernel) ⟨Nat.le_of_ble_eq_true rfl, Nat.le_of_ble_eq_true rfl⟩) ⟨fun a U gg mk q => by obtain ⟨q0, q1, qP, qK, qD, qF⟩ := q; exact ⟨q0, q1, qP, va_K.moved (u := U) (U := U.calling gg mk a) (Vm.Alike.refl U.vm) qK, qD, ns_same qF⟩, va_recv hK hP (ci := 23) (q0 := 1) rfl rfl, fun U hU hW => ⟨rfl, by rw [hU], by rw [hU]; exact hPc, va_K.moved hW.alike hKc, hDc.weaken (fun _ _ _ _ => trivial), ns_call hF hS hFc hU hW⟩⟩ rfl rfl hl.1 rfl (lv_room (Nat.le_of_ble_eq_true rfl)) dX16_word_35 ⟨Nat.le_of_ble_eq_true rfl, Nat.le_of_ble_eq_true rfl⟩) hS (fun q _ h => hFc q h) hFc (fun r9 u t H1 locs ht hvm hw hB hz1 hk1 hS => ?_)
  obtain rfl := hw.symm
  obtain ⟨hP1, hK1, hD1⟩ := hB
  rw [ht] at hP1
  have hK1 := va_K.moved hvm.symm hK1
  obtain ⟨hP, hD⟩ := va_join (wr := []) (w1 := [(h0, .inr (23, [.int 0, .ref h1, v1, v2, v3, v4, v5, v6, .int 0])), (h1, .inr (6, [.int 0, .ref (g 0), .int 0]))]) hP hD [1, 0] [] rfl rfl (by decide) (by decide) hk1 hFc hP1 hD1
  have hK := (hK.sub (tys' := []) [] rfl).app hK1
  generalize H1 = H at hP hS ⊢
  have hP : va_P (dC, dI) vwCl [(h0, .inr (23, [.int 0, .ref h1, v1, v2, v3, v4, v5, v6, .int 0])), (h1, .inr (6, [.int 0, .ref (g 0), .int 0]))] H := hP
  have hD : va_D A [(h0, .inr (23, [.int 0, .ref h1, v1, v2, v3, v4, v5, v6, .int 0])), (h1, .inr (6, [.int 0, .ref (g 0), .int 0]))] := hD
  have hK : va_K (dC, dI) vwCl [] s := hK
  refine W.widen (k := 0) (n := 0) (Nat.le_of_ble_eq_true rfl) (Nat.le_of_ble_eq_true rfl) ?_
  refine lv_iconst (v := 2) hx hb dX16_word_38 (by decide) ?_
  have hPc := hP.sub (ws' := [(h0, .inr (23, [.int 0, .ref h1, v1, v2, v3, v4, v5, v6, .int 0]))]) [0] rfl
  have hDc := hD.sub (ws' := [(h0, .inr (23, [.int 0, .ref h1, v1, v2, v3, v4, v5, v6, .int 0]))]) [0] (by decide) rfl
  have hKc := hK.sub (tys' := []) [] rfl
  have hFc := va_free (wc := [(h0, .inr (23, [.int 0, .ref h1, v1, v2, v3, v4, v5, v6, .int 0]))]) hD hS hA [0] rfl
  refine va_calli (va_runV (As := [.int 0, .int 2]) (rest := []) ⟨hx, hb, hml, hown, hts⟩ (kX16_refuse_3 l dC dI g H.size h0 (.ref h1) v1 v2 v3 v4 v5 v6 (.int 0) ) (cwV 2 hts (ns_gp (List.forall_mem_cons.mpr ⟨wm236, (List.forall_mem_cons.mpr ⟨wm237, (List.forall_mem_cons.mpr ⟨wm238, (List.forall_mem_cons.mpr ⟨wm192, (fun _ h9 => nomatch h9)⟩)⟩)⟩)⟩) wm235) rfl rfl rfl (by decide +kernel) ⟨Nat.le_of_ble_eq_true rfl, Nat.le_of_ble_eq_true rfl⟩) ⟨fun a U gg mk q => by obtain ⟨q0, q1, qP, qK, qD, qF⟩ := q; exact ⟨q0, q1, qP, va_K.moved (u := U) (U := U.calling gg mk a) (Vm.Alike.refl U.vm) qK, qD, ns_same qF⟩, va_recv hK hP (ci := 23) (q0 := 0) rfl rfl, fun U hU hW => ⟨rfl, by rw [hU], by rw [hU]; exact hPc, va_K.moved hW.alike hKc, hDc.weaken (fun _ _ _ _ => trivial), ns_call hF hS hFc hU hW⟩⟩ rfl rfl hl.1 rfl (lv_room (Nat.le_of_ble_eq_true rfl)) dX16_word_39 ⟨Nat.le_of_ble_eq_true rfl, Nat.le_of_ble_eq_true rfl⟩) hS (fun q _ h => hFc q h) hFc (fun r9 u t H1 locs ht hvm hw hB hz1 hk1 hS => ?_)
  obtain rfl := hw.symm
  obtain ⟨hP1, hK1, hD1⟩ := hB
  rw [ht] at hP1
  have hK1 := va_K.moved hvm.symm hK1
  obtain ⟨hP, hD⟩ := va_join (wr := [(h1, .inr (6, [.int 0, .ref (g 0), .int 0]))]) (w1 := [(h0, .inr (23, [.int 0, .ref h1, v1, v2, v3, v4, v5, v6, .int 0]))]) hP hD [0] [1] rfl rfl (by decide) (by decide) hk1 hFc hP1 hD1
  have hK := (hK.sub (tys' := []) [] rfl).app hK1
  generalize H1 = H at hP hS ⊢
  have hP : va_P (dC, dI) vwCl [(h1, .inr (6, [.int 0, .ref (g 0), .int 0])), (h0, .inr (23, [.int 0, .ref h1, v1, v2, v3, v4, v5, v6, .int 0]))] H := hP
  have hD : va_D A [(h1, .inr (6, [.int 0, .ref (g 0), .int 0])), (h0, .inr (23, [.int 0, .ref h1, v1, v2, v3, v4, v5, v6, .int 0]))] := hD
  have hK : va_K (dC, dI) vwCl [] s := hK
  refine W.widen (k := 0) (n := 0) (Nat.le_of_ble_eq_true rfl) (Nat.le_of_ble_eq_true rfl) ?_
  refine lv_if_eq (tgt := 47) hx hb dX16_word_42 (by decide) (fun c4 => ?_) (fun c4 => absurd (by decide) c4)
  refine va_new (ci := 1) (fs := [.null, .int 0, .int 0, .int 0]) (C := RJ4) (T := TJ4) (N := 4) hx hb hta naJ4 tyJ4 tyJ4_ok hown (hta _ wm289) (hta _ wm136) (hta _ wm137) hK hP hD hS hA rfl (fun j hj => by rcases (show j = 0 ∨ j = 1 ∨ j = 2 ∨ j = 3 by omega) with rfl | rfl | rfl | rfl <;> rfl) (Nat.le_of_ble_eq_true rfl) (Nat.le_of_ble_eq_true rfl) dX16_word_47 (fun q5 H hP hD hS => ?_)
  have hP : va_P (dC, dI) vwCl [(h1, .inr (6, [.int 0, .ref (g 0), .int 0])), (h0, .inr (23, [.int 0, .ref h1, v1, v2, v3, v4, v5, v6, .int 0])), (q5, .inr (1, [.null, .int 0, .int 0, .int 0]))] H := hP
  have hD : va_D A [(h1, .inr (6, [.int 0, .ref (g 0), .int 0])), (h0, .inr (23, [.int 0, .ref h1, v1, v2, v3, v4, v5, v6, .int 0])), (q5, .inr (1, [.null, .int 0, .int 0, .int 0]))] := hD
  refine W.widen (k := 1) (n := 4) (Nat.le_of_ble_eq_true rfl) (Nat.le_of_ble_eq_true rfl) ?_
  refine lv_dup hx hb dX16_word_50 rfl ?_
  have hPc := hP.sub (ws' := [(q5, .inr (1, [.null, .int 0, .int 0, .int 0]))]) [2] rfl
  have hDc := hD.sub (ws' := [(q5, .inr (1, [.null, .int 0, .int 0, .int 0]))]) [2] (by decide) rfl
  have hKc := hK.sub (tys' := []) [] rfl
  have hFc := va_free (wc := [(q5, .inr (1, [.null, .int 0, .int 0, .int 0]))]) hD hS hA [2] rfl
  refine va_callv (va_runI (As := []) (rest := [.ref q5]) ⟨hx, hb, hml, hown, hts⟩ (kJ4_init_da8c8 l dC dI g H.size q5 .null (.int 0) (.int 0) (.int 0) ) (cwI 0 hts (ns_g0 wm147) rfl rfl rfl (hta _ wm137) (hta _ wm396) (hta _ wm185) rfl (by decide +kernel) ⟨Nat.le_of_ble_eq_true rfl, Nat.le_of_ble_eq_true rfl⟩) ⟨fun a U gg mk q => by obtain ⟨q0, q1, qP, qK, qD, qF⟩ := q; exact ⟨q0, q1, qP, va_K.moved (u := U) (U := U.calling gg mk a) (Vm.Alike.refl U.vm) qK, qD, ns_same qF⟩, fun U hU hW => ⟨rfl, by rw [hU], by rw [hU]; exact hPc, va_K.moved hW.alike hKc, hDc.weaken (fun _ _ _ _ => trivial), ns_call hF hS hFc hU hW⟩⟩ rfl rfl hl.1 rfl (lv_room (Nat.le_of_ble_eq_true rfl)) dX16_word_51 ⟨Nat.le_of_ble_eq_true rfl, Nat.le_of_ble_eq_true rfl⟩) hS (fun q _ h => hFc q h) hFc (fun u t H1 locs ht hvm hw hB hz1 hk1 hS => ?_)
  obtain ⟨q6, cy7, hP1, hK1, hD1⟩ := hB
  rw [ht] at hP1
  have hK1 := va_K.moved hvm.symm hK1
  obtain ⟨hP, hD⟩ := va_join (wr := [(h1, .inr (6, [.int 0, .ref (g 0), .int 0])), (h0, .inr (23, [.int 0, .ref h1, v1, v2, v3, v4, v5, v6, .int 0]))]) (w1 := [(q5, .inr (1, [.ref q6, .int 0, .int 0, .int 0])), (q6, .inl (cy7, 16, .inl (fun _ => 0)))]) hP hD [2] [0, 1] rfl rfl (by decide) (by decide) hk1 hFc hP1 hD1
  have hK := (hK.sub (tys' := []) [] rfl).app hK1
  generalize H1 = H at hP hS ⊢
  have hP : va_P (dC, dI) vwCl [(h1, .inr (6, [.int 0, .ref (g 0), .int 0])), (h0, .inr (23, [.int 0, .ref h1, v1, v2, v3, v4, v5, v6, .int 0])), (q5, .inr (1, [.ref q6, .int 0, .int 0, .int 0])), (q6, .inl (cy7, 16, .inl (fun _ => 0)))] H := hP
  have hD : va_D A [(h1, .inr (6, [.int 0, .ref (g 0), .int 0])), (h0, .inr (23, [.int 0, .ref h1, v1, v2, v3, v4, v5, v6, .int 0])), (q5, .inr (1, [.ref q6, .int 0, .int 0, .int 0])), (q6, .inl (cy7, 16, .inl (fun _ => 0)))] := hD
  have hK : va_K (dC, dI) vwCl [(cy7, .byte)] s := hK
  refine W.widen (k := 2) (n := 20) (Nat.le_of_ble_eq_true rfl) (Nat.le_of_ble_eq_true rfl) ?_
  refine lv_astore_n (lv' := [(3, .ref q5), (0, .ref h0), (1, .int x0), (2, .int 8)]) hx hb dX16_word_54 rfl hl (by decide) rfl (fun ls hl => ?_)
  refine lv_iconst (v := 0) hx hb dX16_word_55 (by decide) ?_
  refine lv_istore (lv' := [(4, .int 0), (3, .ref q5), (0, .ref h0), (1, .int x0), (2, .int 8)]) hx hb dX16_word_56 hl (by decide) rfl (fun ls hl => ?_)
  refine lv_iload hx hb dX16_word_58 (lv_at hl 0 rfl) ?_
  refine lv_iload_n hx hb dX16_word_60 rfl (lv_at hl 4 rfl) ?_
  refine lv_icmp_ge (tgt := 80) hx hb dX16_word_61 (by decide) (fun c8 => absurd c8 (by decide)) (fun c8 => ?_)
  refine lv_aload_n hx hb dX16_word_64 rfl (lv_at hl 1 rfl) ?_
  refine lv_bipush (v := 97) hx hb dX16_word_65 (by decide) ?_
  refine lv_iload_n hx hb dX16_word_67 rfl (lv_at hl 3 rfl) ?_
  refine lv_iadd hx hb dX16_word_68 ?_
  have r9 : (97 + x0).toInt = (97 : Int) + x0.toInt := fb_addI (show (-2147483648 : Int) ≤ (97 : Int) + x0.toInt by omega) (show (97 : Int) + x0.toInt < (2147483648 : Int) by omega)
  refine lv_i2c (v := (97 + x0)) hx hb dX16_word_69 (ns_i2c (show (0 : Int) ≤ (97 + x0).toInt by omega) (by omega)) ?_
  have hPc := hP.sub (ws' := [(q5, .inr (1, [.ref q6, .int 0, .int 0, .int 0])), (q6, .inl (cy7, 16, .inl (fun _ => 0)))]) [2, 3] rfl
  have hDc := hD.sub (ws' := [(q5, .inr (1, [.ref q6, .int 0, .int 0, .int 0])), (q6, .inl (cy7, 16, .inl (fun _ => 0)))]) [2, 3] (by decide) rfl
  have hKc := hK.sub (tys' := [(cy7, .byte)]) [0] rfl
  have hFc := va_free (wc := [(q5, .inr (1, [.ref q6, .int 0, .int 0, .int 0])), (q6, .inl (cy7, 16, .inl (fun _ => 0)))]) hD hS hA [2, 3] rfl
  refine va_callr (va_runV (As := [.int (97 + x0)]) (rest := []) ⟨hx, hb, hml, hown, hts⟩ (kJ4_append_cf468 l dC dI g H.size q5 (97 + x0) q6 (.int 0) cy7 (fun _ => 0) sb_fit0 ⟨by omega, by omega⟩) (cwV 1 hts (ns_gp (List.forall_mem_cons.mpr ⟨wm397, (List.forall_mem_cons.mpr ⟨wm398, (List.forall_mem_cons.mpr ⟨wm399, (List.forall_mem_cons.mpr ⟨wm137, (fun _ h9 => nomatch h9)⟩)⟩)⟩)⟩) wm310) rfl rfl rfl (by decide +kernel) ⟨Nat.le_of_ble_eq_true rfl, Nat.le_of_ble_eq_true rfl⟩) ⟨fun a U gg mk q => by obtain ⟨q0, q1, qP, qK, qD, qF⟩ := q; exact ⟨q0, q1, qP, va_K.moved (u := U) (U := U.calling gg mk a) (Vm.Alike.refl U.vm) qK, qD, ns_same qF⟩, va_recv hK hP (ci := 1) (q0 := 2) rfl rfl, fun U hU hW => ⟨rfl, by rw [hU], by rw [hU]; exact hPc, va_K.moved hW.alike hKc, hDc.weaken (fun _ _ _ _ => trivial), ns_call hF hS hFc hU hW⟩⟩ rfl rfl hl.1 rfl (lv_room (Nat.le_of_ble_eq_true rfl)) dX16_word_70 ⟨Nat.le_of_ble_eq_true rfl, Nat.le_of_ble_eq_true rfl⟩) hS (fun q _ h => hFc q h) hFc (fun u r9 t H1 locs ht hvm hw hB hz1 hk1 hS => ?_)
  obtain ⟨hr9, hP1, hK1, hD1⟩ := hB
  obtain rfl := hr9.symm
  rw [ht] at hP1
  have hK1 := va_K.moved hvm.symm hK1
  obtain ⟨hP, hD⟩ := va_join (wr := [(h1, .inr (6, [.int 0, .ref (g 0), .int 0])), (h0, .inr (23, [.int 0, .ref h1, v1, v2, v3, v4, v5, v6, .int 0]))]) (w1 := [(q6, .inl (cy7, 16, .inl (upd ((fun _ => 0)) 0 (vp_nar .byte (97 + x0).toInt8.toInt32)))), (q5, .inr (1, [.ref q6, .int 0, .int 0, .int 1]))]) hP hD [2, 3] [0, 1] rfl rfl (by decide) (by decide) hk1 hFc hP1 hD1
  have hK := (hK.sub (tys' := []) [] rfl).app hK1
  generalize H1 = H at hP hS ⊢
  have hP : va_P (dC, dI) vwCl [(h1, .inr (6, [.int 0, .ref (g 0), .int 0])), (h0, .inr (23, [.int 0, .ref h1, v1, v2, v3, v4, v5, v6, .int 0])), (q6, .inl (cy7, 16, .inl (upd ((fun _ => 0)) 0 (vp_nar .byte (97 + x0).toInt8.toInt32)))), (q5, .inr (1, [.ref q6, .int 0, .int 0, .int 1]))] H := hP
  have hD : va_D A [(h1, .inr (6, [.int 0, .ref (g 0), .int 0])), (h0, .inr (23, [.int 0, .ref h1, v1, v2, v3, v4, v5, v6, .int 0])), (q6, .inl (cy7, 16, .inl (upd ((fun _ => 0)) 0 (vp_nar .byte (97 + x0).toInt8.toInt32)))), (q5, .inr (1, [.ref q6, .int 0, .int 0, .int 1]))] := hD
  have hK : va_K (dC, dI) vwCl [(cy7, .byte)] s := hK
  refine W.widen (k := 2) (n := 20) (Nat.le_of_ble_eq_true rfl) (Nat.le_of_ble_eq_true rfl) ?_
  refine lv_pop hx hb dX16_word_73 rfl ?_
  refine lv_iinc (v := 1) (lv' := [(4, .int 1), (3, .ref q5), (0, .ref h0), (1, .int x0), (2, .int 8)]) hx hb dX16_word_74 hl (k := 0) rfl (by decide) (by decide) rfl (fun ls hl => ?_)
  refine lv_goto (tgt := 58) hx hb dX16_word_77 (by decide) ?_
  refine lv_iload hx hb dX16_word_58 (lv_at hl 0 rfl) ?_
  refine lv_iload_n hx hb dX16_word_60 rfl (lv_at hl 4 rfl) ?_
  refine lv_icmp_ge (tgt := 80) hx hb dX16_word_61 (by decide) (fun c10 => absurd c10 (by decide)) (fun c10 => ?_)
  refine lv_aload_n hx hb dX16_word_64 rfl (lv_at hl 1 rfl) ?_
  refine lv_bipush (v := 97) hx hb dX16_word_65 (by decide) ?_
  refine lv_iload_n hx hb dX16_word_67 rfl (lv_at hl 3 rfl) ?_
  refine lv_iadd hx hb dX16_word_68 ?_
  have r11 : (97 + x0).toInt = (97 : Int) + x0.toInt := fb_addI (show (-2147483648 : Int) ≤ (97 : Int) + x0.toInt by omega) (show (97 : Int) + x0.toInt < (2147483648 : Int) by omega)
  refine lv_i2c (v := (97 + x0)) hx hb dX16_word_69 (ns_i2c (show (0 : Int) ≤ (97 + x0).toInt by omega) (by omega)) ?_
  have hPc := hP.sub (ws' := [(q5, .inr (1, [.ref q6, .int 0, .int 0, .int 1])), (q6, .inl (cy7, 16, .inl (upd ((fun _ => 0)) 0 (vp_nar .byte (97 + x0).toInt8.toInt32))))]) [3, 2] rfl
  have hDc := hD.sub (ws' := [(q5, .inr (1, [.ref q6, .int 0, .int 0, .int 1])), (q6, .inl (cy7, 16, .inl (upd ((fun _ => 0)) 0 (vp_nar .byte (97 + x0).toInt8.toInt32))))]) [3, 2] (by decide) rfl
  have hKc := hK.sub (tys' := [(cy7, .byte)]) [0] rfl
  have hFc := va_free (wc := [(q5, .inr (1, [.ref q6, .int 0, .int 0, .int 1])), (q6, .inl (cy7, 16, .inl (upd ((fun _ => 0)) 0 (vp_nar .byte (97 + x0).toInt8.toInt32))))]) hD hS hA [3, 2] rfl
  refine va_callr (va_runV (As := [.int (97 + x0)]) (rest := []) ⟨hx, hb, hml, hown, hts⟩ (kJ4_append_cf468_2 l dC dI g H.size q5 (97 + x0) q6 (.int 0) cy7 (upd ((fun _ => 0)) 0 (vp_nar .byte (97 + x0).toInt8.toInt32)) (sb_fitU sb_fit0 (pk_fb _)) ⟨by omega, by omega⟩) (cwV 1 hts (ns_gp (List.forall_mem_cons.mpr ⟨wm397, (List.forall_mem_cons.mpr ⟨wm398, (List.forall_mem_cons.mpr ⟨wm399, (List.forall_mem_cons.mpr ⟨wm137, (fun _ h9 => nomatch h9)⟩)⟩)⟩)⟩) wm310) rfl rfl rfl (by decide +kernel) ⟨Nat.le_of_ble_eq_true rfl, Nat.le_of_ble_eq_true rfl⟩) ⟨fun a U gg mk q => by obtain ⟨q0, q1, qP, qK, qD, qF⟩ := q; exact ⟨q0, q1, qP, va_K.moved (u := U) (U := U.calling gg mk a) (Vm.Alike.refl U.vm) qK, qD, ns_same qF⟩, va_recv hK hP (ci := 1) (q0 := 3) rfl rfl, fun U hU hW => ⟨rfl, by rw [hU], by rw [hU]; exact hPc, va_K.moved hW.alike hKc, hDc.weaken (fun _ _ _ _ => trivial), ns_call hF hS hFc hU hW⟩⟩ rfl rfl hl.1 rfl (lv_room (Nat.le_of_ble_eq_true rfl)) dX16_word_70 ⟨Nat.le_of_ble_eq_true rfl, Nat.le_of_ble_eq_true rfl⟩) hS (fun q _ h => hFc q h) hFc (fun u r9 t H1 locs ht hvm hw hB hz1 hk1 hS => ?_)
  obtain ⟨hr9, hP1, hK1, hD1⟩ := hB
  obtain rfl := hr9.symm
  rw [ht] at hP1
  have hK1 := va_K.moved hvm.symm hK1
  obtain ⟨hP, hD⟩ := va_join (wr := [(h1, .inr (6, [.int 0, .ref (g 0), .int 0])), (h0, .inr (23, [.int 0, .ref h1, v1, v2, v3, v4, v5, v6, .int 0]))]) (w1 := [(q6, .inl (cy7, 16, .inl (upd ((upd ((fun _ => 0)) 0 (vp_nar .byte (97 + x0).toInt8.toInt32))) 1 (vp_nar .byte (97 + x0).toInt8.toInt32)))), (q5, .inr (1, [.ref q6, .int 0, .int 0, .int 2]))]) hP hD [3, 2] [0, 1] rfl rfl (by decide) (by decide) hk1 hFc hP1 hD1
  have hK := (hK.sub (tys' := []) [] rfl).app hK1
  generalize H1 = H at hP hS ⊢
  have hP : va_P (dC, dI) vwCl [(h1, .inr (6, [.int 0, .ref (g 0), .int 0])), (h0, .inr (23, [.int 0, .ref h1, v1, v2, v3, v4, v5, v6, .int 0])), (q6, .inl (cy7, 16, .inl (upd ((upd ((fun _ => 0)) 0 (vp_nar .byte (97 + x0).toInt8.toInt32))) 1 (vp_nar .byte (97 + x0).toInt8.toInt32)))), (q5, .inr (1, [.ref q6, .int 0, .int 0, .int 2]))] H := hP
  have hD : va_D A [(h1, .inr (6, [.int 0, .ref (g 0), .int 0])), (h0, .inr (23, [.int 0, .ref h1, v1, v2, v3, v4, v5, v6, .int 0])), (q6, .inl (cy7, 16, .inl (upd ((upd ((fun _ => 0)) 0 (vp_nar .byte (97 + x0).toInt8.toInt32))) 1 (vp_nar .byte (97 + x0).toInt8.toInt32)))), (q5, .inr (1, [.ref q6, .int 0, .int 0, .int 2]))] := hD
  have hK : va_K (dC, dI) vwCl [(cy7, .byte)] s := hK
  refine W.widen (k := 2) (n := 20) (Nat.le_of_ble_eq_true rfl) (Nat.le_of_ble_eq_true rfl) ?_
  refine lv_pop hx hb dX16_word_73 rfl ?_
  refine lv_iinc (v := 2) (lv' := [(4, .int 2), (3, .ref q5), (0, .ref h0), (1, .int x0), (2, .int 8)]) hx hb dX16_word_74 hl (k := 0) rfl (by decide) (by decide) rfl (fun ls hl => ?_)
  refine lv_goto (tgt := 58) hx hb dX16_word_77 (by decide) ?_
  refine lv_iload hx hb dX16_word_58 (lv_at hl 0 rfl) ?_
  refine lv_iload_n hx hb dX16_word_60 rfl (lv_at hl 4 rfl) ?_
  refine lv_icmp_ge (tgt := 80) hx hb dX16_word_61 (by decide) (fun c12 => absurd c12 (by decide)) (fun c12 => ?_)
  refine lv_aload_n hx hb dX16_word_64 rfl (lv_at hl 1 rfl) ?_
  refine lv_bipush (v := 97) hx hb dX16_word_65 (by decide) ?_
  refine lv_iload_n hx hb dX16_word_67 rfl (lv_at hl 3 rfl) ?_
  refine lv_iadd hx hb dX16_word_68 ?_
  have r13 : (97 + x0).toInt = (97 : Int) + x0.toInt := fb_addI (show (-2147483648 : Int) ≤ (97 : Int) + x0.toInt by omega) (show (97 : Int) + x0.toInt < (2147483648 : Int) by omega)
  refine lv_i2c (v := (97 + x0)) hx hb dX16_word_69 (ns_i2c (show (0 : Int) ≤ (97 + x0).toInt by omega) (by omega)) ?_
  have hPc := hP.sub (ws' := [(q5, .inr (1, [.ref q6, .int 0, .int 0, .int 2])), (q6, .inl (cy7, 16, .inl (upd ((upd ((fun _ => 0)) 0 (vp_nar .byte (97 + x0).toInt8.toInt32))) 1 (vp_nar .byte (97 + x0).toInt8.toInt32))))]) [3, 2] rfl
  have hDc := hD.sub (ws' := [(q5, .inr (1, [.ref q6, .int 0, .int 0, .int 2])), (q6, .inl (cy7, 16, .inl (upd ((upd ((fun _ => 0)) 0 (vp_nar .byte (97 + x0).toInt8.toInt32))) 1 (vp_nar .byte (97 + x0).toInt8.toInt32))))]) [3, 2] (by decide) rfl
  have hKc := hK.sub (tys' := [(cy7, .byte)]) [0] rfl
  have hFc := va_free (wc := [(q5, .inr (1, [.ref q6, .int 0, .int 0, .int 2])), (q6, .inl (cy7, 16, .inl (upd ((upd ((fun _ => 0)) 0 (vp_nar .byte (97 + x0).toInt8.toInt32))) 1 (vp_nar .byte (97 + x0).toInt8.toInt32))))]) hD hS hA [3, 2] rfl
  refine va_callr (va_runV (As := [.int (97 + x0)]) (rest := []) ⟨hx, hb, hml, hown, hts⟩ (kJ4_append_cf468_3 l dC dI g H.size q5 (97 + x0) q6 (.int 0) cy7 (upd ((upd ((fun _ => 0)) 0 (vp_nar .byte (97 + x0).toInt8.toInt32))) 1 (vp_nar .byte (97 + x0).toInt8.toInt32)) (sb_fitU (sb_fitU sb_fit0 (pk_fb _)) (pk_fb _)) ⟨by omega, by omega⟩) (cwV 1 hts (ns_gp (List.forall_mem_cons.mpr ⟨wm397, (List.forall_mem_cons.mpr ⟨wm398, (List.forall_mem_cons.mpr ⟨wm399, (List.forall_mem_cons.mpr ⟨wm137, (fun _ h9 => nomatch h9)⟩)⟩)⟩)⟩) wm310) rfl rfl rfl (by decide +kernel) ⟨Nat.le_of_ble_eq_true rfl, Nat.le_of_ble_eq_true rfl⟩) ⟨fun a U gg mk q => by obtain ⟨q0, q1, qP, qK, qD, qF⟩ := q; exact ⟨q0, q1, qP, va_K.moved (u := U) (U := U.calling gg mk a) (Vm.Alike.refl U.vm) qK, qD, ns_same qF⟩, va_recv hK hP (ci := 1) (q0 := 3) rfl rfl, fun U hU hW => ⟨rfl, by rw [hU], by rw [hU]; exact hPc, va_K.moved hW.alike hKc, hDc.weaken (fun _ _ _ _ => trivial), ns_call hF hS hFc hU hW⟩⟩ rfl rfl hl.1 rfl (lv_room (Nat.le_of_ble_eq_true rfl)) dX16_word_70 ⟨Nat.le_of_ble_eq_true rfl, Nat.le_of_ble_eq_true rfl⟩) hS (fun q _ h => hFc q h) hFc (fun u r9 t H1 locs ht hvm hw hB hz1 hk1 hS => ?_)
  obtain ⟨hr9, hP1, hK1, hD1⟩ := hB
  obtain rfl := hr9.symm
  rw [ht] at hP1
  have hK1 := va_K.moved hvm.symm hK1
  obtain ⟨hP, hD⟩ := va_join (wr := [(h1, .inr (6, [.int 0, .ref (g 0), .int 0])), (h0, .inr (23, [.int 0, .ref h1, v1, v2, v3, v4, v5, v6, .int 0]))]) (w1 := [(q6, .inl (cy7, 16, .inl (upd ((upd ((upd ((fun _ => 0)) 0 (vp_nar .byte (97 + x0).toInt8.toInt32))) 1 (vp_nar .byte (97 + x0).toInt8.toInt32))) 2 (vp_nar .byte (97 + x0).toInt8.toInt32)))), (q5, .inr (1, [.ref q6, .int 0, .int 0, .int 3]))]) hP hD [3, 2] [0, 1] rfl rfl (by decide) (by decide) hk1 hFc hP1 hD1
  have hK := (hK.sub (tys' := []) [] rfl).app hK1
  generalize H1 = H at hP hS ⊢
  have hP : va_P (dC, dI) vwCl [(h1, .inr (6, [.int 0, .ref (g 0), .int 0])), (h0, .inr (23, [.int 0, .ref h1, v1, v2, v3, v4, v5, v6, .int 0])), (q6, .inl (cy7, 16, .inl (upd ((upd ((upd ((fun _ => 0)) 0 (vp_nar .byte (97 + x0).toInt8.toInt32))) 1 (vp_nar .byte (97 + x0).toInt8.toInt32))) 2 (vp_nar .byte (97 + x0).toInt8.toInt32)))), (q5, .inr (1, [.ref q6, .int 0, .int 0, .int 3]))] H := hP
  have hD : va_D A [(h1, .inr (6, [.int 0, .ref (g 0), .int 0])), (h0, .inr (23, [.int 0, .ref h1, v1, v2, v3, v4, v5, v6, .int 0])), (q6, .inl (cy7, 16, .inl (upd ((upd ((upd ((fun _ => 0)) 0 (vp_nar .byte (97 + x0).toInt8.toInt32))) 1 (vp_nar .byte (97 + x0).toInt8.toInt32))) 2 (vp_nar .byte (97 + x0).toInt8.toInt32)))), (q5, .inr (1, [.ref q6, .int 0, .int 0, .int 3]))] := hD
  have hK : va_K (dC, dI) vwCl [(cy7, .byte)] s := hK
  refine W.widen (k := 2) (n := 20) (Nat.le_of_ble_eq_true rfl) (Nat.le_of_ble_eq_true rfl) ?_
  refine lv_pop hx hb dX16_word_73 rfl ?_
  refine lv_iinc (v := 3) (lv' := [(4, .int 3), (3, .ref q5), (0, .ref h0), (1, .int x0), (2, .int 8)]) hx hb dX16_word_74 hl (k := 0) rfl (by decide) (by decide) rfl (fun ls hl => ?_)
  refine lv_goto (tgt := 58) hx hb dX16_word_77 (by decide) ?_
  refine lv_iload hx hb dX16_word_58 (lv_at hl 0 rfl) ?_
  refine lv_iload_n hx hb dX16_word_60 rfl (lv_at hl 4 rfl) ?_
  refine lv_icmp_ge (tgt := 80) hx hb dX16_word_61 (by decide) (fun c14 => absurd c14 (by decide)) (fun c14 => ?_)
  refine lv_aload_n hx hb dX16_word_64 rfl (lv_at hl 1 rfl) ?_
  refine lv_bipush (v := 97) hx hb dX16_word_65 (by decide) ?_
  refine lv_iload_n hx hb dX16_word_67 rfl (lv_at hl 3 rfl) ?_
  refine lv_iadd hx hb dX16_word_68 ?_
  have r15 : (97 + x0).toInt = (97 : Int) + x0.toInt := fb_addI (show (-2147483648 : Int) ≤ (97 : Int) + x0.toInt by omega) (show (97 : Int) + x0.toInt < (2147483648 : Int) by omega)
  refine lv_i2c (v := (97 + x0)) hx hb dX16_word_69 (ns_i2c (show (0 : Int) ≤ (97 + x0).toInt by omega) (by omega)) ?_
  have hPc := hP.sub (ws' := [(q5, .inr (1, [.ref q6, .int 0, .int 0, .int 3])), (q6, .inl (cy7, 16, .inl (upd ((upd ((upd ((fun _ => 0)) 0 (vp_nar .byte (97 + x0).toInt8.toInt32))) 1 (vp_nar .byte (97 + x0).toInt8.toInt32))) 2 (vp_nar .byte (97 + x0).toInt8.toInt32))))]) [3, 2] rfl
  have hDc := hD.sub (ws' := [(q5, .inr (1, [.ref q6, .int 0, .int 0, .int 3])), (q6, .inl (cy7, 16, .inl (upd ((upd ((upd ((fun _ => 0)) 0 (vp_nar .byte (97 + x0).toInt8.toInt32))) 1 (vp_nar .byte (97 + x0).toInt8.toInt32))) 2 (vp_nar .byte (97 + x0).toInt8.toInt32))))]) [3, 2] (by decide) rfl
  have hKc := hK.sub (tys' := [(cy7, .byte)]) [0] rfl
  have hFc := va_free (wc := [(q5, .inr (1, [.ref q6, .int 0, .int 0, .int 3])), (q6, .inl (cy7, 16, .inl (upd ((upd ((upd ((fun _ => 0)) 0 (vp_nar .byte (97 + x0).toInt8.toInt32))) 1 (vp_nar .byte (97 + x0).toInt8.toInt32))) 2 (vp_nar .byte (97 + x0).toInt8.toInt32))))]) hD hS hA [3, 2] rfl
  refine va_callr (va_runV (As := [.int (97 + x0)]) (rest := []) ⟨hx, hb, hml, hown, hts⟩ (kJ4_append_cf468_4 l dC dI g H.size q5 (97 + x0) q6 (.int 0) cy7 (upd ((upd ((upd ((fun _ => 0)) 0 (vp_nar .byte (97 + x0).toInt8.toInt32))) 1 (vp_nar .byte (97 + x0).toInt8.toInt32))) 2 (vp_nar .byte (97 + x0).toInt8.toInt32)) (sb_fitU (sb_fitU (sb_fitU sb_fit0 (pk_fb _)) (pk_fb _)) (pk_fb _)) ⟨by omega, by omega⟩) (cwV 1 hts (ns_gp (List.forall_mem_cons.mpr ⟨wm397, (List.forall_mem_cons.mpr ⟨wm398, (List.forall_mem_cons.mpr ⟨wm399, (List.forall_mem_cons.mpr ⟨wm137, (fun _ h9 => nomatch h9)⟩)⟩)⟩)⟩) wm310) rfl rfl rfl (by decide +kernel) ⟨Nat.le_of_ble_eq_true rfl, Nat.le_of_ble_eq_true rfl⟩) ⟨fun a U gg mk q => by obtain ⟨q0, q1, qP, qK, qD, qF⟩ := q; exact ⟨q0, q1, qP, va_K.moved (u := U) (U := U.calling gg mk a) (Vm.Alike.refl U.vm) qK, qD, ns_same qF⟩, va_recv hK hP (ci := 1) (q0 := 3) rfl rfl, fun U hU hW => ⟨rfl, by rw [hU], by rw [hU]; exact hPc, va_K.moved hW.alike hKc, hDc.weaken (fun _ _ _ _ => trivial), ns_call hF hS hFc hU hW⟩⟩ rfl rfl hl.1 rfl (lv_room (Nat.le_of_ble_eq_true rfl)) dX16_word_70 ⟨Nat.le_of_ble_eq_true rfl, Nat.le_of_ble_eq_true rfl⟩) hS (fun q _ h => hFc q h) hFc (fun u r9 t H1 locs ht hvm hw hB hz1 hk1 hS => ?_)
  obtain ⟨hr9, hP1, hK1, hD1⟩ := hB
  obtain rfl := hr9.symm
  rw [ht] at hP1
  have hK1 := va_K.moved hvm.symm hK1
  obtain ⟨hP, hD⟩ := va_join (wr := [(h1, .inr (6, [.int 0, .ref (g 0), .int 0])), (h0, .inr (23, [.int 0, .ref h1, v1, v2, v3, v4, v5, v6, .int 0]))]) (w1 := [(q6, .inl (cy7, 16, .inl (upd ((upd ((upd ((upd ((fun _ => 0)) 0 (vp_nar .byte (97 + x0).toInt8.toInt32))) 1 (vp_nar .byte (97 + x0).toInt8.toInt32))) 2 (vp_nar .byte (97 + x0).toInt8.toInt32))) 3 (vp_nar .byte (97 + x0).toInt8.toInt32)))), (q5, .inr (1, [.ref q6, .int 0, .int 0, .int 4]))]) hP hD [3, 2] [0, 1] rfl rfl (by decide) (by decide) hk1 hFc hP1 hD1
  have hK := (hK.sub (tys' := []) [] rfl).app hK1
  generalize H1 = H at hP hS ⊢
  have hP : va_P (dC, dI) vwCl [(h1, .inr (6, [.int 0, .ref (g 0), .int 0])), (h0, .inr (23, [.int 0, .ref h1, v1, v2, v3, v4, v5, v6, .int 0])), (q6, .inl (cy7, 16, .inl (upd ((upd ((upd ((upd ((fun _ => 0)) 0 (vp_nar .byte (97 + x0).toInt8.toInt32))) 1 (vp_nar .byte (97 + x0).toInt8.toInt32))) 2 (vp_nar .byte (97 + x0).toInt8.toInt32))) 3 (vp_nar .byte (97 + x0).toInt8.toInt32)))), (q5, .inr (1, [.ref q6, .int 0, .int 0, .int 4]))] H := hP
  have hD : va_D A [(h1, .inr (6, [.int 0, .ref (g 0), .int 0])), (h0, .inr (23, [.int 0, .ref h1, v1, v2, v3, v4, v5, v6, .int 0])), (q6, .inl (cy7, 16, .inl (upd ((upd ((upd ((upd ((fun _ => 0)) 0 (vp_nar .byte (97 + x0).toInt8.toInt32))) 1 (vp_nar .byte (97 + x0).toInt8.toInt32))) 2 (vp_nar .byte (97 + x0).toInt8.toInt32))) 3 (vp_nar .byte (97 + x0).toInt8.toInt32)))), (q5, .inr (1, [.ref q6, .int 0, .int 0, .int 4]))] := hD
  have hK : va_K (dC, dI) vwCl [(cy7, .byte)] s := hK
  refine W.widen (k := 2) (n := 20) (Nat.le_of_ble_eq_true rfl) (Nat.le_of_ble_eq_true rfl) ?_
  refine lv_pop hx hb dX16_word_73 rfl ?_
  refine lv_iinc (v := 4) (lv' := [(4, .int 4), (3, .ref q5), (0, .ref h0), (1, .int x0), (2, .int 8)]) hx hb dX16_word_74 hl (k := 0) rfl (by decide) (by decide) rfl (fun ls hl => ?_)
  refine lv_goto (tgt := 58) hx hb dX16_word_77 (by decide) ?_
  refine lv_iload hx hb dX16_word_58 (lv_at hl 0 rfl) ?_
  refine lv_iload_n hx hb dX16_word_60 rfl (lv_at hl 4 rfl) ?_
  refine lv_icmp_ge (tgt := 80) hx hb dX16_word_61 (by decide) (fun c16 => absurd c16 (by decide)) (fun c16 => ?_)
  refine lv_aload_n hx hb dX16_word_64 rfl (lv_at hl 1 rfl) ?_
  refine lv_bipush (v := 97) hx hb dX16_word_65 (by decide) ?_
  refine lv_iload_n hx hb dX16_word_67 rfl (lv_at hl 3 rfl) ?_
  refine lv_iadd hx hb dX16_word_68 ?_
  have r17 : (97 + x0).toInt = (97 : Int) + x0.toInt := fb_addI (show (-2147483648 : Int) ≤ (97 : Int) + x0.toInt by omega) (show (97 : Int) + x0.toInt < (2147483648 : Int) by omega)
  refine lv_i2c (v := (97 + x0)) hx hb dX16_word_69 (ns_i2c (show (0 : Int) ≤ (97 + x0).toInt by omega) (by omega)) ?_
  have hPc := hP.sub (ws' := [(q5, .inr (1, [.ref q6, .int 0, .int 0, .int 4])), (q6, .inl (cy7, 16, .inl (upd ((upd ((upd ((upd ((fun _ => 0)) 0 (vp_nar .byte (97 + x0).toInt8.toInt32))) 1 (vp_nar .byte (97 + x0).toInt8.toInt32))) 2 (vp_nar .byte (97 + x0).toInt8.toInt32))) 3 (vp_nar .byte (97 + x0).toInt8.toInt32))))]) [3, 2] rfl
  have hDc := hD.sub (ws' := [(q5, .inr (1, [.ref q6, .int 0, .int 0, .int 4])), (q6, .inl (cy7, 16, .inl (upd ((upd ((upd ((upd ((fun _ => 0)) 0 (vp_nar .byte (97 + x0).toInt8.toInt32))) 1 (vp_nar .byte (97 + x0).toInt8.toInt32))) 2 (vp_nar .byte (97 + x0).toInt8.toInt32))) 3 (vp_nar .byte (97 + x0).toInt8.toInt32))))]) [3, 2] (by decide) rfl
  have hKc := hK.sub (tys' := [(cy7, .byte)]) [0] rfl
  have hFc := va_free (wc := [(q5, .inr (1, [.ref q6, .int 0, .int 0, .int 4])), (q6, .inl (cy7, 16, .inl (upd ((upd ((upd ((upd ((fun _ => 0)) 0 (vp_nar .byte (97 + x0).toInt8.toInt32))) 1 (vp_nar .byte (97 + x0).toInt8.toInt32))) 2 (vp_nar .byte (97 + x0).toInt8.toInt32))) 3 (vp_nar .byte (97 + x0).toInt8.toInt32))))]) hD hS hA [3, 2] rfl
  refine va_callr (va_runV (As := [.int (97 + x0)]) (rest := []) ⟨hx, hb, hml, hown, hts⟩ (kJ4_append_cf468_5 l dC dI g H.size q5 (97 + x0) q6 (.int 0) cy7 (upd ((upd ((upd ((upd ((fun _ => 0)) 0 (vp_nar .byte (97 + x0).toInt8.toInt32))) 1 (vp_nar .byte (97 + x0).toInt8.toInt32))) 2 (vp_nar .byte (97 + x0).toInt8.toInt32))) 3 (vp_nar .byte (97 + x0).toInt8.toInt32)) (sb_fitU (sb_fitU (sb_fitU (sb_fitU sb_fit0 (pk_fb _)) (pk_fb _)) (pk_fb _)) (pk_fb _)) ⟨by omega, by omega⟩) (cwV 1 hts (ns_gp (List.forall_mem_cons.mpr ⟨wm397, (List.forall_mem_cons.mpr ⟨wm398, (List.forall_mem_cons.mpr ⟨wm399, (List.forall_mem_cons.mpr ⟨wm137, (fun _ h9 => nomatch h9)⟩)⟩)⟩)⟩) wm310) rfl rfl rfl (by decide +kernel) ⟨Nat.le_of_ble_eq_true rfl, Nat.le_of_ble_eq_true rfl⟩) ⟨fun a U gg mk q => by obtain ⟨q0, q1, qP, qK, qD, qF⟩ := q; exact ⟨q0, q1, qP, va_K.moved (u := U) (U := U.calling gg mk a) (Vm.Alike.refl U.vm) qK, qD, ns_same qF⟩, va_recv hK hP (ci := 1) (q0 := 3) rfl rfl, fun U hU hW => ⟨rfl, by rw [hU], by rw [hU]; exact hPc, va_K.moved hW.alike hKc, hDc.weaken (fun _ _ _ _ => trivial), ns_call hF hS hFc hU hW⟩⟩ rfl rfl hl.1 rfl (lv_room (Nat.le_of_ble_eq_true rfl)) dX16_word_70 ⟨Nat.le_of_ble_eq_true rfl, Nat.le_of_ble_eq_true rfl⟩) hS (fun q _ h => hFc q h) hFc (fun u r9 t H1 locs ht hvm hw hB hz1 hk1 hS => ?_)
  obtain ⟨hr9, hP1, hK1, hD1⟩ := hB
  obtain rfl := hr9.symm
  rw [ht] at hP1
  have hK1 := va_K.moved hvm.symm hK1
  obtain ⟨hP, hD⟩ := va_join (wr := [(h1, .inr (6, [.int 0, .ref (g 0), .int 0])), (h0, .inr (23, [.int 0, .ref h1, v1, v2, v3, v4, v5, v6, .int 0]))]) (w1 := [(q6, .inl (cy7, 16, .inl (upd ((upd ((upd ((upd ((upd ((fun _ => 0)) 0 (vp_nar .byte (97 + x0).toInt8.toInt32))) 1 (vp_nar .byte (97 + x0).toInt8.toInt32))) 2 (vp_nar .byte (97 + x0).toInt8.toInt32))) 3 (vp_nar .byte (97 + x0).toInt8.toInt32))) 4 (vp_nar .byte (97 + x0).toInt8.toInt32)))), (q5, .inr (1, [.ref q6, .int 0, .int 0, .int 5]))]) hP hD [3, 2] [0, 1] rfl rfl (by decide) (by decide) hk1 hFc hP1 hD1
  have hK := (hK.sub (tys' := []) [] rfl).app hK1
  generalize H1 = H at hP hS ⊢
  have hP : va_P (dC, dI) vwCl [(h1, .inr (6, [.int 0, .ref (g 0), .int 0])), (h0, .inr (23, [.int 0, .ref h1, v1, v2, v3, v4, v5, v6, .int 0])), (q6, .inl (cy7, 16, .inl (upd ((upd ((upd ((upd ((upd ((fun _ => 0)) 0 (vp_nar .byte (97 + x0).toInt8.toInt32))) 1 (vp_nar .byte (97 + x0).toInt8.toInt32))) 2 (vp_nar .byte (97 + x0).toInt8.toInt32))) 3 (vp_nar .byte (97 + x0).toInt8.toInt32))) 4 (vp_nar .byte (97 + x0).toInt8.toInt32)))), (q5, .inr (1, [.ref q6, .int 0, .int 0, .int 5]))] H := hP
  have hD : va_D A [(h1, .inr (6, [.int 0, .ref (g 0), .int 0])), (h0, .inr (23, [.int 0, .ref h1, v1, v2, v3, v4, v5, v6, .int 0])), (q6, .inl (cy7, 16, .inl (upd ((upd ((upd ((upd ((upd ((fun _ => 0)) 0 (vp_nar .byte (97 + x0).toInt8.toInt32))) 1 (vp_nar .byte (97 + x0).toInt8.toInt32))) 2 (vp_nar .byte (97 + x0).toInt8.toInt32))) 3 (vp_nar .byte (97 + x0).toInt8.toInt32))) 4 (vp_nar .byte (97 + x0).toInt8.toInt32)))), (q5, .inr (1, [.ref q6, .int 0, .int 0, .int 5]))] := hD
  have hK : va_K (dC, dI) vwCl [(cy7, .byte)] s := hK
  refine W.widen (k := 2) (n := 20) (Nat.le_of_ble_eq_true rfl) (Nat.le_of_ble_eq_true rfl) ?_
  refine lv_pop hx hb dX16_word_73 rfl ?_
  refine lv_iinc (v := 5) (lv' := [(4, .int 5), (3, .ref q5), (0, .ref h0), (1, .int x0), (2, .int 8)]) hx hb dX16_word_74 hl (k := 0) rfl (by decide) (by decide) rfl (fun ls hl => ?_)
  refine lv_goto (tgt := 58) hx hb dX16_word_77 (by decide) ?_
  refine lv_iload hx hb dX16_word_58 (lv_at hl 0 rfl) ?_
  refine lv_iload_n hx hb dX16_word_60 rfl (lv_at hl 4 rfl) ?_
  refine lv_icmp_ge (tgt := 80) hx hb dX16_word_61 (by decide) (fun c18 => absurd c18 (by decide)) (fun c18 => ?_)
  refine lv_aload_n hx hb dX16_word_64 rfl (lv_at hl 1 rfl) ?_
  refine lv_bipush (v := 97) hx hb dX16_word_65 (by decide) ?_
  refine lv_iload_n hx hb dX16_word_67 rfl (lv_at hl 3 rfl) ?_
  refine lv_iadd hx hb dX16_word_68 ?_
  have r19 : (97 + x0).toInt = (97 : Int) + x0.toInt := fb_addI (show (-2147483648 : Int) ≤ (97 : Int) + x0.toInt by omega) (show (97 : Int) + x0.toInt < (2147483648 : Int) by omega)
  refine lv_i2c (v := (97 + x0)) hx hb dX16_word_69 (ns_i2c (show (0 : Int) ≤ (97 + x0).toInt by omega) (by omega)) ?_
  have hPc := hP.sub (ws' := [(q5, .inr (1, [.ref q6, .int 0, .int 0, .int 5])), (q6, .inl (cy7, 16, .inl (upd ((upd ((upd ((upd ((upd ((fun _ => 0)) 0 (vp_nar .byte (97 + x0).toInt8.toInt32))) 1 (vp_nar .byte (97 + x0).toInt8.toInt32))) 2 (vp_nar .byte (97 + x0).toInt8.toInt32))) 3 (vp_nar .byte (97 + x0).toInt8.toInt32))) 4 (vp_nar .byte (97 + x0).toInt8.toInt32))))]) [3, 2] rfl
  have hDc := hD.sub (ws' := [(q5, .inr (1, [.ref q6, .int 0, .int 0, .int 5])), (q6, .inl (cy7, 16, .inl (upd ((upd ((upd ((upd ((upd ((fun _ => 0)) 0 (vp_nar .byte (97 + x0).toInt8.toInt32))) 1 (vp_nar .byte (97 + x0).toInt8.toInt32))) 2 (vp_nar .byte (97 + x0).toInt8.toInt32))) 3 (vp_nar .byte (97 + x0).toInt8.toInt32))) 4 (vp_nar .byte (97 + x0).toInt8.toInt32))))]) [3, 2] (by decide) rfl
  have hKc := hK.sub (tys' := [(cy7, .byte)]) [0] rfl
  have hFc := va_free (wc := [(q5, .inr (1, [.ref q6, .int 0, .int 0, .int 5])), (q6, .inl (cy7, 16, .inl (upd ((upd ((upd ((upd ((upd ((fun _ => 0)) 0 (vp_nar .byte (97 + x0).toInt8.toInt32))) 1 (vp_nar .byte (97 + x0).toInt8.toInt32))) 2 (vp_nar .byte (97 + x0).toInt8.toInt32))) 3 (vp_nar .byte (97 + x0).toInt8.toInt32))) 4 (vp_nar .byte (97 + x0).toInt8.toInt32))))]) hD hS hA [3, 2] rfl
  refine va_callr (va_runV (As := [.int (97 + x0)]) (rest := []) ⟨hx, hb, hml, hown, hts⟩ (kJ4_append_cf468_6 l dC dI g H.size q5 (97 + x0) q6 (.int 0) cy7 (upd ((upd ((upd ((upd ((upd ((fun _ => 0)) 0 (vp_nar .byte (97 + x0).toInt8.toInt32))) 1 (vp_nar .byte (97 + x0).toInt8.toInt32))) 2 (vp_nar .byte (97 + x0).toInt8.toInt32))) 3 (vp_nar .byte (97 + x0).toInt8.toInt32))) 4 (vp_nar .byte (97 + x0).toInt8.toInt32)) (sb_fitU (sb_fitU (sb_fitU (sb_fitU (sb_fitU sb_fit0 (pk_fb _)) (pk_fb _)) (pk_fb _)) (pk_fb _)) (pk_fb _)) ⟨by omega, by omega⟩) (cwV 1 hts (ns_gp (List.forall_mem_cons.mpr ⟨wm397, (List.forall_mem_cons.mpr ⟨wm398, (List.forall_mem_cons.mpr ⟨wm399, (List.forall_mem_cons.mpr ⟨wm137, (fun _ h9 => nomatch h9)⟩)⟩)⟩)⟩) wm310) rfl rfl rfl (by decide +kernel) ⟨Nat.le_of_ble_eq_true rfl, Nat.le_of_ble_eq_true rfl⟩) ⟨fun a U gg mk q => by obtain ⟨q0, q1, qP, qK, qD, qF⟩ := q; exact ⟨q0, q1, qP, va_K.moved (u := U) (U := U.calling gg mk a) (Vm.Alike.refl U.vm) qK, qD, ns_same qF⟩, va_recv hK hP (ci := 1) (q0 := 3) rfl rfl, fun U hU hW => ⟨rfl, by rw [hU], by rw [hU]; exact hPc, va_K.moved hW.alike hKc, hDc.weaken (fun _ _ _ _ => trivial), ns_call hF hS hFc hU hW⟩⟩ rfl rfl hl.1 rfl (lv_room (Nat.le_of_ble_eq_true rfl)) dX16_word_70 ⟨Nat.le_of_ble_eq_true rfl, Nat.le_of_ble_eq_true rfl⟩) hS (fun q _ h => hFc q h) hFc (fun u r9 t H1 locs ht hvm hw hB hz1 hk1 hS => ?_)
  obtain ⟨hr9, hP1, hK1, hD1⟩ := hB
  obtain rfl := hr9.symm
  rw [ht] at hP1
  have hK1 := va_K.moved hvm.symm hK1
  obtain ⟨hP, hD⟩ := va_join (wr := [(h1, .inr (6, [.int 0, .ref (g 0), .int 0])), (h0, .inr (23, [.int 0, .ref h1, v1, v2, v3, v4, v5, v6, .int 0]))]) (w1 := [(q6, .inl (cy7, 16, .inl (upd ((upd ((upd ((upd ((upd ((upd ((fun _ => 0)) 0 (vp_nar .byte (97 + x0).toInt8.toInt32))) 1 (vp_nar .byte (97 + x0).toInt8.toInt32))) 2 (vp_nar .byte (97 + x0).toInt8.toInt32))) 3 (vp_nar .byte (97 + x0).toInt8.toInt32))) 4 (vp_nar .byte (97 + x0).toInt8.toInt32))) 5 (vp_nar .byte (97 + x0).toInt8.toInt32)))), (q5, .inr (1, [.ref q6, .int 0, .int 0, .int 6]))]) hP hD [3, 2] [0, 1] rfl rfl (by decide) (by decide) hk1 hFc hP1 hD1
  have hK := (hK.sub (tys' := []) [] rfl).app hK1
  generalize H1 = H at hP hS ⊢
  have hP : va_P (dC, dI) vwCl [(h1, .inr (6, [.int 0, .ref (g 0), .int 0])), (h0, .inr (23, [.int 0, .ref h1, v1, v2, v3, v4, v5, v6, .int 0])), (q6, .inl (cy7, 16, .inl (upd ((upd ((upd ((upd ((upd ((upd ((fun _ => 0)) 0 (vp_nar .byte (97 + x0).toInt8.toInt32))) 1 (vp_nar .byte (97 + x0).toInt8.toInt32))) 2 (vp_nar .byte (97 + x0).toInt8.toInt32))) 3 (vp_nar .byte (97 + x0).toInt8.toInt32))) 4 (vp_nar .byte (97 + x0).toInt8.toInt32))) 5 (vp_nar .byte (97 + x0).toInt8.toInt32)))), (q5, .inr (1, [.ref q6, .int 0, .int 0, .int 6]))] H := hP
  have hD : va_D A [(h1, .inr (6, [.int 0, .ref (g 0), .int 0])), (h0, .inr (23, [.int 0, .ref h1, v1, v2, v3, v4, v5, v6, .int 0])), (q6, .inl (cy7, 16, .inl (upd ((upd ((upd ((upd ((upd ((upd ((fun _ => 0)) 0 (vp_nar .byte (97 + x0).toInt8.toInt32))) 1 (vp_nar .byte (97 + x0).toInt8.toInt32))) 2 (vp_nar .byte (97 + x0).toInt8.toInt32))) 3 (vp_nar .byte (97 + x0).toInt8.toInt32))) 4 (vp_nar .byte (97 + x0).toInt8.toInt32))) 5 (vp_nar .byte (97 + x0).toInt8.toInt32)))), (q5, .inr (1, [.ref q6, .int 0, .int 0, .int 6]))] := hD
  have hK : va_K (dC, dI) vwCl [(cy7, .byte)] s := hK
  refine W.widen (k := 2) (n := 20) (Nat.le_of_ble_eq_true rfl) (Nat.le_of_ble_eq_true rfl) ?_
  refine lv_pop hx hb dX16_word_73 rfl ?_
  refine lv_iinc (v := 6) (lv' := [(4, .int 6), (3, .ref q5), (0, .ref h0), (1, .int x0), (2, .int 8)]) hx hb dX16_word_74 hl (k := 0) rfl (by decide) (by decide) rfl (fun ls hl => ?_)
  refine lv_goto (tgt := 58) hx hb dX16_word_77 (by decide) ?_
  refine lv_iload hx hb dX16_word_58 (lv_at hl 0 rfl) ?_
  refine lv_iload_n hx hb dX16_word_60 rfl (lv_at hl 4 rfl) ?_
  refine lv_icmp_ge (tgt := 80) hx hb dX16_word_61 (by decide) (fun c20 => absurd c20 (by decide)) (fun c20 => ?_)
  refine lv_aload_n hx hb dX16_word_64 rfl (lv_at hl 1 rfl) ?_
  refine lv_bipush (v := 97) hx hb dX16_word_65 (by decide) ?_
  refine lv_iload_n hx hb dX16_word_67 rfl (lv_at hl 3 rfl) ?_
  refine lv_iadd hx hb dX16_word_68 ?_
  have r21 : (97 + x0).toInt = (97 : Int) + x0.toInt := fb_addI (show (-2147483648 : Int) ≤ (97 : Int) + x0.toInt by omega) (show (97 : Int) + x0.toInt < (2147483648 : Int) by omega)
  refine lv_i2c (v := (97 + x0)) hx hb dX16_word_69 (ns_i2c (show (0 : Int) ≤ (97 + x0).toInt by omega) (by omega)) ?_
  have hPc := hP.sub (ws' := [(q5, .inr (1, [.ref q6, .int 0, .int 0, .int 6])), (q6, .inl (cy7, 16, .inl (upd ((upd ((upd ((upd ((upd ((upd ((fun _ => 0)) 0 (vp_nar .byte (97 + x0).toInt8.toInt32))) 1 (vp_nar .byte (97 + x0).toInt8.toInt32))) 2 (vp_nar .byte (97 + x0).toInt8.toInt32))) 3 (vp_nar .byte (97 + x0).toInt8.toInt32))) 4 (vp_nar .byte (97 + x0).toInt8.toInt32))) 5 (vp_nar .byte (97 + x0).toInt8.toInt32))))]) [3, 2] rfl
  have hDc := hD.sub (ws' := [(q5, .inr (1, [.ref q6, .int 0, .int 0, .int 6])), (q6, .inl (cy7, 16, .inl (upd ((upd ((upd ((upd ((upd ((upd ((fun _ => 0)) 0 (vp_nar .byte (97 + x0).toInt8.toInt32))) 1 (vp_nar .byte (97 + x0).toInt8.toInt32))) 2 (vp_nar .byte (97 + x0).toInt8.toInt32))) 3 (vp_nar .byte (97 + x0).toInt8.toInt32))) 4 (vp_nar .byte (97 + x0).toInt8.toInt32))) 5 (vp_nar .byte (97 + x0).toInt8.toInt32))))]) [3, 2] (by decide) rfl
  have hKc := hK.sub (tys' := [(cy7, .byte)]) [0] rfl
  have hFc := va_free (wc := [(q5, .inr (1, [.ref q6, .int 0, .int 0, .int 6])), (q6, .inl (cy7, 16, .inl (upd ((upd ((upd ((upd ((upd ((upd ((fun _ => 0)) 0 (vp_nar .byte (97 + x0).toInt8.toInt32))) 1 (vp_nar .byte (97 + x0).toInt8.toInt32))) 2 (vp_nar .byte (97 + x0).toInt8.toInt32))) 3 (vp_nar .byte (97 + x0).toInt8.toInt32))) 4 (vp_nar .byte (97 + x0).toInt8.toInt32))) 5 (vp_nar .byte (97 + x0).toInt8.toInt32))))]) hD hS hA [3, 2] rfl
  refine va_callr (va_runV (As := [.int (97 + x0)]) (rest := []) ⟨hx, hb, hml, hown, hts⟩ (kJ4_append_cf468_7 l dC dI g H.size q5 (97 + x0) q6 (.int 0) cy7 (upd ((upd ((upd ((upd ((upd ((upd ((fun _ => 0)) 0 (vp_nar .byte (97 + x0).toInt8.toInt32))) 1 (vp_nar .byte (97 + x0).toInt8.toInt32))) 2 (vp_nar .byte (97 + x0).toInt8.toInt32))) 3 (vp_nar .byte (97 + x0).toInt8.toInt32))) 4 (vp_nar .byte (97 + x0).toInt8.toInt32))) 5 (vp_nar .byte (97 + x0).toInt8.toInt32)) (sb_fitU (sb_fitU (sb_fitU (sb_fitU (sb_fitU (sb_fitU sb_fit0 (pk_fb _)) (pk_fb _)) (pk_fb _)) (pk_fb _)) (pk_fb _)) (pk_fb _)) ⟨by omega, by omega⟩) (cwV 1 hts (ns_gp (List.forall_mem_cons.mpr ⟨wm397, (List.forall_mem_cons.mpr ⟨wm398, (List.forall_mem_cons.mpr ⟨wm399, (List.forall_mem_cons.mpr ⟨wm137, (fun _ h9 => nomatch h9)⟩)⟩)⟩)⟩) wm310) rfl rfl rfl (by decide +kernel) ⟨Nat.le_of_ble_eq_true rfl, Nat.le_of_ble_eq_true rfl⟩) ⟨fun a U gg mk q => by obtain ⟨q0, q1, qP, qK, qD, qF⟩ := q; exact ⟨q0, q1, qP, va_K.moved (u := U) (U := U.calling gg mk a) (Vm.Alike.refl U.vm) qK, qD, ns_same qF⟩, va_recv hK hP (ci := 1) (q0 := 3) rfl rfl, fun U hU hW => ⟨rfl, by rw [hU], by rw [hU]; exact hPc, va_K.moved hW.alike hKc, hDc.weaken (fun _ _ _ _ => trivial), ns_call hF hS hFc hU hW⟩⟩ rfl rfl hl.1 rfl (lv_room (Nat.le_of_ble_eq_true rfl)) dX16_word_70 ⟨Nat.le_of_ble_eq_true rfl, Nat.le_of_ble_eq_true rfl⟩) hS (fun q _ h => hFc q h) hFc (fun u r9 t H1 locs ht hvm hw hB hz1 hk1 hS => ?_)
  obtain ⟨hr9, hP1, hK1, hD1⟩ := hB
  obtain rfl := hr9.symm
  rw [ht] at hP1
  have hK1 := va_K.moved hvm.symm hK1
  obtain ⟨hP, hD⟩ := va_join (wr := [(h1, .inr (6, [.int 0, .ref (g 0), .int 0])), (h0, .inr (23, [.int 0, .ref h1, v1, v2, v3, v4, v5, v6, .int 0]))]) (w1 := [(q6, .inl (cy7, 16, .inl (upd ((upd ((upd ((upd ((upd ((upd ((upd ((fun _ => 0)) 0 (vp_nar .byte (97 + x0).toInt8.toInt32))) 1 (vp_nar .byte (97 + x0).toInt8.toInt32))) 2 (vp_nar .byte (97 + x0).toInt8.toInt32))) 3 (vp_nar .byte (97 + x0).toInt8.toInt32))) 4 (vp_nar .byte (97 + x0).toInt8.toInt32))) 5 (vp_nar .byte (97 + x0).toInt8.toInt32))) 6 (vp_nar .byte (97 + x0).toInt8.toInt32)))), (q5, .inr (1, [.ref q6, .int 0, .int 0, .int 7]))]) hP hD [3, 2] [0, 1] rfl rfl (by decide) (by decide) hk1 hFc hP1 hD1
  have hK := (hK.sub (tys' := []) [] rfl).app hK1
  generalize H1 = H at hP hS ⊢
  have hP : va_P (dC, dI) vwCl [(h1, .inr (6, [.int 0, .ref (g 0), .int 0])), (h0, .inr (23, [.int 0, .ref h1, v1, v2, v3, v4, v5, v6, .int 0])), (q6, .inl (cy7, 16, .inl (upd ((upd ((upd ((upd ((upd ((upd ((upd ((fun _ => 0)) 0 (vp_nar .byte (97 + x0).toInt8.toInt32))) 1 (vp_nar .byte (97 + x0).toInt8.toInt32))) 2 (vp_nar .byte (97 + x0).toInt8.toInt32))) 3 (vp_nar .byte (97 + x0).toInt8.toInt32))) 4 (vp_nar .byte (97 + x0).toInt8.toInt32))) 5 (vp_nar .byte (97 + x0).toInt8.toInt32))) 6 (vp_nar .byte (97 + x0).toInt8.toInt32)))), (q5, .inr (1, [.ref q6, .int 0, .int 0, .int 7]))] H := hP
  have hD : va_D A [(h1, .inr (6, [.int 0, .ref (g 0), .int 0])), (h0, .inr (23, [.int 0, .ref h1, v1, v2, v3, v4, v5, v6, .int 0])), (q6, .inl (cy7, 16, .inl (upd ((upd ((upd ((upd ((upd ((upd ((upd ((fun _ => 0)) 0 (vp_nar .byte (97 + x0).toInt8.toInt32))) 1 (vp_nar .byte (97 + x0).toInt8.toInt32))) 2 (vp_nar .byte (97 + x0).toInt8.toInt32))) 3 (vp_nar .byte (97 + x0).toInt8.toInt32))) 4 (vp_nar .byte (97 + x0).toInt8.toInt32))) 5 (vp_nar .byte (97 + x0).toInt8.toInt32))) 6 (vp_nar .byte (97 + x0).toInt8.toInt32)))), (q5, .inr (1, [.ref q6, .int 0, .int 0, .int 7]))] := hD
  have hK : va_K (dC, dI) vwCl [(cy7, .byte)] s := hK
  refine W.widen (k := 2) (n := 20) (Nat.le_of_ble_eq_true rfl) (Nat.le_of_ble_eq_true rfl) ?_
  refine lv_pop hx hb dX16_word_73 rfl ?_
  refine lv_iinc (v := 7) (lv' := [(4, .int 7), (3, .ref q5), (0, .ref h0), (1, .int x0), (2, .int 8)]) hx hb dX16_word_74 hl (k := 0) rfl (by decide) (by decide) rfl (fun ls hl => ?_)
  refine lv_goto (tgt := 58) hx hb dX16_word_77 (by decide) ?_
  refine lv_iload hx hb dX16_word_58 (lv_at hl 0 rfl) ?_
  refine lv_iload_n hx hb dX16_word_60 rfl (lv_at hl 4 rfl) ?_
  refine lv_icmp_ge (tgt := 80) hx hb dX16_word_61 (by decide) (fun c22 => absurd c22 (by decide)) (fun c22 => ?_)
  refine lv_aload_n hx hb dX16_word_64 rfl (lv_at hl 1 rfl) ?_
  refine lv_bipush (v := 97) hx hb dX16_word_65 (by decide) ?_
  refine lv_iload_n hx hb dX16_word_67 rfl (lv_at hl 3 rfl) ?_
  refine lv_iadd hx hb dX16_word_68 ?_
  have r23 : (97 + x0).toInt = (97 : Int) + x0.toInt := fb_addI (show (-2147483648 : Int) ≤ (97 : Int) + x0.toInt by omega) (show (97 : Int) + x0.toInt < (2147483648 : Int) by omega)
  refine lv_i2c (v := (97 + x0)) hx hb dX16_word_69 (ns_i2c (show (0 : Int) ≤ (97 + x0).toInt by omega) (by omega)) ?_
  have hPc := hP.sub (ws' := [(q5, .inr (1, [.ref q6, .int 0, .int 0, .int 7])), (q6, .inl (cy7, 16, .inl (upd ((upd ((upd ((upd ((upd ((upd ((upd ((fun _ => 0)) 0 (vp_nar .byte (97 + x0).toInt8.toInt32))) 1 (vp_nar .byte (97 + x0).toInt8.toInt32))) 2 (vp_nar .byte (97 + x0).toInt8.toInt32))) 3 (vp_nar .byte (97 + x0).toInt8.toInt32))) 4 (vp_nar .byte (97 + x0).toInt8.toInt32))) 5 (vp_nar .byte (97 + x0).toInt8.toInt32))) 6 (vp_nar .byte (97 + x0).toInt8.toInt32))))]) [3, 2] rfl
  have hDc := hD.sub (ws' := [(q5, .inr (1, [.ref q6, .int 0, .int 0, .int 7])), (q6, .inl (cy7, 16, .inl (upd ((upd ((upd ((upd ((upd ((upd ((upd ((fun _ => 0)) 0 (vp_nar .byte (97 + x0).toInt8.toInt32))) 1 (vp_nar .byte (97 + x0).toInt8.toInt32))) 2 (vp_nar .byte (97 + x0).toInt8.toInt32))) 3 (vp_nar .byte (97 + x0).toInt8.toInt32))) 4 (vp_nar .byte (97 + x0).toInt8.toInt32))) 5 (vp_nar .byte (97 + x0).toInt8.toInt32))) 6 (vp_nar .byte (97 + x0).toInt8.toInt32))))]) [3, 2] (by decide) rfl
  have hKc := hK.sub (tys' := [(cy7, .byte)]) [0] rfl
  have hFc := va_free (wc := [(q5, .inr (1, [.ref q6, .int 0, .int 0, .int 7])), (q6, .inl (cy7, 16, .inl (upd ((upd ((upd ((upd ((upd ((upd ((upd ((fun _ => 0)) 0 (vp_nar .byte (97 + x0).toInt8.toInt32))) 1 (vp_nar .byte (97 + x0).toInt8.toInt32))) 2 (vp_nar .byte (97 + x0).toInt8.toInt32))) 3 (vp_nar .byte (97 + x0).toInt8.toInt32))) 4 (vp_nar .byte (97 + x0).toInt8.toInt32))) 5 (vp_nar .byte (97 + x0).toInt8.toInt32))) 6 (vp_nar .byte (97 + x0).toInt8.toInt32))))]) hD hS hA [3, 2] rfl
  refine va_callr (va_runV (As := [.int (97 + x0)]) (rest := []) ⟨hx, hb, hml, hown, hts⟩ (kJ4_append_cf468_8 l dC dI g H.size q5 (97 + x0) q6 (.int 0) cy7 (upd ((upd ((upd ((upd ((upd ((upd ((upd ((fun _ => 0)) 0 (vp_nar .byte (97 + x0).toInt8.toInt32))) 1 (vp_nar .byte (97 + x0).toInt8.toInt32))) 2 (vp_nar .byte (97 + x0).toInt8.toInt32))) 3 (vp_nar .byte (97 + x0).toInt8.toInt32))) 4 (vp_nar .byte (97 + x0).toInt8.toInt32))) 5 (vp_nar .byte (97 + x0).toInt8.toInt32))) 6 (vp_nar .byte (97 + x0).toInt8.toInt32)) (sb_fitU (sb_fitU (sb_fitU (sb_fitU (sb_fitU (sb_fitU (sb_fitU sb_fit0 (pk_fb _)) (pk_fb _)) (pk_fb _)) (pk_fb _)) (pk_fb _)) (pk_fb _)) (pk_fb _)) ⟨by omega, by omega⟩) (cwV 1 hts (ns_gp (List.forall_mem_cons.mpr ⟨wm397, (List.forall_mem_cons.mpr ⟨wm398, (List.forall_mem_cons.mpr ⟨wm399, (List.forall_mem_cons.mpr ⟨wm137, (fun _ h9 => nomatch h9)⟩)⟩)⟩)⟩) wm310) rfl rfl rfl (by decide +kernel) ⟨Nat.le_of_ble_eq_true rfl, Nat.le_of_ble_eq_true rfl⟩) ⟨fun a U gg mk q => by obtain ⟨q0, q1, qP, qK, qD, qF⟩ := q; exact ⟨q0, q1, qP, va_K.moved (u := U) (U := U.calling gg mk a) (Vm.Alike.refl U.vm) qK, qD, ns_same qF⟩, va_recv hK hP (ci := 1) (q0 := 3) rfl rfl, fun U hU hW => ⟨rfl, by rw [hU], by rw [hU]; exact hPc, va_K.moved hW.alike hKc, hDc.weaken (fun _ _ _ _ => trivial), ns_call hF hS hFc hU hW⟩⟩ rfl rfl hl.1 rfl (lv_room (Nat.le_of_ble_eq_true rfl)) dX16_word_70 ⟨Nat.le_of_ble_eq_true rfl, Nat.le_of_ble_eq_true rfl⟩) hS (fun q _ h => hFc q h) hFc (fun u r9 t H1 locs ht hvm hw hB hz1 hk1 hS => ?_)
  obtain ⟨hr9, hP1, hK1, hD1⟩ := hB
  obtain rfl := hr9.symm
  rw [ht] at hP1
  have hK1 := va_K.moved hvm.symm hK1
  obtain ⟨hP, hD⟩ := va_join (wr := [(h1, .inr (6, [.int 0, .ref (g 0), .int 0])), (h0, .inr (23, [.int 0, .ref h1, v1, v2, v3, v4, v5, v6, .int 0]))]) (w1 := [(q6, .inl (cy7, 16, .inl (upd ((upd ((upd ((upd ((upd ((upd ((upd ((upd ((fun _ => 0)) 0 (vp_nar .byte (97 + x0).toInt8.toInt32))) 1 (vp_nar .byte (97 + x0).toInt8.toInt32))) 2 (vp_nar .byte (97 + x0).toInt8.toInt32))) 3 (vp_nar .byte (97 + x0).toInt8.toInt32))) 4 (vp_nar .byte (97 + x0).toInt8.toInt32))) 5 (vp_nar .byte (97 + x0).toInt8.toInt32))) 6 (vp_nar .byte (97 + x0).toInt8.toInt32))) 7 (vp_nar .byte (97 + x0).toInt8.toInt32)))), (q5, .inr (1, [.ref q6, .int 0, .int 0, .int 8]))]) hP hD [3, 2] [0, 1] rfl rfl (by decide) (by decide) hk1 hFc hP1 hD1
  have hK := (hK.sub (tys' := []) [] rfl).app hK1
  generalize H1 = H at hP hS ⊢
  have hP : va_P (dC, dI) vwCl [(h1, .inr (6, [.int 0, .ref (g 0), .int 0])), (h0, .inr (23, [.int 0, .ref h1, v1, v2, v3, v4, v5, v6, .int 0])), (q6, .inl (cy7, 16, .inl (upd ((upd ((upd ((upd ((upd ((upd ((upd ((upd ((fun _ => 0)) 0 (vp_nar .byte (97 + x0).toInt8.toInt32))) 1 (vp_nar .byte (97 + x0).toInt8.toInt32))) 2 (vp_nar .byte (97 + x0).toInt8.toInt32))) 3 (vp_nar .byte (97 + x0).toInt8.toInt32))) 4 (vp_nar .byte (97 + x0).toInt8.toInt32))) 5 (vp_nar .byte (97 + x0).toInt8.toInt32))) 6 (vp_nar .byte (97 + x0).toInt8.toInt32))) 7 (vp_nar .byte (97 + x0).toInt8.toInt32)))), (q5, .inr (1, [.ref q6, .int 0, .int 0, .int 8]))] H := hP
  have hD : va_D A [(h1, .inr (6, [.int 0, .ref (g 0), .int 0])), (h0, .inr (23, [.int 0, .ref h1, v1, v2, v3, v4, v5, v6, .int 0])), (q6, .inl (cy7, 16, .inl (upd ((upd ((upd ((upd ((upd ((upd ((upd ((upd ((fun _ => 0)) 0 (vp_nar .byte (97 + x0).toInt8.toInt32))) 1 (vp_nar .byte (97 + x0).toInt8.toInt32))) 2 (vp_nar .byte (97 + x0).toInt8.toInt32))) 3 (vp_nar .byte (97 + x0).toInt8.toInt32))) 4 (vp_nar .byte (97 + x0).toInt8.toInt32))) 5 (vp_nar .byte (97 + x0).toInt8.toInt32))) 6 (vp_nar .byte (97 + x0).toInt8.toInt32))) 7 (vp_nar .byte (97 + x0).toInt8.toInt32)))), (q5, .inr (1, [.ref q6, .int 0, .int 0, .int 8]))] := hD
  have hK : va_K (dC, dI) vwCl [(cy7, .byte)] s := hK
  refine W.widen (k := 2) (n := 20) (Nat.le_of_ble_eq_true rfl) (Nat.le_of_ble_eq_true rfl) ?_
  refine lv_pop hx hb dX16_word_73 rfl ?_
  refine lv_iinc (v := 8) (lv' := [(4, .int 8), (3, .ref q5), (0, .ref h0), (1, .int x0), (2, .int 8)]) hx hb dX16_word_74 hl (k := 0) rfl (by decide) (by decide) rfl (fun ls hl => ?_)
  refine lv_goto (tgt := 58) hx hb dX16_word_77 (by decide) ?_
  refine lv_iload hx hb dX16_word_58 (lv_at hl 0 rfl) ?_
  refine lv_iload_n hx hb dX16_word_60 rfl (lv_at hl 4 rfl) ?_
  refine lv_icmp_ge (tgt := 80) hx hb dX16_word_61 (by decide) (fun c24 => ?_) (fun c24 => absurd (by decide) c24)
  refine lv_aload_n hx hb dX16_word_80 rfl (lv_at hl 2 rfl) ?_
  refine va_new (ci := 18) (fs := [.int 0, .null, .int 0, .null]) (C := RX11) (T := TX11) (N := 4) hx hb hta naX11 tyX11 tyX11_ok hown (hta _ wm311) (hta _ wm312) (hta _ wm313) hK hP hD hS hA rfl (fun j hj => by rcases (show j = 0 ∨ j = 1 ∨ j = 2 ∨ j = 3 by omega) with rfl | rfl | rfl | rfl <;> rfl) (Nat.le_of_ble_eq_true rfl) (Nat.le_of_ble_eq_true rfl) dX16_word_81 (fun q25 H hP hD hS => ?_)
  have hP : va_P (dC, dI) vwCl [(h1, .inr (6, [.int 0, .ref (g 0), .int 0])), (h0, .inr (23, [.int 0, .ref h1, v1, v2, v3, v4, v5, v6, .int 0])), (q6, .inl (cy7, 16, .inl (upd ((upd ((upd ((upd ((upd ((upd ((upd ((upd ((fun _ => 0)) 0 (vp_nar .byte (97 + x0).toInt8.toInt32))) 1 (vp_nar .byte (97 + x0).toInt8.toInt32))) 2 (vp_nar .byte (97 + x0).toInt8.toInt32))) 3 (vp_nar .byte (97 + x0).toInt8.toInt32))) 4 (vp_nar .byte (97 + x0).toInt8.toInt32))) 5 (vp_nar .byte (97 + x0).toInt8.toInt32))) 6 (vp_nar .byte (97 + x0).toInt8.toInt32))) 7 (vp_nar .byte (97 + x0).toInt8.toInt32)))), (q5, .inr (1, [.ref q6, .int 0, .int 0, .int 8])), (q25, .inr (18, [.int 0, .null, .int 0, .null]))] H := hP
  have hD : va_D A [(h1, .inr (6, [.int 0, .ref (g 0), .int 0])), (h0, .inr (23, [.int 0, .ref h1, v1, v2, v3, v4, v5, v6, .int 0])), (q6, .inl (cy7, 16, .inl (upd ((upd ((upd ((upd ((upd ((upd ((upd ((upd ((fun _ => 0)) 0 (vp_nar .byte (97 + x0).toInt8.toInt32))) 1 (vp_nar .byte (97 + x0).toInt8.toInt32))) 2 (vp_nar .byte (97 + x0).toInt8.toInt32))) 3 (vp_nar .byte (97 + x0).toInt8.toInt32))) 4 (vp_nar .byte (97 + x0).toInt8.toInt32))) 5 (vp_nar .byte (97 + x0).toInt8.toInt32))) 6 (vp_nar .byte (97 + x0).toInt8.toInt32))) 7 (vp_nar .byte (97 + x0).toInt8.toInt32)))), (q5, .inr (1, [.ref q6, .int 0, .int 0, .int 8])), (q25, .inr (18, [.int 0, .null, .int 0, .null]))] := hD
  refine W.widen (k := 3) (n := 24) (Nat.le_of_ble_eq_true rfl) (Nat.le_of_ble_eq_true rfl) ?_
  refine lv_dup hx hb dX16_word_84 rfl ?_
  refine lv_iconst (v := 0) hx hb dX16_word_85 (by decide) ?_
  refine lv_aload_n hx hb dX16_word_86 rfl (lv_at hl 1 rfl) ?_
  have hPc := hP.sub (ws' := [(q5, .inr (1, [.ref q6, .int 0, .int 0, .int 8])), (q6, .inl (cy7, 16, .inl (upd ((upd ((upd ((upd ((upd ((upd ((upd ((upd ((fun _ => 0)) 0 (vp_nar .byte (97 + x0).toInt8.toInt32))) 1 (vp_nar .byte (97 + x0).toInt8.toInt32))) 2 (vp_nar .byte (97 + x0).toInt8.toInt32))) 3 (vp_nar .byte (97 + x0).toInt8.toInt32))) 4 (vp_nar .byte (97 + x0).toInt8.toInt32))) 5 (vp_nar .byte (97 + x0).toInt8.toInt32))) 6 (vp_nar .byte (97 + x0).toInt8.toInt32))) 7 (vp_nar .byte (97 + x0).toInt8.toInt32))))]) [3, 2] rfl
  have hDc := hD.sub (ws' := [(q5, .inr (1, [.ref q6, .int 0, .int 0, .int 8])), (q6, .inl (cy7, 16, .inl (upd ((upd ((upd ((upd ((upd ((upd ((upd ((upd ((fun _ => 0)) 0 (vp_nar .byte (97 + x0).toInt8.toInt32))) 1 (vp_nar .byte (97 + x0).toInt8.toInt32))) 2 (vp_nar .byte (97 + x0).toInt8.toInt32))) 3 (vp_nar .byte (97 + x0).toInt8.toInt32))) 4 (vp_nar .byte (97 + x0).toInt8.toInt32))) 5 (vp_nar .byte (97 + x0).toInt8.toInt32))) 6 (vp_nar .byte (97 + x0).toInt8.toInt32))) 7 (vp_nar .byte (97 + x0).toInt8.toInt32))))]) [3, 2] (by decide) rfl
  have hKc := hK.sub (tys' := [(cy7, .byte)]) [0] rfl
  have hFc := va_free (wc := [(q5, .inr (1, [.ref q6, .int 0, .int 0, .int 8])), (q6, .inl (cy7, 16, .inl (upd ((upd ((upd ((upd ((upd ((upd ((upd ((upd ((fun _ => 0)) 0 (vp_nar .byte (97 + x0).toInt8.toInt32))) 1 (vp_nar .byte (97 + x0).toInt8.toInt32))) 2 (vp_nar .byte (97 + x0).toInt8.toInt32))) 3 (vp_nar .byte (97 + x0).toInt8.toInt32))) 4 (vp_nar .byte (97 + x0).toInt8.toInt32))) 5 (vp_nar .byte (97 + x0).toInt8.toInt32))) 6 (vp_nar .byte (97 + x0).toInt8.toInt32))) 7 (vp_nar .byte (97 + x0).toInt8.toInt32))))]) hD hS hA [3, 2] rfl
  refine va_callr (va_runV (As := []) (rest := [.int 0, .ref q25, .ref q25, .ref h0]) ⟨hx, hb, hml, hown, hts⟩ (kJ4_toString_0e30d_8 l dC dI g H.size q5 q6 (.int 0) cy7 (upd ((upd ((upd ((upd ((upd ((upd ((upd ((upd ((fun _ => 0)) 0 (vp_nar .byte (97 + x0).toInt8.toInt32))) 1 (vp_nar .byte (97 + x0).toInt8.toInt32))) 2 (vp_nar .byte (97 + x0).toInt8.toInt32))) 3 (vp_nar .byte (97 + x0).toInt8.toInt32))) 4 (vp_nar .byte (97 + x0).toInt8.toInt32))) 5 (vp_nar .byte (97 + x0).toInt8.toInt32))) 6 (vp_nar .byte (97 + x0).toInt8.toInt32))) 7 (vp_nar .byte (97 + x0).toInt8.toInt32)) (sb_fitU (sb_fitU (sb_fitU (sb_fitU (sb_fitU (sb_fitU (sb_fitU (sb_fitU sb_fit0 (pk_fb _)) (pk_fb _)) (pk_fb _)) (pk_fb _)) (pk_fb _)) (pk_fb _)) (pk_fb _)) (pk_fb _)) ) (cwV 0 hts (ns_gp (List.forall_mem_cons.mpr ⟨wm400, (List.forall_mem_cons.mpr ⟨wm401, (List.forall_mem_cons.mpr ⟨wm402, (List.forall_mem_cons.mpr ⟨wm137, (fun _ h9 => nomatch h9)⟩)⟩)⟩)⟩) wm360) rfl rfl rfl (by decide +kernel) ⟨Nat.le_of_ble_eq_true rfl, Nat.le_of_ble_eq_true rfl⟩) ⟨fun a U gg mk q => by obtain ⟨q0, q1, qP, qK, qD, qF⟩ := q; exact ⟨q0, q1, qP, va_K.moved (u := U) (U := U.calling gg mk a) (Vm.Alike.refl U.vm) qK, qD, ns_same qF⟩, va_recv hK hP (ci := 1) (q0 := 3) rfl rfl, fun U hU hW => ⟨rfl, by rw [hU], by rw [hU]; exact hPc, va_K.moved hW.alike hKc, hDc.weaken (fun _ _ _ _ => trivial), ns_call hF hS hFc hU hW⟩⟩ rfl rfl hl.1 rfl (lv_room (Nat.le_of_ble_eq_true rfl)) dX16_word_87 ⟨Nat.le_of_ble_eq_true rfl, Nat.le_of_ble_eq_true rfl⟩) hS (fun q _ h => hFc q h) hFc (fun u r9 t H1 locs ht hvm hw hB hz1 hk1 hS => ?_)
  obtain ⟨q26, q27, cy28, hr9, hP1, hK1, hD1⟩ := hB
  obtain rfl := hr9.symm
  rw [ht] at hP1
  have hK1 := va_K.moved hvm.symm hK1
  obtain ⟨hP, hD⟩ := va_join (wr := [(h1, .inr (6, [.int 0, .ref (g 0), .int 0])), (h0, .inr (23, [.int 0, .ref h1, v1, v2, v3, v4, v5, v6, .int 0])), (q25, .inr (18, [.int 0, .null, .int 0, .null]))]) (w1 := [(q26, .inr (0, [.ref q27, .int 0, .int 0, .int 0])), (q5, .inr (1, [.ref q6, .int 0, .int 0, .int 8])), (q6, .inl (cy7, 16, .inl (upd ((upd ((upd ((upd ((upd ((upd ((upd ((upd ((fun _ => 0)) 0 (vp_nar .byte (97 + x0).toInt8.toInt32))) 1 (vp_nar .byte (97 + x0).toInt8.toInt32))) 2 (vp_nar .byte (97 + x0).toInt8.toInt32))) 3 (vp_nar .byte (97 + x0).toInt8.toInt32))) 4 (vp_nar .byte (97 + x0).toInt8.toInt32))) 5 (vp_nar .byte (97 + x0).toInt8.toInt32))) 6 (vp_nar .byte (97 + x0).toInt8.toInt32))) 7 (vp_nar .byte (97 + x0).toInt8.toInt32)))), (q27, .inl (cy28, 8, .inl (va_cpy ((upd ((upd ((upd ((upd ((upd ((upd ((upd ((upd ((fun _ => 0)) 0 (vp_nar .byte (97 + x0).toInt8.toInt32))) 1 (vp_nar .byte (97 + x0).toInt8.toInt32))) 2 (vp_nar .byte (97 + x0).toInt8.toInt32))) 3 (vp_nar .byte (97 + x0).toInt8.toInt32))) 4 (vp_nar .byte (97 + x0).toInt8.toInt32))) 5 (vp_nar .byte (97 + x0).toInt8.toInt32))) 6 (vp_nar .byte (97 + x0).toInt8.toInt32))) 7 (vp_nar .byte (97 + x0).toInt8.toInt32))) (fun _ => 0) 0 0 8)))]) hP hD [3, 2] [0, 1, 4] rfl rfl (by decide) (by decide) hk1 hFc hP1 hD1
  have hK := (hK.sub (tys' := []) [] rfl).app hK1
  generalize H1 = H at hP hS ⊢
  have hP : va_P (dC, dI) vwCl [(h1, .inr (6, [.int 0, .ref (g 0), .int 0])), (h0, .inr (23, [.int 0, .ref h1, v1, v2, v3, v4, v5, v6, .int 0])), (q25, .inr (18, [.int 0, .null, .int 0, .null])), (q26, .inr (0, [.ref q27, .int 0, .int 0, .int 0])), (q5, .inr (1, [.ref q6, .int 0, .int 0, .int 8])), (q6, .inl (cy7, 16, .inl (upd ((upd ((upd ((upd ((upd ((upd ((upd ((upd ((fun _ => 0)) 0 (vp_nar .byte (97 + x0).toInt8.toInt32))) 1 (vp_nar .byte (97 + x0).toInt8.toInt32))) 2 (vp_nar .byte (97 + x0).toInt8.toInt32))) 3 (vp_nar .byte (97 + x0).toInt8.toInt32))) 4 (vp_nar .byte (97 + x0).toInt8.toInt32))) 5 (vp_nar .byte (97 + x0).toInt8.toInt32))) 6 (vp_nar .byte (97 + x0).toInt8.toInt32))) 7 (vp_nar .byte (97 + x0).toInt8.toInt32)))), (q27, .inl (cy28, 8, .inl (va_cpy ((upd ((upd ((upd ((upd ((upd ((upd ((upd ((upd ((fun _ => 0)) 0 (vp_nar .byte (97 + x0).toInt8.toInt32))) 1 (vp_nar .byte (97 + x0).toInt8.toInt32))) 2 (vp_nar .byte (97 + x0).toInt8.toInt32))) 3 (vp_nar .byte (97 + x0).toInt8.toInt32))) 4 (vp_nar .byte (97 + x0).toInt8.toInt32))) 5 (vp_nar .byte (97 + x0).toInt8.toInt32))) 6 (vp_nar .byte (97 + x0).toInt8.toInt32))) 7 (vp_nar .byte (97 + x0).toInt8.toInt32))) (fun _ => 0) 0 0 8)))] H := hP
  have hD : va_D A [(h1, .inr (6, [.int 0, .ref (g 0), .int 0])), (h0, .inr (23, [.int 0, .ref h1, v1, v2, v3, v4, v5, v6, .int 0])), (q25, .inr (18, [.int 0, .null, .int 0, .null])), (q26, .inr (0, [.ref q27, .int 0, .int 0, .int 0])), (q5, .inr (1, [.ref q6, .int 0, .int 0, .int 8])), (q6, .inl (cy7, 16, .inl (upd ((upd ((upd ((upd ((upd ((upd ((upd ((upd ((fun _ => 0)) 0 (vp_nar .byte (97 + x0).toInt8.toInt32))) 1 (vp_nar .byte (97 + x0).toInt8.toInt32))) 2 (vp_nar .byte (97 + x0).toInt8.toInt32))) 3 (vp_nar .byte (97 + x0).toInt8.toInt32))) 4 (vp_nar .byte (97 + x0).toInt8.toInt32))) 5 (vp_nar .byte (97 + x0).toInt8.toInt32))) 6 (vp_nar .byte (97 + x0).toInt8.toInt32))) 7 (vp_nar .byte (97 + x0).toInt8.toInt32)))), (q27, .inl (cy28, 8, .inl (va_cpy ((upd ((upd ((upd ((upd ((upd ((upd ((upd ((upd ((fun _ => 0)) 0 (vp_nar .byte (97 + x0).toInt8.toInt32))) 1 (vp_nar .byte (97 + x0).toInt8.toInt32))) 2 (vp_nar .byte (97 + x0).toInt8.toInt32))) 3 (vp_nar .byte (97 + x0).toInt8.toInt32))) 4 (vp_nar .byte (97 + x0).toInt8.toInt32))) 5 (vp_nar .byte (97 + x0).toInt8.toInt32))) 6 (vp_nar .byte (97 + x0).toInt8.toInt32))) 7 (vp_nar .byte (97 + x0).toInt8.toInt32))) (fun _ => 0) 0 0 8)))] := hD
  have hK : va_K (dC, dI) vwCl [(cy7, .byte), (cy28, .byte)] s := hK
  refine W.widen (k := 5) (n := 36) (Nat.le_of_ble_eq_true rfl) (Nat.le_of_ble_eq_true rfl) ?_
  refine lv_iconst (v := 0) hx hb dX16_word_90 (by decide) ?_
  have hPc := hP.sub (ws' := [(q25, .inr (18, [.int 0, .null, .int 0, .null]))]) [2] rfl
  have hDc := hD.sub (ws' := [(q25, .inr (18, [.int 0, .null, .int 0, .null]))]) [2] (by decide) rfl
  have hKc := hK.sub (tys' := []) [] rfl
  have hFc := va_free (wc := [(q25, .inr (18, [.int 0, .null, .int 0, .null]))]) hD hS hA [2] rfl
  refine va_callv (va_runI (As := [.int 0, .ref q26, .int 0]) (rest := [.ref q25, .ref h0]) ⟨hx, hb, hml, hown, hts⟩ (kX11_init l dC dI g H.size q25 q26 (.int 0) .null (.int 0) .null ) (cwI 3 hts (ns_g0 wm368) rfl rfl rfl (hta _ wm313) (hta _ wm403) (hta _ wm404) rfl (by decide +kernel) ⟨Nat.le_of_ble_eq_true rfl, Nat.le_of_ble_eq_true rfl⟩) ⟨fun a U gg mk q => by obtain ⟨q0, q1, qP, qK, qD, qF⟩ := q; exact ⟨q0, q1, qP, va_K.moved (u := U) (U := U.calling gg mk a) (Vm.Alike.refl U.vm) qK, qD, ns_same qF⟩, fun U hU hW => ⟨rfl, by rw [hU], by rw [hU]; exact hPc, va_K.moved hW.alike hKc, hDc.weaken (fun _ _ _ _ => trivial), ns_call hF hS hFc hU hW⟩⟩ rfl rfl hl.1 rfl (lv_room (Nat.le_of_ble_eq_true rfl)) dX16_word_91 ⟨Nat.le_of_ble_eq_true rfl, Nat.le_of_ble_eq_true rfl⟩) hS (fun q _ h => hFc q h) hFc (fun u t H1 locs ht hvm hw hB hz1 hk1 hS => ?_)
  obtain ⟨q29, hP1, hK1, hD1⟩ := hB
  rw [ht] at hP1
  have hK1 := va_K.moved hvm.symm hK1
  obtain ⟨hP, hD⟩ := va_join (wr := [(h1, .inr (6, [.int 0, .ref (g 0), .int 0])), (h0, .inr (23, [.int 0, .ref h1, v1, v2, v3, v4, v5, v6, .int 0])), (q26, .inr (0, [.ref q27, .int 0, .int 0, .int 0])), (q5, .inr (1, [.ref q6, .int 0, .int 0, .int 8])), (q6, .inl (cy7, 16, .inl (upd ((upd ((upd ((upd ((upd ((upd ((upd ((upd ((fun _ => 0)) 0 (vp_nar .byte (97 + x0).toInt8.toInt32))) 1 (vp_nar .byte (97 + x0).toInt8.toInt32))) 2 (vp_nar .byte (97 + x0).toInt8.toInt32))) 3 (vp_nar .byte (97 + x0).toInt8.toInt32))) 4 (vp_nar .byte (97 + x0).toInt8.toInt32))) 5 (vp_nar .byte (97 + x0).toInt8.toInt32))) 6 (vp_nar .byte (97 + x0).toInt8.toInt32))) 7 (vp_nar .byte (97 + x0).toInt8.toInt32)))), (q27, .inl (cy28, 8, .inl (va_cpy ((upd ((upd ((upd ((upd ((upd ((upd ((upd ((upd ((fun _ => 0)) 0 (vp_nar .byte (97 + x0).toInt8.toInt32))) 1 (vp_nar .byte (97 + x0).toInt8.toInt32))) 2 (vp_nar .byte (97 + x0).toInt8.toInt32))) 3 (vp_nar .byte (97 + x0).toInt8.toInt32))) 4 (vp_nar .byte (97 + x0).toInt8.toInt32))) 5 (vp_nar .byte (97 + x0).toInt8.toInt32))) 6 (vp_nar .byte (97 + x0).toInt8.toInt32))) 7 (vp_nar .byte (97 + x0).toInt8.toInt32))) (fun _ => 0) 0 0 8)))]) (w1 := [(q25, .inr (18, [.int 0, .ref q26, .int 0, .ref q29])), (q29, .inr (6, [.int 0, .ref (g 0), .int 0]))]) hP hD [2] [0, 1, 3, 4, 5, 6] rfl rfl (by decide) (by decide) hk1 hFc hP1 hD1
  have hK := (hK.sub (tys' := [(cy7, .byte), (cy28, .byte)]) [0, 1] rfl).app hK1
  generalize H1 = H at hP hS ⊢
  have hP : va_P (dC, dI) vwCl [(h1, .inr (6, [.int 0, .ref (g 0), .int 0])), (h0, .inr (23, [.int 0, .ref h1, v1, v2, v3, v4, v5, v6, .int 0])), (q26, .inr (0, [.ref q27, .int 0, .int 0, .int 0])), (q5, .inr (1, [.ref q6, .int 0, .int 0, .int 8])), (q6, .inl (cy7, 16, .inl (upd ((upd ((upd ((upd ((upd ((upd ((upd ((upd ((fun _ => 0)) 0 (vp_nar .byte (97 + x0).toInt8.toInt32))) 1 (vp_nar .byte (97 + x0).toInt8.toInt32))) 2 (vp_nar .byte (97 + x0).toInt8.toInt32))) 3 (vp_nar .byte (97 + x0).toInt8.toInt32))) 4 (vp_nar .byte (97 + x0).toInt8.toInt32))) 5 (vp_nar .byte (97 + x0).toInt8.toInt32))) 6 (vp_nar .byte (97 + x0).toInt8.toInt32))) 7 (vp_nar .byte (97 + x0).toInt8.toInt32)))), (q27, .inl (cy28, 8, .inl (va_cpy ((upd ((upd ((upd ((upd ((upd ((upd ((upd ((upd ((fun _ => 0)) 0 (vp_nar .byte (97 + x0).toInt8.toInt32))) 1 (vp_nar .byte (97 + x0).toInt8.toInt32))) 2 (vp_nar .byte (97 + x0).toInt8.toInt32))) 3 (vp_nar .byte (97 + x0).toInt8.toInt32))) 4 (vp_nar .byte (97 + x0).toInt8.toInt32))) 5 (vp_nar .byte (97 + x0).toInt8.toInt32))) 6 (vp_nar .byte (97 + x0).toInt8.toInt32))) 7 (vp_nar .byte (97 + x0).toInt8.toInt32))) (fun _ => 0) 0 0 8))), (q25, .inr (18, [.int 0, .ref q26, .int 0, .ref q29])), (q29, .inr (6, [.int 0, .ref (g 0), .int 0]))] H := hP
  have hD : va_D A [(h1, .inr (6, [.int 0, .ref (g 0), .int 0])), (h0, .inr (23, [.int 0, .ref h1, v1, v2, v3, v4, v5, v6, .int 0])), (q26, .inr (0, [.ref q27, .int 0, .int 0, .int 0])), (q5, .inr (1, [.ref q6, .int 0, .int 0, .int 8])), (q6, .inl (cy7, 16, .inl (upd ((upd ((upd ((upd ((upd ((upd ((upd ((upd ((fun _ => 0)) 0 (vp_nar .byte (97 + x0).toInt8.toInt32))) 1 (vp_nar .byte (97 + x0).toInt8.toInt32))) 2 (vp_nar .byte (97 + x0).toInt8.toInt32))) 3 (vp_nar .byte (97 + x0).toInt8.toInt32))) 4 (vp_nar .byte (97 + x0).toInt8.toInt32))) 5 (vp_nar .byte (97 + x0).toInt8.toInt32))) 6 (vp_nar .byte (97 + x0).toInt8.toInt32))) 7 (vp_nar .byte (97 + x0).toInt8.toInt32)))), (q27, .inl (cy28, 8, .inl (va_cpy ((upd ((upd ((upd ((upd ((upd ((upd ((upd ((upd ((fun _ => 0)) 0 (vp_nar .byte (97 + x0).toInt8.toInt32))) 1 (vp_nar .byte (97 + x0).toInt8.toInt32))) 2 (vp_nar .byte (97 + x0).toInt8.toInt32))) 3 (vp_nar .byte (97 + x0).toInt8.toInt32))) 4 (vp_nar .byte (97 + x0).toInt8.toInt32))) 5 (vp_nar .byte (97 + x0).toInt8.toInt32))) 6 (vp_nar .byte (97 + x0).toInt8.toInt32))) 7 (vp_nar .byte (97 + x0).toInt8.toInt32))) (fun _ => 0) 0 0 8))), (q25, .inr (18, [.int 0, .ref q26, .int 0, .ref q29])), (q29, .inr (6, [.int 0, .ref (g 0), .int 0]))] := hD
  have hK : va_K (dC, dI) vwCl [(cy7, .byte), (cy28, .byte)] s := hK
  refine W.widen (k := 6) (n := 39) (Nat.le_of_ble_eq_true rfl) (Nat.le_of_ble_eq_true rfl) ?_
  have hPc := hP.sub (ws' := [(h0, .inr (23, [.int 0, .ref h1, v1, v2, v3, v4, v5, v6, .int 0])), (h1, .inr (6, [.int 0, .ref (g 0), .int 0])), (q25, .inr (18, [.int 0, .ref q26, .int 0, .ref q29]))]) [1, 0, 6] rfl
  have hDc := hD.sub (ws' := [(h0, .inr (23, [.int 0, .ref h1, v1, v2, v3, v4, v5, v6, .int 0])), (h1, .inr (6, [.int 0, .ref (g 0), .int 0])), (q25, .inr (18, [.int 0, .ref q26, .int 0, .ref q29]))]) [1, 0, 6] (by decide) rfl
  have hKc := hK.sub (tys' := []) [] rfl
  have hFc := va_free (wc := [(h0, .inr (23, [.int 0, .ref h1, v1, v2, v3, v4, v5, v6, .int 0])), (h1, .inr (6, [.int 0, .ref (g 0), .int 0])), (q25, .inr (18, [.int 0, .ref q26, .int 0, .ref q29]))]) hD hS hA [1, 0, 6] rfl
  refine va_calli (va_runV (As := [.ref q25]) (rest := []) ⟨hx, hb, hml, hown, hts⟩ (kX16_made l dC dI g H.size h0 q25 h1 (.int 0) v1 v2 v3 v4 v5 v6 (.int 0) (.ref q26) (.int 0) (.ref q29) ) (cwV 1 hts (ns_gp (List.forall_mem_cons.mpr ⟨wm405, (List.forall_mem_cons.mpr ⟨wm406, (List.forall_mem_cons.mpr ⟨wm407, (List.forall_mem_cons.mpr ⟨wm192, (fun _ h9 => nomatch h9)⟩)⟩)⟩)⟩) wm392) rfl rfl rfl (by decide +kernel) ⟨Nat.le_of_ble_eq_true rfl, Nat.le_of_ble_eq_true rfl⟩) ⟨fun a U gg mk q => by obtain ⟨q0, q1, qP, qK, qD, qF⟩ := q; exact ⟨q0, q1, qP, va_K.moved (u := U) (U := U.calling gg mk a) (Vm.Alike.refl U.vm) qK, qD, ns_same qF⟩, va_recv hK hP (ci := 23) (q0 := 1) rfl rfl, fun U hU hW => ⟨rfl, by rw [hU], by rw [hU]; exact hPc, va_K.moved hW.alike hKc, hDc.weaken (fun _ _ _ _ => trivial), ns_call hF hS hFc hU hW⟩⟩ rfl rfl hl.1 rfl (lv_room (Nat.le_of_ble_eq_true rfl)) dX16_word_94 ⟨Nat.le_of_ble_eq_true rfl, Nat.le_of_ble_eq_true rfl⟩) hS (fun q _ h => hFc q h) hFc (fun r9 u t H1 locs ht hvm hw hB hz1 hk1 hS => ?_)
  obtain rfl := hw.symm
  obtain ⟨q30, cy31, hP1, hK1, hD1⟩ := hB
  rw [ht] at hP1
  have hK1 := va_K.moved hvm.symm hK1
  obtain ⟨hP, hD⟩ := va_join (wr := [(q26, .inr (0, [.ref q27, .int 0, .int 0, .int 0])), (q5, .inr (1, [.ref q6, .int 0, .int 0, .int 8])), (q6, .inl (cy7, 16, .inl (upd ((upd ((upd ((upd ((upd ((upd ((upd ((upd ((fun _ => 0)) 0 (vp_nar .byte (97 + x0).toInt8.toInt32))) 1 (vp_nar .byte (97 + x0).toInt8.toInt32))) 2 (vp_nar .byte (97 + x0).toInt8.toInt32))) 3 (vp_nar .byte (97 + x0).toInt8.toInt32))) 4 (vp_nar .byte (97 + x0).toInt8.toInt32))) 5 (vp_nar .byte (97 + x0).toInt8.toInt32))) 6 (vp_nar .byte (97 + x0).toInt8.toInt32))) 7 (vp_nar .byte (97 + x0).toInt8.toInt32)))), (q27, .inl (cy28, 8, .inl (va_cpy ((upd ((upd ((upd ((upd ((upd ((upd ((upd ((upd ((fun _ => 0)) 0 (vp_nar .byte (97 + x0).toInt8.toInt32))) 1 (vp_nar .byte (97 + x0).toInt8.toInt32))) 2 (vp_nar .byte (97 + x0).toInt8.toInt32))) 3 (vp_nar .byte (97 + x0).toInt8.toInt32))) 4 (vp_nar .byte (97 + x0).toInt8.toInt32))) 5 (vp_nar .byte (97 + x0).toInt8.toInt32))) 6 (vp_nar .byte (97 + x0).toInt8.toInt32))) 7 (vp_nar .byte (97 + x0).toInt8.toInt32))) (fun _ => 0) 0 0 8))), (q29, .inr (6, [.int 0, .ref (g 0), .int 0]))]) (w1 := [(h0, .inr (23, [.int 0, .ref h1, v1, v2, v3, v4, v5, v6, .int 1])), (q25, .inr (18, [.int 0, .ref q26, .int 0, .ref q29])), (q30, .inl (cy31, 10, .inr (.inr (.inr (.inr (va_up (fun _ => none) 0 (some q25))))))), (h1, .inr (6, [.int 1, .ref q30, .int 1]))]) hP hD [1, 0, 6] [2, 3, 4, 5, 7] rfl rfl (by decide) (by decide) hk1 hFc hP1 hD1
  have hK := (hK.sub (tys' := [(cy7, .byte), (cy28, .byte)]) [0, 1] rfl).app hK1
  generalize H1 = H at hP hS ⊢
  have hP : va_P (dC, dI) vwCl [(q26, .inr (0, [.ref q27, .int 0, .int 0, .int 0])), (q5, .inr (1, [.ref q6, .int 0, .int 0, .int 8])), (q6, .inl (cy7, 16, .inl (upd ((upd ((upd ((upd ((upd ((upd ((upd ((upd ((fun _ => 0)) 0 (vp_nar .byte (97 + x0).toInt8.toInt32))) 1 (vp_nar .byte (97 + x0).toInt8.toInt32))) 2 (vp_nar .byte (97 + x0).toInt8.toInt32))) 3 (vp_nar .byte (97 + x0).toInt8.toInt32))) 4 (vp_nar .byte (97 + x0).toInt8.toInt32))) 5 (vp_nar .byte (97 + x0).toInt8.toInt32))) 6 (vp_nar .byte (97 + x0).toInt8.toInt32))) 7 (vp_nar .byte (97 + x0).toInt8.toInt32)))), (q27, .inl (cy28, 8, .inl (va_cpy ((upd ((upd ((upd ((upd ((upd ((upd ((upd ((upd ((fun _ => 0)) 0 (vp_nar .byte (97 + x0).toInt8.toInt32))) 1 (vp_nar .byte (97 + x0).toInt8.toInt32))) 2 (vp_nar .byte (97 + x0).toInt8.toInt32))) 3 (vp_nar .byte (97 + x0).toInt8.toInt32))) 4 (vp_nar .byte (97 + x0).toInt8.toInt32))) 5 (vp_nar .byte (97 + x0).toInt8.toInt32))) 6 (vp_nar .byte (97 + x0).toInt8.toInt32))) 7 (vp_nar .byte (97 + x0).toInt8.toInt32))) (fun _ => 0) 0 0 8))), (q29, .inr (6, [.int 0, .ref (g 0), .int 0])), (h0, .inr (23, [.int 0, .ref h1, v1, v2, v3, v4, v5, v6, .int 1])), (q25, .inr (18, [.int 0, .ref q26, .int 0, .ref q29])), (q30, .inl (cy31, 10, .inr (.inr (.inr (.inr (va_up (fun _ => none) 0 (some q25))))))), (h1, .inr (6, [.int 1, .ref q30, .int 1]))] H := hP
  have hD : va_D A [(q26, .inr (0, [.ref q27, .int 0, .int 0, .int 0])), (q5, .inr (1, [.ref q6, .int 0, .int 0, .int 8])), (q6, .inl (cy7, 16, .inl (upd ((upd ((upd ((upd ((upd ((upd ((upd ((upd ((fun _ => 0)) 0 (vp_nar .byte (97 + x0).toInt8.toInt32))) 1 (vp_nar .byte (97 + x0).toInt8.toInt32))) 2 (vp_nar .byte (97 + x0).toInt8.toInt32))) 3 (vp_nar .byte (97 + x0).toInt8.toInt32))) 4 (vp_nar .byte (97 + x0).toInt8.toInt32))) 5 (vp_nar .byte (97 + x0).toInt8.toInt32))) 6 (vp_nar .byte (97 + x0).toInt8.toInt32))) 7 (vp_nar .byte (97 + x0).toInt8.toInt32)))), (q27, .inl (cy28, 8, .inl (va_cpy ((upd ((upd ((upd ((upd ((upd ((upd ((upd ((upd ((fun _ => 0)) 0 (vp_nar .byte (97 + x0).toInt8.toInt32))) 1 (vp_nar .byte (97 + x0).toInt8.toInt32))) 2 (vp_nar .byte (97 + x0).toInt8.toInt32))) 3 (vp_nar .byte (97 + x0).toInt8.toInt32))) 4 (vp_nar .byte (97 + x0).toInt8.toInt32))) 5 (vp_nar .byte (97 + x0).toInt8.toInt32))) 6 (vp_nar .byte (97 + x0).toInt8.toInt32))) 7 (vp_nar .byte (97 + x0).toInt8.toInt32))) (fun _ => 0) 0 0 8))), (q29, .inr (6, [.int 0, .ref (g 0), .int 0])), (h0, .inr (23, [.int 0, .ref h1, v1, v2, v3, v4, v5, v6, .int 1])), (q25, .inr (18, [.int 0, .ref q26, .int 0, .ref q29])), (q30, .inl (cy31, 10, .inr (.inr (.inr (.inr (va_up (fun _ => none) 0 (some q25))))))), (h1, .inr (6, [.int 1, .ref q30, .int 1]))] := hD
  have hK : va_K (dC, dI) vwCl [(cy7, .byte), (cy28, .byte), (cy31, .object "java/lang/Object")] s := hK
  refine W.widen (k := 7) (n := 49) (Nat.le_of_ble_eq_true rfl) (Nat.le_of_ble_eq_true rfl) ?_
  have hP9 := hP.sub (ws' := [(q26, .inr (0, [.ref q27, .int 0, .int 0, .int 0])), (q5, .inr (1, [.ref q6, .int 0, .int 0, .int 8])), (q6, .inl (cy7, 16, .inl (upd ((upd ((upd ((upd ((upd ((upd ((upd ((upd ((fun _ => 0)) 0 (vp_nar .byte (97 + x0).toInt8.toInt32))) 1 (vp_nar .byte (97 + x0).toInt8.toInt32))) 2 (vp_nar .byte (97 + x0).toInt8.toInt32))) 3 (vp_nar .byte (97 + x0).toInt8.toInt32))) 4 (vp_nar .byte (97 + x0).toInt8.toInt32))) 5 (vp_nar .byte (97 + x0).toInt8.toInt32))) 6 (vp_nar .byte (97 + x0).toInt8.toInt32))) 7 (vp_nar .byte (97 + x0).toInt8.toInt32)))), (q27, .inl (cy28, 8, .inl (va_cpy ((upd ((upd ((upd ((upd ((upd ((upd ((upd ((upd ((fun _ => 0)) 0 (vp_nar .byte (97 + x0).toInt8.toInt32))) 1 (vp_nar .byte (97 + x0).toInt8.toInt32))) 2 (vp_nar .byte (97 + x0).toInt8.toInt32))) 3 (vp_nar .byte (97 + x0).toInt8.toInt32))) 4 (vp_nar .byte (97 + x0).toInt8.toInt32))) 5 (vp_nar .byte (97 + x0).toInt8.toInt32))) 6 (vp_nar .byte (97 + x0).toInt8.toInt32))) 7 (vp_nar .byte (97 + x0).toInt8.toInt32))) (fun _ => 0) 0 0 8))), (q29, .inr (6, [.int 0, .ref (g 0), .int 0])), (h0, .inr (23, [.int 0, .ref h1, v1, v2, v3, v4, v5, v6, .int 1])), (q25, .inr (18, [.int 0, .ref q26, .int 0, .ref q29])), (q30, .inl (cy31, 10, .inr (.inr (.inr (.inr (va_up (fun _ => none) 0 (some q25))))))), (h1, .inr (6, [.int 1, .ref q30, .int 1]))]) [0, 1, 2, 3, 4, 5, 6, 7, 8] rfl
  have hD9 := hD.sub (ws' := [(q26, .inr (0, [.ref q27, .int 0, .int 0, .int 0])), (q5, .inr (1, [.ref q6, .int 0, .int 0, .int 8])), (q6, .inl (cy7, 16, .inl (upd ((upd ((upd ((upd ((upd ((upd ((upd ((upd ((fun _ => 0)) 0 (vp_nar .byte (97 + x0).toInt8.toInt32))) 1 (vp_nar .byte (97 + x0).toInt8.toInt32))) 2 (vp_nar .byte (97 + x0).toInt8.toInt32))) 3 (vp_nar .byte (97 + x0).toInt8.toInt32))) 4 (vp_nar .byte (97 + x0).toInt8.toInt32))) 5 (vp_nar .byte (97 + x0).toInt8.toInt32))) 6 (vp_nar .byte (97 + x0).toInt8.toInt32))) 7 (vp_nar .byte (97 + x0).toInt8.toInt32)))), (q27, .inl (cy28, 8, .inl (va_cpy ((upd ((upd ((upd ((upd ((upd ((upd ((upd ((upd ((fun _ => 0)) 0 (vp_nar .byte (97 + x0).toInt8.toInt32))) 1 (vp_nar .byte (97 + x0).toInt8.toInt32))) 2 (vp_nar .byte (97 + x0).toInt8.toInt32))) 3 (vp_nar .byte (97 + x0).toInt8.toInt32))) 4 (vp_nar .byte (97 + x0).toInt8.toInt32))) 5 (vp_nar .byte (97 + x0).toInt8.toInt32))) 6 (vp_nar .byte (97 + x0).toInt8.toInt32))) 7 (vp_nar .byte (97 + x0).toInt8.toInt32))) (fun _ => 0) 0 0 8))), (q29, .inr (6, [.int 0, .ref (g 0), .int 0])), (h0, .inr (23, [.int 0, .ref h1, v1, v2, v3, v4, v5, v6, .int 1])), (q25, .inr (18, [.int 0, .ref q26, .int 0, .ref q29])), (q30, .inl (cy31, 10, .inr (.inr (.inr (.inr (va_up (fun _ => none) 0 (some q25))))))), (h1, .inr (6, [.int 1, .ref q30, .int 1]))]) [0, 1, 2, 3, 4, 5, 6, 7, 8] (by decide) rfl
  have hK9 := hK.sub (tys' := [(cy7, .byte), (cy28, .byte), (cy31, .object "java/lang/Object")]) [0, 1, 2] rfl
  refine W.widen (k := 7) (n := 49) (Nat.le_of_ble_eq_true rfl) (Nat.le_of_ble_eq_true rfl) ?_
  exact W.iret (v := 0) hx hb hr (fun t ht hW => ⟨⟨_, (), rfl, rfl, q5, q6, cy7, q25, q26, q27, cy28, q29, q30, cy31, by rw [ht]; exact hP9, va_K.moved hW.alike hK9, hD9⟩, hS.F ht⟩) hS.2.2 dX16_word_97

set_option maxHeartbeats 4000000 in
set_option maxRecDepth 100000 in
theorem kX16_word_19 (l : Launch) (dC : Nat → ClassId) (dI : Nat → Nat → Nat) (g : Nat → Nat) (sz : Nat) (h0 : Nat) (x0 : Int32) (h1 : Nat) (v0 : Value) (v1 : Value) (v2 : Value) (v3 : Value) (v4 : Value) (v5 : Value) (v6 : Value) (ex0 : (0 : Int) ≤ x0.toInt ∧ x0.toInt ≤ (25 : Int)) : Met l yX16_word wbX16_word ({ frames := 6, cells := 7, slots := 48, locals := 151 }) (va_Pc [.ref h0, .int x0, .int 7] (fun U => U.heap.size = sz ∧ va_P (dC, dI) vwCl [(h0, .inr (23, [v0, .ref h1, v1, v2, v3, v4, v5, v6, .int 0])), (h1, .inr (6, [.int 0, .ref (g 0), .int 0]))] U.heap ∧ va_K (dC, dI) vwCl [] U ∧ va_D (fun _ => True) [(h0, .inr (23, [v0, .ref h1, v1, v2, v3, v4, v5, v6, .int 0])), (h1, .inr (6, [.int 0, .ref (g 0), .int 0]))] ∧ ns_F g (va_A [(h0, .inr (23, [v0, .ref h1, v1, v2, v3, v4, v5, v6, .int 0])), (h1, .inr (6, [.int 0, .ref (g 0), .int 0]))] sz) U U.heap)) (va_Qi (fun (r : Int32) (_ : Unit) => r = 0) (fun _ t => ∃ k0 : Nat, ∃ k1 : Nat, ∃ kc2 : ClassId, ∃ k3 : Nat, ∃ k4 : Nat, ∃ k5 : Nat, ∃ kc6 : ClassId, ∃ k7 : Nat, ∃ k8 : Nat, ∃ kc9 : ClassId, va_P (dC, dI) vwCl [(k4, .inr (0, [.ref k5, .int 0, .int 0, .int 0])), (k0, .inr (1, [.ref k1, .int 0, .int 0, .int 7])), (k1, .inl (kc2, 16, .inl (upd ((upd ((upd ((upd ((upd ((upd ((upd ((fun _ => 0)) 0 (vp_nar .byte (97 + x0).toInt8.toInt32))) 1 (vp_nar .byte (97 + x0).toInt8.toInt32))) 2 (vp_nar .byte (97 + x0).toInt8.toInt32))) 3 (vp_nar .byte (97 + x0).toInt8.toInt32))) 4 (vp_nar .byte (97 + x0).toInt8.toInt32))) 5 (vp_nar .byte (97 + x0).toInt8.toInt32))) 6 (vp_nar .byte (97 + x0).toInt8.toInt32)))), (k5, .inl (kc6, 7, .inl (va_cpy ((upd ((upd ((upd ((upd ((upd ((upd ((upd ((fun _ => 0)) 0 (vp_nar .byte (97 + x0).toInt8.toInt32))) 1 (vp_nar .byte (97 + x0).toInt8.toInt32))) 2 (vp_nar .byte (97 + x0).toInt8.toInt32))) 3 (vp_nar .byte (97 + x0).toInt8.toInt32))) 4 (vp_nar .byte (97 + x0).toInt8.toInt32))) 5 (vp_nar .byte (97 + x0).toInt8.toInt32))) 6 (vp_nar .byte (97 + x0).toInt8.toInt32))) (fun _ => 0) 0 0 7))), (k7, .inr (6, [.int 0, .ref (g 0), .int 0])), (h0, .inr (23, [.int 0, .ref h1, v1, v2, v3, v4, v5, v6, .int 1])), (k3, .inr (18, [.int 0, .ref k4, .int 0, .ref k7])), (k8, .inl (kc9, 10, .inr (.inr (.inr (.inr (va_up (fun _ => none) 0 (some k3))))))), (h1, .inr (6, [.int 1, .ref k8, .int 1]))] t.heap ∧ va_K (dC, dI) vwCl [(kc2, .byte), (kc6, .byte), (kc9, .object "java/lang/Object")] t ∧ va_D (va_A [(h0, .inr (23, [v0, .ref h1, v1, v2, v3, v4, v5, v6, .int 0])), (h1, .inr (6, [.int 0, .ref (g 0), .int 0]))] sz) [(k4, .inr (0, [.ref k5, .int 0, .int 0, .int 0])), (k0, .inr (1, [.ref k1, .int 0, .int 0, .int 7])), (k1, .inl (kc2, 16, .inl (upd ((upd ((upd ((upd ((upd ((upd ((upd ((fun _ => 0)) 0 (vp_nar .byte (97 + x0).toInt8.toInt32))) 1 (vp_nar .byte (97 + x0).toInt8.toInt32))) 2 (vp_nar .byte (97 + x0).toInt8.toInt32))) 3 (vp_nar .byte (97 + x0).toInt8.toInt32))) 4 (vp_nar .byte (97 + x0).toInt8.toInt32))) 5 (vp_nar .byte (97 + x0).toInt8.toInt32))) 6 (vp_nar .byte (97 + x0).toInt8.toInt32)))), (k5, .inl (kc6, 7, .inl (va_cpy ((upd ((upd ((upd ((upd ((upd ((upd ((upd ((fun _ => 0)) 0 (vp_nar .byte (97 + x0).toInt8.toInt32))) 1 (vp_nar .byte (97 + x0).toInt8.toInt32))) 2 (vp_nar .byte (97 + x0).toInt8.toInt32))) 3 (vp_nar .byte (97 + x0).toInt8.toInt32))) 4 (vp_nar .byte (97 + x0).toInt8.toInt32))) 5 (vp_nar .byte (97 + x0).toInt8.toInt32))) 6 (vp_nar .byte (97 + x0).toInt8.toInt32))) (fun _ => 0) 0 0 7))), (k7, .inr (6, [.int 0, .ref (g 0), .int 0])), (h0, .inr (23, [.int 0, .ref h1, v1, v2, v3, v4, v5, v6, .int 1])), (k3, .inr (18, [.int 0, .ref k4, .int 0, .ref k7])), (k8, .inl (kc9, 10, .inr (.inr (.inr (.inr (va_up (fun _ => none) 0 (some k3))))))), (h1, .inr (6, [.int 1, .ref k8, .int 1]))]) (va_A [(h0, .inr (23, [v0, .ref h1, v1, v2, v3, v4, v5, v6, .int 0])), (h1, .inr (6, [.int 0, .ref (g 0), .int 0]))] sz)) 7 48 (va_A [(h0, .inr (23, [v0, .ref h1, v1, v2, v3, v4, v5, v6, .int 0])), (h1, .inr (6, [.int 0, .ref (g 0), .int 0]))] sz) := by
  refine Met.ofW (cc := cX16_word) (maxL := 5) (ret := (some .int)) (by decide) rfl ?_
  intro p e s m args below meth c s₁ B hml hv
  obtain ⟨rfl, hsz, hP, hK, hD0, hF⟩ := hv
  have hx := B.exec
  have hb := B.bytes
  have hr := B.returns
  have hts := atoms_spec (ws := wbX16_word) B.pre
  have hta : ∀ w ∈ wsALL, w.before _ s = true := fun w h => hts w (List.mem_cons_of_mem _ h)
  have hown : s.vm.findClass RX16 = some m.cls := findClass_of_methodNamed B.named
  have hlocks := B.notSynchronized
  subst hsz
  have hD := hD0.self (sz := s.heap.size)
  generalize hAe : va_A [(h0, .inr (23, [v0, .ref h1, v1, v2, v3, v4, v5, v6, .int 0])), (h1, .inr (6, [.int 0, .ref (g 0), .int 0]))] s.heap.size = A at hD hF ⊢
  have hA : ∀ q : Nat, s.heap.size ≤ q → A q := fun q h => by rw [← hAe]; exact Or.inr h
  have hS : va_S A s.heap s.heap [] := va_S.rf
  have hP : va_P (dC, dI) vwCl [(h0, .inr (23, [v0, .ref h1, v1, v2, v3, v4, v5, v6, .int 0])), (h1, .inr (6, [.int 0, .ref (g 0), .int 0]))] s.heap := hP
  have hl := lv_entry ([.ref h0, .int x0, .int 7]) (n := 5) (Nat.le_of_ble_eq_true rfl)
  rw [lg_entry_eq]
  generalize (lg_sl ([.ref h0, .int x0, .int 7]) ++ List.replicate (5 - (lg_sl ([.ref h0, .int x0, .int 7])).length) Slot.unset).toArray = ls at hl ⊢
  have hl : lv_has ls 5 [(0, .ref h0), (1, .int x0), (2, .int 7)] := hl
  refine lv_aload_n hx hb dX16_word_0 rfl (lv_at hl 0 rfl) ?_
  refine lv_iload_n hx hb dX16_word_1 rfl (lv_at hl 1 rfl) ?_
  refine lv_iconst (v := 0) hx hb dX16_word_2 (by decide) ?_
  refine lv_bipush (v := 25) hx hb dX16_word_3 (by decide) ?_
  have hPc := hP.sub (ws' := []) [] rfl
  have hDc := hD.sub (ws' := []) [] (by decide) rfl
  have hKc := hK.sub (tys' := []) [] rfl
  have hFc := va_free (wc := []) hD hS hA [] rfl
  refine va_calli (va_runS (As := [.int x0, .int 0, .int 25]) (rest := [.ref h0]) ⟨hx, hb, hml, hown, hts⟩ (kX16_isIn_2 l dC dI g s.heap.size x0 ⟨by omega, by omega⟩) (va_cwS 3 hts (ns_gp (List.forall_mem_cons.mpr ⟨wm240, (List.forall_mem_cons.mpr ⟨wm241, (List.forall_mem_cons.mpr ⟨wm192, (fun _ h9 => nomatch h9)⟩)⟩)⟩) wm233) rfl rfl rfl (by decide +kernel) ⟨Nat.le_of_ble_eq_true rfl, Nat.le_of_ble_eq_true rfl⟩) ⟨fun a U gg mk q => by obtain ⟨q0, q1, qP, qK, qD, qF⟩ := q; exact ⟨q0, q1, qP, va_K.moved (u := U) (U := U.calling gg mk a) (Vm.Alike.refl U.vm) qK, qD, ns_same qF⟩, fun U hU hW => ⟨rfl, by rw [hU], by rw [hU]; exact hPc, va_K.moved hW.alike hKc, hDc.weaken (fun _ _ _ _ => trivial), ns_call hF hS hFc hU hW⟩⟩ rfl rfl hl.1 rfl (lv_room (Nat.le_of_ble_eq_true rfl)) dX16_word_5 ⟨Nat.le_of_ble_eq_true rfl, Nat.le_of_ble_eq_true rfl⟩) hS (fun q _ h => hFc q h) hFc (fun r9 u t H1 locs ht hvm hw hB hz1 hk1 hS => ?_)
  obtain rfl := hw.symm
  obtain ⟨hP1, hK1, hD1⟩ := hB
  rw [ht] at hP1
  have hK1 := va_K.moved hvm.symm hK1
  obtain ⟨hP, hD⟩ := va_join (wr := [(h0, .inr (23, [v0, .ref h1, v1, v2, v3, v4, v5, v6, .int 0])), (h1, .inr (6, [.int 0, .ref (g 0), .int 0]))]) (w1 := []) hP hD [] [0, 1] rfl rfl (by decide) (by decide) hk1 hFc hP1 hD1
  have hK := (hK.sub (tys' := []) [] rfl).app hK1
  generalize H1 = H at hP hS ⊢
  have hP : va_P (dC, dI) vwCl [(h0, .inr (23, [v0, .ref h1, v1, v2, v3, v4, v5, v6, .int 0])), (h1, .inr (6, [.int 0, .ref (g 0), .int 0]))] H := hP
  have hD : va_D A [(h0, .inr (23, [v0, .ref h1, v1, v2, v3, v4, v5, v6, .int 0])), (h1, .inr (6, [.int 0, .ref (g 0), .int 0]))] := hD
  have hK : va_K (dC, dI) vwCl [] s := hK
  refine W.widen (k := 0) (n := 0) (Nat.le_of_ble_eq_true rfl) (Nat.le_of_ble_eq_true rfl) ?_
  refine lv_if_eq (tgt := 21) hx hb dX16_word_8 (by decide) (fun c1 => absurd c1 (by decide)) (fun c1 => ?_)
  refine lv_iload_n hx hb dX16_word_11 rfl (lv_at hl 2 rfl) ?_
  refine lv_iconst (v := 1) hx hb dX16_word_12 (by decide) ?_
  refine lv_bipush (v := 9) hx hb dX16_word_13 (by decide) ?_
  have hPc := hP.sub (ws' := []) [] rfl
  have hDc := hD.sub (ws' := []) [] (by decide) rfl
  have hKc := hK.sub (tys' := []) [] rfl
  have hFc := va_free (wc := []) hD hS hA [] rfl
  refine va_calli (va_runS (As := [.int 7, .int 1, .int 9]) (rest := [.ref h0]) ⟨hx, hb, hml, hown, hts⟩ (kX16_isIn_10 l dC dI g H.size  ) (va_cwS 3 hts (ns_gp (List.forall_mem_cons.mpr ⟨wm240, (List.forall_mem_cons.mpr ⟨wm241, (List.forall_mem_cons.mpr ⟨wm192, (fun _ h9 => nomatch h9)⟩)⟩)⟩) wm233) rfl rfl rfl (by decide +kernel) ⟨Nat.le_of_ble_eq_true rfl, Nat.le_of_ble_eq_true rfl⟩) ⟨fun a U gg mk q => by obtain ⟨q0, q1, qP, qK, qD, qF⟩ := q; exact ⟨q0, q1, qP, va_K.moved (u := U) (U := U.calling gg mk a) (Vm.Alike.refl U.vm) qK, qD, ns_same qF⟩, fun U hU hW => ⟨rfl, by rw [hU], by rw [hU]; exact hPc, va_K.moved hW.alike hKc, hDc.weaken (fun _ _ _ _ => trivial), ns_call hF hS hFc hU hW⟩⟩ rfl rfl hl.1 rfl (lv_room (Nat.le_of_ble_eq_true rfl)) dX16_word_15 ⟨Nat.le_of_ble_eq_true rfl, Nat.le_of_ble_eq_true rfl⟩) hS (fun q _ h => hFc q h) hFc (fun r9 u t H1 locs ht hvm hw hB hz1 hk1 hS => ?_)
  obtain rfl := hw.symm
  obtain ⟨hP1, hK1, hD1⟩ := hB
  rw [ht] at hP1
  have hK1 := va_K.moved hvm.symm hK1
  obtain ⟨hP, hD⟩ := va_join (wr := [(h0, .inr (23, [v0, .ref h1, v1, v2, v3, v4, v5, v6, .int 0])), (h1, .inr (6, [.int 0, .ref (g 0), .int 0]))]) (w1 := []) hP hD [] [0, 1] rfl rfl (by decide) (by decide) hk1 hFc hP1 hD1
  have hK := (hK.sub (tys' := []) [] rfl).app hK1
  generalize H1 = H at hP hS ⊢
  have hP : va_P (dC, dI) vwCl [(h0, .inr (23, [v0, .ref h1, v1, v2, v3, v4, v5, v6, .int 0])), (h1, .inr (6, [.int 0, .ref (g 0), .int 0]))] H := hP
  have hD : va_D A [(h0, .inr (23, [v0, .ref h1, v1, v2, v3, v4, v5, v6, .int 0])), (h1, .inr (6, [.int 0, .ref (g 0), .int 0]))] := hD
  have hK : va_K (dC, dI) vwCl [] s := hK
  refine W.widen (k := 0) (n := 0) (Nat.le_of_ble_eq_true rfl) (Nat.le_of_ble_eq_true rfl) ?_
  refine lv_if_ne (tgt := 25) hx hb dX16_word_18 (by decide) (fun c2 => ?_) (fun c2 => absurd c2 (by decide))
  refine lv_iconst (v := 0) hx hb dX16_word_25 (by decide) ?_
  refine lv_iconst (v := 1) hx hb dX16_word_26 (by decide) ?_
  have hPc := hP.sub (ws' := [(h0, .inr (23, [v0, .ref h1, v1, v2, v3, v4, v5, v6, .int 0]))]) [0] rfl
  have hDc := hD.sub (ws' := [(h0, .inr (23, [v0, .ref h1, v1, v2, v3, v4, v5, v6, .int 0]))]) [0] (by decide) rfl
  have hKc := hK.sub (tys' := []) [] rfl
  have hFc := va_free (wc := [(h0, .inr (23, [v0, .ref h1, v1, v2, v3, v4, v5, v6, .int 0]))]) hD hS hA [0] rfl
  refine va_calli (va_runV (As := [.int 0, .int 1]) (rest := []) ⟨hx, hb, hml, hown, hts⟩ (kX16_start_2 l dC dI g H.size h0 v0 (.ref h1) v1 v2 v3 v4 v5 v6 (.int 0) ) (cwV 2 hts (ns_gp (List.forall_mem_cons.mpr ⟨wm242, (List.forall_mem_cons.mpr ⟨wm243, (List.forall_mem_cons.mpr ⟨wm244, (List.forall_mem_cons.mpr ⟨wm192, (fun _ h9 => nomatch h9)⟩)⟩)⟩)⟩) wm239) rfl rfl rfl (by decide +kernel) ⟨Nat.le_of_ble_eq_true rfl, Nat.le_of_ble_eq_true rfl⟩) ⟨fun a U gg mk q => by obtain ⟨q0, q1, qP, qK, qD, qF⟩ := q; exact ⟨q0, q1, qP, va_K.moved (u := U) (U := U.calling gg mk a) (Vm.Alike.refl U.vm) qK, qD, ns_same qF⟩, va_recv hK hP (ci := 23) (q0 := 0) rfl rfl, fun U hU hW => ⟨rfl, by rw [hU], by rw [hU]; exact hPc, va_K.moved hW.alike hKc, hDc.weaken (fun _ _ _ _ => trivial), ns_call hF hS hFc hU hW⟩⟩ rfl rfl hl.1 rfl (lv_room (Nat.le_of_ble_eq_true rfl)) dX16_word_27 ⟨Nat.le_of_ble_eq_true rfl, Nat.le_of_ble_eq_true rfl⟩) hS (fun q _ h => hFc q h) hFc (fun r9 u t H1 locs ht hvm hw hB hz1 hk1 hS => ?_)
  obtain rfl := hw.symm
  obtain ⟨hP1, hK1, hD1⟩ := hB
  rw [ht] at hP1
  have hK1 := va_K.moved hvm.symm hK1
  obtain ⟨hP, hD⟩ := va_join (wr := [(h1, .inr (6, [.int 0, .ref (g 0), .int 0]))]) (w1 := [(h0, .inr (23, [.int 0, .ref h1, v1, v2, v3, v4, v5, v6, .int 0]))]) hP hD [0] [1] rfl rfl (by decide) (by decide) hk1 hFc hP1 hD1
  have hK := (hK.sub (tys' := []) [] rfl).app hK1
  generalize H1 = H at hP hS ⊢
  have hP : va_P (dC, dI) vwCl [(h1, .inr (6, [.int 0, .ref (g 0), .int 0])), (h0, .inr (23, [.int 0, .ref h1, v1, v2, v3, v4, v5, v6, .int 0]))] H := hP
  have hD : va_D A [(h1, .inr (6, [.int 0, .ref (g 0), .int 0])), (h0, .inr (23, [.int 0, .ref h1, v1, v2, v3, v4, v5, v6, .int 0]))] := hD
  have hK : va_K (dC, dI) vwCl [] s := hK
  refine W.widen (k := 0) (n := 0) (Nat.le_of_ble_eq_true rfl) (Nat.le_of_ble_eq_true rfl) ?_
  refine lv_if_ne (tgt := 45) hx hb dX16_word_30 (by decide) (fun c3 => absurd (by decide) c3) (fun c3 => ?_)
  refine lv_aload_n hx hb dX16_word_33 rfl (lv_at hl 0 rfl) ?_
  refine lv_aload_n hx hb dX16_word_34 rfl (lv_at hl 0 rfl) ?_
  have hPc := hP.sub (ws' := [(h0, .inr (23, [.int 0, .ref h1, v1, v2, v3, v4, v5, v6, .int 0])), (h1, .inr (6, [.int 0, .ref (g 0), .int 0]))]) [1, 0] rfl
  have hDc := hD.sub (ws' := [(h0, .inr (23, [.int 0, .ref h1, v1, v2, v3, v4, v5, v6, .int 0])), (h1, .inr (6, [.int 0, .ref (g 0), .int 0]))]) [1, 0] (by decide) rfl
  have hKc := hK.sub (tys' := []) [] rfl
  have hFc := va_free (wc := [(h0, .inr (23, [.int 0, .ref h1, v1, v2, v3, v4, v5, v6, .int 0])), (h1, .inr (6, [.int 0, .ref (g 0), .int 0]))]) hD hS hA [1, 0] rfl
  refine va_calli (va_runV (As := []) (rest := [.ref h0]) ⟨hx, hb, hml, hown, hts⟩ (kX16_isFull l dC dI g H.size h0 h1 (.int 0) v1 v2 v3 v4 v5 v6 (.int 0) (.int 0) (.ref (g 0)) ) (cwV 0 hts (ns_gp (List.forall_mem_cons.mpr ⟨wm393, (List.forall_mem_cons.mpr ⟨wm394, (List.forall_mem_cons.mpr ⟨wm395, (List.forall_mem_cons.mpr ⟨wm192, (fun _ h9 => nomatch h9)⟩)⟩)⟩)⟩) wm288) rfl rfl rfl (by decide +kernel) ⟨Nat.le_of_ble_eq_true rfl, Nat.le_of_ble_eq_true rfl⟩) ⟨fun a U gg mk q => by obtain ⟨q0, q1, qP, qK, qD, qF⟩ := q; exact ⟨q0, q1, qP, va_K.moved (u := U) (U := U.calling gg mk a) (Vm.Alike.refl U.vm) qK, qD, ns_same qF⟩, va_recv hK hP (ci := 23) (q0 := 1) rfl rfl, fun U hU hW => ⟨rfl, by rw [hU], by rw [hU]; exact hPc, va_K.moved hW.alike hKc, hDc.weaken (fun _ _ _ _ => trivial), ns_call hF hS hFc hU hW⟩⟩ rfl rfl hl.1 rfl (lv_room (Nat.le_of_ble_eq_true rfl)) dX16_word_35 ⟨Nat.le_of_ble_eq_true rfl, Nat.le_of_ble_eq_true rfl⟩) hS (fun q _ h => hFc q h) hFc (fun r9 u t H1 locs ht hvm hw hB hz1 hk1 hS => ?_)
  obtain rfl := hw.symm
  obtain ⟨hP1, hK1, hD1⟩ := hB
  rw [ht] at hP1
  have hK1 := va_K.moved hvm.symm hK1
  obtain ⟨hP, hD⟩ := va_join (wr := []) (w1 := [(h0, .inr (23, [.int 0, .ref h1, v1, v2, v3, v4, v5, v6, .int 0])), (h1, .inr (6, [.int 0, .ref (g 0), .int 0]))]) hP hD [1, 0] [] rfl rfl (by decide) (by decide) hk1 hFc hP1 hD1
  have hK := (hK.sub (tys' := []) [] rfl).app hK1
  generalize H1 = H at hP hS ⊢
  have hP : va_P (dC, dI) vwCl [(h0, .inr (23, [.int 0, .ref h1, v1, v2, v3, v4, v5, v6, .int 0])), (h1, .inr (6, [.int 0, .ref (g 0), .int 0]))] H := hP
  have hD : va_D A [(h0, .inr (23, [.int 0, .ref h1, v1, v2, v3, v4, v5, v6, .int 0])), (h1, .inr (6, [.int 0, .ref (g 0), .int 0]))] := hD
  have hK : va_K (dC, dI) vwCl [] s := hK
  refine W.widen (k := 0) (n := 0) (Nat.le_of_ble_eq_true rfl) (Nat.le_of_ble_eq_true rfl) ?_
  refine lv_iconst (v := 2) hx hb dX16_word_38 (by decide) ?_
  have hPc := hP.sub (ws' := [(h0, .inr (23, [.int 0, .ref h1, v1, v2, v3, v4, v5, v6, .int 0]))]) [0] rfl
  have hDc := hD.sub (ws' := [(h0, .inr (23, [.int 0, .ref h1, v1, v2, v3, v4, v5, v6, .int 0]))]) [0] (by decide) rfl
  have hKc := hK.sub (tys' := []) [] rfl
  have hFc := va_free (wc := [(h0, .inr (23, [.int 0, .ref h1, v1, v2, v3, v4, v5, v6, .int 0]))]) hD hS hA [0] rfl
  refine va_calli (va_runV (As := [.int 0, .int 2]) (rest := []) ⟨hx, hb, hml, hown, hts⟩ (kX16_refuse_3 l dC dI g H.size h0 (.ref h1) v1 v2 v3 v4 v5 v6 (.int 0) ) (cwV 2 hts (ns_gp (List.forall_mem_cons.mpr ⟨wm236, (List.forall_mem_cons.mpr ⟨wm237, (List.forall_mem_cons.mpr ⟨wm238, (List.forall_mem_cons.mpr ⟨wm192, (fun _ h9 => nomatch h9)⟩)⟩)⟩)⟩) wm235) rfl rfl rfl (by decide +kernel) ⟨Nat.le_of_ble_eq_true rfl, Nat.le_of_ble_eq_true rfl⟩) ⟨fun a U gg mk q => by obtain ⟨q0, q1, qP, qK, qD, qF⟩ := q; exact ⟨q0, q1, qP, va_K.moved (u := U) (U := U.calling gg mk a) (Vm.Alike.refl U.vm) qK, qD, ns_same qF⟩, va_recv hK hP (ci := 23) (q0 := 0) rfl rfl, fun U hU hW => ⟨rfl, by rw [hU], by rw [hU]; exact hPc, va_K.moved hW.alike hKc, hDc.weaken (fun _ _ _ _ => trivial), ns_call hF hS hFc hU hW⟩⟩ rfl rfl hl.1 rfl (lv_room (Nat.le_of_ble_eq_true rfl)) dX16_word_39 ⟨Nat.le_of_ble_eq_true rfl, Nat.le_of_ble_eq_true rfl⟩) hS (fun q _ h => hFc q h) hFc (fun r9 u t H1 locs ht hvm hw hB hz1 hk1 hS => ?_)
  obtain rfl := hw.symm
  obtain ⟨hP1, hK1, hD1⟩ := hB
  rw [ht] at hP1
  have hK1 := va_K.moved hvm.symm hK1
  obtain ⟨hP, hD⟩ := va_join (wr := [(h1, .inr (6, [.int 0, .ref (g 0), .int 0]))]) (w1 := [(h0, .inr (23, [.int 0, .ref h1, v1, v2, v3, v4, v5, v6, .int 0]))]) hP hD [0] [1] rfl rfl (by decide) (by decide) hk1 hFc hP1 hD1
  have hK := (hK.sub (tys' := []) [] rfl).app hK1
  generalize H1 = H at hP hS ⊢
  have hP : va_P (dC, dI) vwCl [(h1, .inr (6, [.int 0, .ref (g 0), .int 0])), (h0, .inr (23, [.int 0, .ref h1, v1, v2, v3, v4, v5, v6, .int 0]))] H := hP
  have hD : va_D A [(h1, .inr (6, [.int 0, .ref (g 0), .int 0])), (h0, .inr (23, [.int 0, .ref h1, v1, v2, v3, v4, v5, v6, .int 0]))] := hD
  have hK : va_K (dC, dI) vwCl [] s := hK
  refine W.widen (k := 0) (n := 0) (Nat.le_of_ble_eq_true rfl) (Nat.le_of_ble_eq_true rfl) ?_
  refine lv_if_eq (tgt := 47) hx hb dX16_word_42 (by decide) (fun c4 => ?_) (fun c4 => absurd (by decide) c4)
  refine va_new (ci := 1) (fs := [.null, .int 0, .int 0, .int 0]) (C := RJ4) (T := TJ4) (N := 4) hx hb hta naJ4 tyJ4 tyJ4_ok hown (hta _ wm289) (hta _ wm136) (hta _ wm137) hK hP hD hS hA rfl (fun j hj => by rcases (show j = 0 ∨ j = 1 ∨ j = 2 ∨ j = 3 by omega) with rfl | rfl | rfl | rfl <;> rfl) (Nat.le_of_ble_eq_true rfl) (Nat.le_of_ble_eq_true rfl) dX16_word_47 (fun q5 H hP hD hS => ?_)
  have hP : va_P (dC, dI) vwCl [(h1, .inr (6, [.int 0, .ref (g 0), .int 0])), (h0, .inr (23, [.int 0, .ref h1, v1, v2, v3, v4, v5, v6, .int 0])), (q5, .inr (1, [.null, .int 0, .int 0, .int 0]))] H := hP
  have hD : va_D A [(h1, .inr (6, [.int 0, .ref (g 0), .int 0])), (h0, .inr (23, [.int 0, .ref h1, v1, v2, v3, v4, v5, v6, .int 0])), (q5, .inr (1, [.null, .int 0, .int 0, .int 0]))] := hD
  refine W.widen (k := 1) (n := 4) (Nat.le_of_ble_eq_true rfl) (Nat.le_of_ble_eq_true rfl) ?_
  refine lv_dup hx hb dX16_word_50 rfl ?_
  have hPc := hP.sub (ws' := [(q5, .inr (1, [.null, .int 0, .int 0, .int 0]))]) [2] rfl
  have hDc := hD.sub (ws' := [(q5, .inr (1, [.null, .int 0, .int 0, .int 0]))]) [2] (by decide) rfl
  have hKc := hK.sub (tys' := []) [] rfl
  have hFc := va_free (wc := [(q5, .inr (1, [.null, .int 0, .int 0, .int 0]))]) hD hS hA [2] rfl
  refine va_callv (va_runI (As := []) (rest := [.ref q5]) ⟨hx, hb, hml, hown, hts⟩ (kJ4_init_da8c8 l dC dI g H.size q5 .null (.int 0) (.int 0) (.int 0) ) (cwI 0 hts (ns_g0 wm147) rfl rfl rfl (hta _ wm137) (hta _ wm396) (hta _ wm185) rfl (by decide +kernel) ⟨Nat.le_of_ble_eq_true rfl, Nat.le_of_ble_eq_true rfl⟩) ⟨fun a U gg mk q => by obtain ⟨q0, q1, qP, qK, qD, qF⟩ := q; exact ⟨q0, q1, qP, va_K.moved (u := U) (U := U.calling gg mk a) (Vm.Alike.refl U.vm) qK, qD, ns_same qF⟩, fun U hU hW => ⟨rfl, by rw [hU], by rw [hU]; exact hPc, va_K.moved hW.alike hKc, hDc.weaken (fun _ _ _ _ => trivial), ns_call hF hS hFc hU hW⟩⟩ rfl rfl hl.1 rfl (lv_room (Nat.le_of_ble_eq_true rfl)) dX16_word_51 ⟨Nat.le_of_ble_eq_true rfl, Nat.le_of_ble_eq_true rfl⟩) hS (fun q _ h => hFc q h) hFc (fun u t H1 locs ht hvm hw hB hz1 hk1 hS => ?_)
  obtain ⟨q6, cy7, hP1, hK1, hD1⟩ := hB
  rw [ht] at hP1
  have hK1 := va_K.moved hvm.symm hK1
  obtain ⟨hP, hD⟩ := va_join (wr := [(h1, .inr (6, [.int 0, .ref (g 0), .int 0])), (h0, .inr (23, [.int 0, .ref h1, v1, v2, v3, v4, v5, v6, .int 0]))]) (w1 := [(q5, .inr (1, [.ref q6, .int 0, .int 0, .int 0])), (q6, .inl (cy7, 16, .inl (fun _ => 0)))]) hP hD [2] [0, 1] rfl rfl (by decide) (by decide) hk1 hFc hP1 hD1
  have hK := (hK.sub (tys' := []) [] rfl).app hK1
  generalize H1 = H at hP hS ⊢
  have hP : va_P (dC, dI) vwCl [(h1, .inr (6, [.int 0, .ref (g 0), .int 0])), (h0, .inr (23, [.int 0, .ref h1, v1, v2, v3, v4, v5, v6, .int 0])), (q5, .inr (1, [.ref q6, .int 0, .int 0, .int 0])), (q6, .inl (cy7, 16, .inl (fun _ => 0)))] H := hP
  have hD : va_D A [(h1, .inr (6, [.int 0, .ref (g 0), .int 0])), (h0, .inr (23, [.int 0, .ref h1, v1, v2, v3, v4, v5, v6, .int 0])), (q5, .inr (1, [.ref q6, .int 0, .int 0, .int 0])), (q6, .inl (cy7, 16, .inl (fun _ => 0)))] := hD
  have hK : va_K (dC, dI) vwCl [(cy7, .byte)] s := hK
  refine W.widen (k := 2) (n := 20) (Nat.le_of_ble_eq_true rfl) (Nat.le_of_ble_eq_true rfl) ?_
  refine lv_astore_n (lv' := [(3, .ref q5), (0, .ref h0), (1, .int x0), (2, .int 7)]) hx hb dX16_word_54 rfl hl (by decide) rfl (fun ls hl => ?_)
  refine lv_iconst (v := 0) hx hb dX16_word_55 (by decide) ?_
  refine lv_istore (lv' := [(4, .int 0), (3, .ref q5), (0, .ref h0), (1, .int x0), (2, .int 7)]) hx hb dX16_word_56 hl (by decide) rfl (fun ls hl => ?_)
  refine lv_iload hx hb dX16_word_58 (lv_at hl 0 rfl) ?_
  refine lv_iload_n hx hb dX16_word_60 rfl (lv_at hl 4 rfl) ?_
  refine lv_icmp_ge (tgt := 80) hx hb dX16_word_61 (by decide) (fun c8 => absurd c8 (by decide)) (fun c8 => ?_)
  refine lv_aload_n hx hb dX16_word_64 rfl (lv_at hl 1 rfl) ?_
  refine lv_bipush (v := 97) hx hb dX16_word_65 (by decide) ?_
  refine lv_iload_n hx hb dX16_word_67 rfl (lv_at hl 3 rfl) ?_
  refine lv_iadd hx hb dX16_word_68 ?_
  have r9 : (97 + x0).toInt = (97 : Int) + x0.toInt := fb_addI (show (-2147483648 : Int) ≤ (97 : Int) + x0.toInt by omega) (show (97 : Int) + x0.toInt < (2147483648 : Int) by omega)
  refine lv_i2c (v := (97 + x0)) hx hb dX16_word_69 (ns_i2c (show (0 : Int) ≤ (97 + x0).toInt by omega) (by omega)) ?_
  have hPc := hP.sub (ws' := [(q5, .inr (1, [.ref q6, .int 0, .int 0, .int 0])), (q6, .inl (cy7, 16, .inl (fun _ => 0)))]) [2, 3] rfl
  have hDc := hD.sub (ws' := [(q5, .inr (1, [.ref q6, .int 0, .int 0, .int 0])), (q6, .inl (cy7, 16, .inl (fun _ => 0)))]) [2, 3] (by decide) rfl
  have hKc := hK.sub (tys' := [(cy7, .byte)]) [0] rfl
  have hFc := va_free (wc := [(q5, .inr (1, [.ref q6, .int 0, .int 0, .int 0])), (q6, .inl (cy7, 16, .inl (fun _ => 0)))]) hD hS hA [2, 3] rfl
  refine va_callr (va_runV (As := [.int (97 + x0)]) (rest := []) ⟨hx, hb, hml, hown, hts⟩ (kJ4_append_cf468 l dC dI g H.size q5 (97 + x0) q6 (.int 0) cy7 (fun _ => 0) sb_fit0 ⟨by omega, by omega⟩) (cwV 1 hts (ns_gp (List.forall_mem_cons.mpr ⟨wm397, (List.forall_mem_cons.mpr ⟨wm398, (List.forall_mem_cons.mpr ⟨wm399, (List.forall_mem_cons.mpr ⟨wm137, (fun _ h9 => nomatch h9)⟩)⟩)⟩)⟩) wm310) rfl rfl rfl (by decide +kernel) ⟨Nat.le_of_ble_eq_true rfl, Nat.le_of_ble_eq_true rfl⟩) ⟨fun a U gg mk q => by obtain ⟨q0, q1, qP, qK, qD, qF⟩ := q; exact ⟨q0, q1, qP, va_K.moved (u := U) (U := U.calling gg mk a) (Vm.Alike.refl U.vm) qK, qD, ns_same qF⟩, va_recv hK hP (ci := 1) (q0 := 2) rfl rfl, fun U hU hW => ⟨rfl, by rw [hU], by rw [hU]; exact hPc, va_K.moved hW.alike hKc, hDc.weaken (fun _ _ _ _ => trivial), ns_call hF hS hFc hU hW⟩⟩ rfl rfl hl.1 rfl (lv_room (Nat.le_of_ble_eq_true rfl)) dX16_word_70 ⟨Nat.le_of_ble_eq_true rfl, Nat.le_of_ble_eq_true rfl⟩) hS (fun q _ h => hFc q h) hFc (fun u r9 t H1 locs ht hvm hw hB hz1 hk1 hS => ?_)
  obtain ⟨hr9, hP1, hK1, hD1⟩ := hB
  obtain rfl := hr9.symm
  rw [ht] at hP1
  have hK1 := va_K.moved hvm.symm hK1
  obtain ⟨hP, hD⟩ := va_join (wr := [(h1, .inr (6, [.int 0, .ref (g 0), .int 0])), (h0, .inr (23, [.int 0, .ref h1, v1, v2, v3, v4, v5, v6, .int 0]))]) (w1 := [(q6, .inl (cy7, 16, .inl (upd ((fun _ => 0)) 0 (vp_nar .byte (97 + x0).toInt8.toInt32)))), (q5, .inr (1, [.ref q6, .int 0, .int 0, .int 1]))]) hP hD [2, 3] [0, 1] rfl rfl (by decide) (by decide) hk1 hFc hP1 hD1
  have hK := (hK.sub (tys' := []) [] rfl).app hK1
  generalize H1 = H at hP hS ⊢
  have hP : va_P (dC, dI) vwCl [(h1, .inr (6, [.int 0, .ref (g 0), .int 0])), (h0, .inr (23, [.int 0, .ref h1, v1, v2, v3, v4, v5, v6, .int 0])), (q6, .inl (cy7, 16, .inl (upd ((fun _ => 0)) 0 (vp_nar .byte (97 + x0).toInt8.toInt32)))), (q5, .inr (1, [.ref q6, .int 0, .int 0, .int 1]))] H := hP
  have hD : va_D A [(h1, .inr (6, [.int 0, .ref (g 0), .int 0])), (h0, .inr (23, [.int 0, .ref h1, v1, v2, v3, v4, v5, v6, .int 0])), (q6, .inl (cy7, 16, .inl (upd ((fun _ => 0)) 0 (vp_nar .byte (97 + x0).toInt8.toInt32)))), (q5, .inr (1, [.ref q6, .int 0, .int 0, .int 1]))] := hD
  have hK : va_K (dC, dI) vwCl [(cy7, .byte)] s := hK
  refine W.widen (k := 2) (n := 20) (Nat.le_of_ble_eq_true rfl) (Nat.le_of_ble_eq_true rfl) ?_
  refine lv_pop hx hb dX16_word_73 rfl ?_
  refine lv_iinc (v := 1) (lv' := [(4, .int 1), (3, .ref q5), (0, .ref h0), (1, .int x0), (2, .int 7)]) hx hb dX16_word_74 hl (k := 0) rfl (by decide) (by decide) rfl (fun ls hl => ?_)
  refine lv_goto (tgt := 58) hx hb dX16_word_77 (by decide) ?_
  refine lv_iload hx hb dX16_word_58 (lv_at hl 0 rfl) ?_
  refine lv_iload_n hx hb dX16_word_60 rfl (lv_at hl 4 rfl) ?_
  refine lv_icmp_ge (tgt := 80) hx hb dX16_word_61 (by decide) (fun c10 => absurd c10 (by decide)) (fun c10 => ?_)
  refine lv_aload_n hx hb dX16_word_64 rfl (lv_at hl 1 rfl) ?_
  refine lv_bipush (v := 97) hx hb dX16_word_65 (by decide) ?_
  refine lv_iload_n hx hb dX16_word_67 rfl (lv_at hl 3 rfl) ?_
  refine lv_iadd hx hb dX16_word_68 ?_
  have r11 : (97 + x0).toInt = (97 : Int) + x0.toInt := fb_addI (show (-2147483648 : Int) ≤ (97 : Int) + x0.toInt by omega) (show (97 : Int) + x0.toInt < (2147483648 : Int) by omega)
  refine lv_i2c (v := (97 + x0)) hx hb dX16_word_69 (ns_i2c (show (0 : Int) ≤ (97 + x0).toInt by omega) (by omega)) ?_
  have hPc := hP.sub (ws' := [(q5, .inr (1, [.ref q6, .int 0, .int 0, .int 1])), (q6, .inl (cy7, 16, .inl (upd ((fun _ => 0)) 0 (vp_nar .byte (97 + x0).toInt8.toInt32))))]) [3, 2] rfl
  have hDc := hD.sub (ws' := [(q5, .inr (1, [.ref q6, .int 0, .int 0, .int 1])), (q6, .inl (cy7, 16, .inl (upd ((fun _ => 0)) 0 (vp_nar .byte (97 + x0).toInt8.toInt32))))]) [3, 2] (by decide) rfl
  have hKc := hK.sub (tys' := [(cy7, .byte)]) [0] rfl
  have hFc := va_free (wc := [(q5, .inr (1, [.ref q6, .int 0, .int 0, .int 1])), (q6, .inl (cy7, 16, .inl (upd ((fun _ => 0)) 0 (vp_nar .byte (97 + x0).toInt8.toInt32))))]) hD hS hA [3, 2] rfl
  refine va_callr (va_runV (As := [.int (97 + x0)]) (rest := []) ⟨hx, hb, hml, hown, hts⟩ (kJ4_append_cf468_2 l dC dI g H.size q5 (97 + x0) q6 (.int 0) cy7 (upd ((fun _ => 0)) 0 (vp_nar .byte (97 + x0).toInt8.toInt32)) (sb_fitU sb_fit0 (pk_fb _)) ⟨by omega, by omega⟩) (cwV 1 hts (ns_gp (List.forall_mem_cons.mpr ⟨wm397, (List.forall_mem_cons.mpr ⟨wm398, (List.forall_mem_cons.mpr ⟨wm399, (List.forall_mem_cons.mpr ⟨wm137, (fun _ h9 => nomatch h9)⟩)⟩)⟩)⟩) wm310) rfl rfl rfl (by decide +kernel) ⟨Nat.le_of_ble_eq_true rfl, Nat.le_of_ble_eq_true rfl⟩) ⟨fun a U gg mk q => by obtain ⟨q0, q1, qP, qK, qD, qF⟩ := q; exact ⟨q0, q1, qP, va_K.moved (u := U) (U := U.calling gg mk a) (Vm.Alike.refl U.vm) qK, qD, ns_same qF⟩, va_recv hK hP (ci := 1) (q0 := 3) rfl rfl, fun U hU hW => ⟨rfl, by rw [hU], by rw [hU]; exact hPc, va_K.moved hW.alike hKc, hDc.weaken (fun _ _ _ _ => trivial), ns_call hF hS hFc hU hW⟩⟩ rfl rfl hl.1 rfl (lv_room (Nat.le_of_ble_eq_true rfl)) dX16_word_70 ⟨Nat.le_of_ble_eq_true rfl, Nat.le_of_ble_eq_true rfl⟩) hS (fun q _ h => hFc q h) hFc (fun u r9 t H1 locs ht hvm hw hB hz1 hk1 hS => ?_)
  obtain ⟨hr9, hP1, hK1, hD1⟩ := hB
  obtain rfl := hr9.symm
  rw [ht] at hP1
  have hK1 := va_K.moved hvm.symm hK1
  obtain ⟨hP, hD⟩ := va_join (wr := [(h1, .inr (6, [.int 0, .ref (g 0), .int 0])), (h0, .inr (23, [.int 0, .ref h1, v1, v2, v3, v4, v5, v6, .int 0]))]) (w1 := [(q6, .inl (cy7, 16, .inl (upd ((upd ((fun _ => 0)) 0 (vp_nar .byte (97 + x0).toInt8.toInt32))) 1 (vp_nar .byte (97 + x0).toInt8.toInt32)))), (q5, .inr (1, [.ref q6, .int 0, .int 0, .int 2]))]) hP hD [3, 2] [0, 1] rfl rfl (by decide) (by decide) hk1 hFc hP1 hD1
  have hK := (hK.sub (tys' := []) [] rfl).app hK1
  generalize H1 = H at hP hS ⊢
  have hP : va_P (dC, dI) vwCl [(h1, .inr (6, [.int 0, .ref (g 0), .int 0])), (h0, .inr (23, [.int 0, .ref h1, v1, v2, v3, v4, v5, v6, .int 0])), (q6, .inl (cy7, 16, .inl (upd ((upd ((fun _ => 0)) 0 (vp_nar .byte (97 + x0).toInt8.toInt32))) 1 (vp_nar .byte (97 + x0).toInt8.toInt32)))), (q5, .inr (1, [.ref q6, .int 0, .int 0, .int 2]))] H := hP
  have hD : va_D A [(h1, .inr (6, [.int 0, .ref (g 0), .int 0])), (h0, .inr (23, [.int 0, .ref h1, v1, v2, v3, v4, v5, v6, .int 0])), (q6, .inl (cy7, 16, .inl (upd ((upd ((fun _ => 0)) 0 (vp_nar .byte (97 + x0).toInt8.toInt32))) 1 (vp_nar .byte (97 + x0).toInt8.toInt32)))), (q5, .inr (1, [.ref q6, .int 0, .int 0, .int 2]))] := hD
  have hK : va_K (dC, dI) vwCl [(cy7, .byte)] s := hK
  refine W.widen (k := 2) (n := 20) (Nat.le_of_ble_eq_true rfl) (Nat.le_of_ble_eq_true rfl) ?_
  refine lv_pop hx hb dX16_word_73 rfl ?_
  refine lv_iinc (v := 2) (lv' := [(4, .int 2), (3, .ref q5), (0, .ref h0), (1, .int x0), (2, .int 7)]) hx hb dX16_word_74 hl (k := 0) rfl (by decide) (by decide) rfl (fun ls hl => ?_)
  refine lv_goto (tgt := 58) hx hb dX16_word_77 (by decide) ?_
  refine lv_iload hx hb dX16_word_58 (lv_at hl 0 rfl) ?_
  refine lv_iload_n hx hb dX16_word_60 rfl (lv_at hl 4 rfl) ?_
  refine lv_icmp_ge (tgt := 80) hx hb dX16_word_61 (by decide) (fun c12 => absurd c12 (by decide)) (fun c12 => ?_)
  refine lv_aload_n hx hb dX16_word_64 rfl (lv_at hl 1 rfl) ?_
  refine lv_bipush (v := 97) hx hb dX16_word_65 (by decide) ?_
  refine lv_iload_n hx hb dX16_word_67 rfl (lv_at hl 3 rfl) ?_
  refine lv_iadd hx hb dX16_word_68 ?_
  have r13 : (97 + x0).toInt = (97 : Int) + x0.toInt := fb_addI (show (-2147483648 : Int) ≤ (97 : Int) + x0.toInt by omega) (show (97 : Int) + x0.toInt < (2147483648 : Int) by omega)
  refine lv_i2c (v := (97 + x0)) hx hb dX16_word_69 (ns_i2c (show (0 : Int) ≤ (97 + x0).toInt by omega) (by omega)) ?_
  have hPc := hP.sub (ws' := [(q5, .inr (1, [.ref q6, .int 0, .int 0, .int 2])), (q6, .inl (cy7, 16, .inl (upd ((upd ((fun _ => 0)) 0 (vp_nar .byte (97 + x0).toInt8.toInt32))) 1 (vp_nar .byte (97 + x0).toInt8.toInt32))))]) [3, 2] rfl
  have hDc := hD.sub (ws' := [(q5, .inr (1, [.ref q6, .int 0, .int 0, .int 2])), (q6, .inl (cy7, 16, .inl (upd ((upd ((fun _ => 0)) 0 (vp_nar .byte (97 + x0).toInt8.toInt32))) 1 (vp_nar .byte (97 + x0).toInt8.toInt32))))]) [3, 2] (by decide) rfl
  have hKc := hK.sub (tys' := [(cy7, .byte)]) [0] rfl
  have hFc := va_free (wc := [(q5, .inr (1, [.ref q6, .int 0, .int 0, .int 2])), (q6, .inl (cy7, 16, .inl (upd ((upd ((fun _ => 0)) 0 (vp_nar .byte (97 + x0).toInt8.toInt32))) 1 (vp_nar .byte (97 + x0).toInt8.toInt32))))]) hD hS hA [3, 2] rfl
  refine va_callr (va_runV (As := [.int (97 + x0)]) (rest := []) ⟨hx, hb, hml, hown, hts⟩ (kJ4_append_cf468_3 l dC dI g H.size q5 (97 + x0) q6 (.int 0) cy7 (upd ((upd ((fun _ => 0)) 0 (vp_nar .byte (97 + x0).toInt8.toInt32))) 1 (vp_nar .byte (97 + x0).toInt8.toInt32)) (sb_fitU (sb_fitU sb_fit0 (pk_fb _)) (pk_fb _)) ⟨by omega, by omega⟩) (cwV 1 hts (ns_gp (List.forall_mem_cons.mpr ⟨wm397, (List.forall_mem_cons.mpr ⟨wm398, (List.forall_mem_cons.mpr ⟨wm399, (List.forall_mem_cons.mpr ⟨wm137, (fun _ h9 => nomatch h9)⟩)⟩)⟩)⟩) wm310) rfl rfl rfl (by decide +kernel) ⟨Nat.le_of_ble_eq_true rfl, Nat.le_of_ble_eq_true rfl⟩) ⟨fun a U gg mk q => by obtain ⟨q0, q1, qP, qK, qD, qF⟩ := q; exact ⟨q0, q1, qP, va_K.moved (u := U) (U := U.calling gg mk a) (Vm.Alike.refl U.vm) qK, qD, ns_same qF⟩, va_recv hK hP (ci := 1) (q0 := 3) rfl rfl, fun U hU hW => ⟨rfl, by rw [hU], by rw [hU]; exact hPc, va_K.moved hW.alike hKc, hDc.weaken (fun _ _ _ _ => trivial), ns_call hF hS hFc hU hW⟩⟩ rfl rfl hl.1 rfl (lv_room (Nat.le_of_ble_eq_true rfl)) dX16_word_70 ⟨Nat.le_of_ble_eq_true rfl, Nat.le_of_ble_eq_true rfl⟩) hS (fun q _ h => hFc q h) hFc (fun u r9 t H1 locs ht hvm hw hB hz1 hk1 hS => ?_)
  obtain ⟨hr9, hP1, hK1, hD1⟩ := hB
  obtain rfl := hr9.symm
  rw [ht] at hP1
  have hK1 := va_K.moved hvm.symm hK1
  obtain ⟨hP, hD⟩ := va_join (wr := [(h1, .inr (6, [.int 0, .ref (g 0), .int 0])), (h0, .inr (23, [.int 0, .ref h1, v1, v2, v3, v4, v5, v6, .int 0]))]) (w1 := [(q6, .inl (cy7, 16, .inl (upd ((upd ((upd ((fun _ => 0)) 0 (vp_nar .byte (97 + x0).toInt8.toInt32))) 1 (vp_nar .byte (97 + x0).toInt8.toInt32))) 2 (vp_nar .byte (97 + x0).toInt8.toInt32)))), (q5, .inr (1, [.ref q6, .int 0, .int 0, .int 3]))]) hP hD [3, 2] [0, 1] rfl rfl (by decide) (by decide) hk1 hFc hP1 hD1
  have hK := (hK.sub (tys' := []) [] rfl).app hK1
  generalize H1 = H at hP hS ⊢
  have hP : va_P (dC, dI) vwCl [(h1, .inr (6, [.int 0, .ref (g 0), .int 0])), (h0, .inr (23, [.int 0, .ref h1, v1, v2, v3, v4, v5, v6, .int 0])), (q6, .inl (cy7, 16, .inl (upd ((upd ((upd ((fun _ => 0)) 0 (vp_nar .byte (97 + x0).toInt8.toInt32))) 1 (vp_nar .byte (97 + x0).toInt8.toInt32))) 2 (vp_nar .byte (97 + x0).toInt8.toInt32)))), (q5, .inr (1, [.ref q6, .int 0, .int 0, .int 3]))] H := hP
  have hD : va_D A [(h1, .inr (6, [.int 0, .ref (g 0), .int 0])), (h0, .inr (23, [.int 0, .ref h1, v1, v2, v3, v4, v5, v6, .int 0])), (q6, .inl (cy7, 16, .inl (upd ((upd ((upd ((fun _ => 0)) 0 (vp_nar .byte (97 + x0).toInt8.toInt32))) 1 (vp_nar .byte (97 + x0).toInt8.toInt32))) 2 (vp_nar .byte (97 + x0).toInt8.toInt32)))), (q5, .inr (1, [.ref q6, .int 0, .int 0, .int 3]))] := hD
  have hK : va_K (dC, dI) vwCl [(cy7, .byte)] s := hK
  refine W.widen (k := 2) (n := 20) (Nat.le_of_ble_eq_true rfl) (Nat.le_of_ble_eq_true rfl) ?_
  refine lv_pop hx hb dX16_word_73 rfl ?_
  refine lv_iinc (v := 3) (lv' := [(4, .int 3), (3, .ref q5), (0, .ref h0), (1, .int x0), (2, .int 7)]) hx hb dX16_word_74 hl (k := 0) rfl (by decide) (by decide) rfl (fun ls hl => ?_)
  refine lv_goto (tgt := 58) hx hb dX16_word_77 (by decide) ?_
  refine lv_iload hx hb dX16_word_58 (lv_at hl 0 rfl) ?_
  refine lv_iload_n hx hb dX16_word_60 rfl (lv_at hl 4 rfl) ?_
  refine lv_icmp_ge (tgt := 80) hx hb dX16_word_61 (by decide) (fun c14 => absurd c14 (by decide)) (fun c14 => ?_)
  refine lv_aload_n hx hb dX16_word_64 rfl (lv_at hl 1 rfl) ?_
  refine lv_bipush (v := 97) hx hb dX16_word_65 (by decide) ?_
  refine lv_iload_n hx hb dX16_word_67 rfl (lv_at hl 3 rfl) ?_
  refine lv_iadd hx hb dX16_word_68 ?_
  have r15 : (97 + x0).toInt = (97 : Int) + x0.toInt := fb_addI (show (-2147483648 : Int) ≤ (97 : Int) + x0.toInt by omega) (show (97 : Int) + x0.toInt < (2147483648 : Int) by omega)
  refine lv_i2c (v := (97 + x0)) hx hb dX16_word_69 (ns_i2c (show (0 : Int) ≤ (97 + x0).toInt by omega) (by omega)) ?_
  have hPc := hP.sub (ws' := [(q5, .inr (1, [.ref q6, .int 0, .int 0, .int 3])), (q6, .inl (cy7, 16, .inl (upd ((upd ((upd ((fun _ => 0)) 0 (vp_nar .byte (97 + x0).toInt8.toInt32))) 1 (vp_nar .byte (97 + x0).toInt8.toInt32))) 2 (vp_nar .byte (97 + x0).toInt8.toInt32))))]) [3, 2] rfl
  have hDc := hD.sub (ws' := [(q5, .inr (1, [.ref q6, .int 0, .int 0, .int 3])), (q6, .inl (cy7, 16, .inl (upd ((upd ((upd ((fun _ => 0)) 0 (vp_nar .byte (97 + x0).toInt8.toInt32))) 1 (vp_nar .byte (97 + x0).toInt8.toInt32))) 2 (vp_nar .byte (97 + x0).toInt8.toInt32))))]) [3, 2] (by decide) rfl
  have hKc := hK.sub (tys' := [(cy7, .byte)]) [0] rfl
  have hFc := va_free (wc := [(q5, .inr (1, [.ref q6, .int 0, .int 0, .int 3])), (q6, .inl (cy7, 16, .inl (upd ((upd ((upd ((fun _ => 0)) 0 (vp_nar .byte (97 + x0).toInt8.toInt32))) 1 (vp_nar .byte (97 + x0).toInt8.toInt32))) 2 (vp_nar .byte (97 + x0).toInt8.toInt32))))]) hD hS hA [3, 2] rfl
  refine va_callr (va_runV (As := [.int (97 + x0)]) (rest := []) ⟨hx, hb, hml, hown, hts⟩ (kJ4_append_cf468_4 l dC dI g H.size q5 (97 + x0) q6 (.int 0) cy7 (upd ((upd ((upd ((fun _ => 0)) 0 (vp_nar .byte (97 + x0).toInt8.toInt32))) 1 (vp_nar .byte (97 + x0).toInt8.toInt32))) 2 (vp_nar .byte (97 + x0).toInt8.toInt32)) (sb_fitU (sb_fitU (sb_fitU sb_fit0 (pk_fb _)) (pk_fb _)) (pk_fb _)) ⟨by omega, by omega⟩) (cwV 1 hts (ns_gp (List.forall_mem_cons.mpr ⟨wm397, (List.forall_mem_cons.mpr ⟨wm398, (List.forall_mem_cons.mpr ⟨wm399, (List.forall_mem_cons.mpr ⟨wm137, (fun _ h9 => nomatch h9)⟩)⟩)⟩)⟩) wm310) rfl rfl rfl (by decide +kernel) ⟨Nat.le_of_ble_eq_true rfl, Nat.le_of_ble_eq_true rfl⟩) ⟨fun a U gg mk q => by obtain ⟨q0, q1, qP, qK, qD, qF⟩ := q; exact ⟨q0, q1, qP, va_K.moved (u := U) (U := U.calling gg mk a) (Vm.Alike.refl U.vm) qK, qD, ns_same qF⟩, va_recv hK hP (ci := 1) (q0 := 3) rfl rfl, fun U hU hW => ⟨rfl, by rw [hU], by rw [hU]; exact hPc, va_K.moved hW.alike hKc, hDc.weaken (fun _ _ _ _ => trivial), ns_call hF hS hFc hU hW⟩⟩ rfl rfl hl.1 rfl (lv_room (Nat.le_of_ble_eq_true rfl)) dX16_word_70 ⟨Nat.le_of_ble_eq_true rfl, Nat.le_of_ble_eq_true rfl⟩) hS (fun q _ h => hFc q h) hFc (fun u r9 t H1 locs ht hvm hw hB hz1 hk1 hS => ?_)
  obtain ⟨hr9, hP1, hK1, hD1⟩ := hB
  obtain rfl := hr9.symm
  rw [ht] at hP1
  have hK1 := va_K.moved hvm.symm hK1
  obtain ⟨hP, hD⟩ := va_join (wr := [(h1, .inr (6, [.int 0, .ref (g 0), .int 0])), (h0, .inr (23, [.int 0, .ref h1, v1, v2, v3, v4, v5, v6, .int 0]))]) (w1 := [(q6, .inl (cy7, 16, .inl (upd ((upd ((upd ((upd ((fun _ => 0)) 0 (vp_nar .byte (97 + x0).toInt8.toInt32))) 1 (vp_nar .byte (97 + x0).toInt8.toInt32))) 2 (vp_nar .byte (97 + x0).toInt8.toInt32))) 3 (vp_nar .byte (97 + x0).toInt8.toInt32)))), (q5, .inr (1, [.ref q6, .int 0, .int 0, .int 4]))]) hP hD [3, 2] [0, 1] rfl rfl (by decide) (by decide) hk1 hFc hP1 hD1
  have hK := (hK.sub (tys' := []) [] rfl).app hK1
  generalize H1 = H at hP hS ⊢
  have hP : va_P (dC, dI) vwCl [(h1, .inr (6, [.int 0, .ref (g 0), .int 0])), (h0, .inr (23, [.int 0, .ref h1, v1, v2, v3, v4, v5, v6, .int 0])), (q6, .inl (cy7, 16, .inl (upd ((upd ((upd ((upd ((fun _ => 0)) 0 (vp_nar .byte (97 + x0).toInt8.toInt32))) 1 (vp_nar .byte (97 + x0).toInt8.toInt32))) 2 (vp_nar .byte (97 + x0).toInt8.toInt32))) 3 (vp_nar .byte (97 + x0).toInt8.toInt32)))), (q5, .inr (1, [.ref q6, .int 0, .int 0, .int 4]))] H := hP
  have hD : va_D A [(h1, .inr (6, [.int 0, .ref (g 0), .int 0])), (h0, .inr (23, [.int 0, .ref h1, v1, v2, v3, v4, v5, v6, .int 0])), (q6, .inl (cy7, 16, .inl (upd ((upd ((upd ((upd ((fun _ => 0)) 0 (vp_nar .byte (97 + x0).toInt8.toInt32))) 1 (vp_nar .byte (97 + x0).toInt8.toInt32))) 2 (vp_nar .byte (97 + x0).toInt8.toInt32))) 3 (vp_nar .byte (97 + x0).toInt8.toInt32)))), (q5, .inr (1, [.ref q6, .int 0, .int 0, .int 4]))] := hD
  have hK : va_K (dC, dI) vwCl [(cy7, .byte)] s := hK
  refine W.widen (k := 2) (n := 20) (Nat.le_of_ble_eq_true rfl) (Nat.le_of_ble_eq_true rfl) ?_
  refine lv_pop hx hb dX16_word_73 rfl ?_
  refine lv_iinc (v := 4) (lv' := [(4, .int 4), (3, .ref q5), (0, .ref h0), (1, .int x0), (2, .int 7)]) hx hb dX16_word_74 hl (k := 0) rfl (by decide) (by decide) rfl (fun ls hl => ?_)
  refine lv_goto (tgt := 58) hx hb dX16_word_77 (by decide) ?_
  refine lv_iload hx hb dX16_word_58 (lv_at hl 0 rfl) ?_
  refine lv_iload_n hx hb dX16_word_60 rfl (lv_at hl 4 rfl) ?_
  refine lv_icmp_ge (tgt := 80) hx hb dX16_word_61 (by decide) (fun c16 => absurd c16 (by decide)) (fun c16 => ?_)
  refine lv_aload_n hx hb dX16_word_64 rfl (lv_at hl 1 rfl) ?_
  refine lv_bipush (v := 97) hx hb dX16_word_65 (by decide) ?_
  refine lv_iload_n hx hb dX16_word_67 rfl (lv_at hl 3 rfl) ?_
  refine lv_iadd hx hb dX16_word_68 ?_
  have r17 : (97 + x0).toInt = (97 : Int) + x0.toInt := fb_addI (show (-2147483648 : Int) ≤ (97 : Int) + x0.toInt by omega) (show (97 : Int) + x0.toInt < (2147483648 : Int) by omega)
  refine lv_i2c (v := (97 + x0)) hx hb dX16_word_69 (ns_i2c (show (0 : Int) ≤ (97 + x0).toInt by omega) (by omega)) ?_
  have hPc := hP.sub (ws' := [(q5, .inr (1, [.ref q6, .int 0, .int 0, .int 4])), (q6, .inl (cy7, 16, .inl (upd ((upd ((upd ((upd ((fun _ => 0)) 0 (vp_nar .byte (97 + x0).toInt8.toInt32))) 1 (vp_nar .byte (97 + x0).toInt8.toInt32))) 2 (vp_nar .byte (97 + x0).toInt8.toInt32))) 3 (vp_nar .byte (97 + x0).toInt8.toInt32))))]) [3, 2] rfl
  have hDc := hD.sub (ws' := [(q5, .inr (1, [.ref q6, .int 0, .int 0, .int 4])), (q6, .inl (cy7, 16, .inl (upd ((upd ((upd ((upd ((fun _ => 0)) 0 (vp_nar .byte (97 + x0).toInt8.toInt32))) 1 (vp_nar .byte (97 + x0).toInt8.toInt32))) 2 (vp_nar .byte (97 + x0).toInt8.toInt32))) 3 (vp_nar .byte (97 + x0).toInt8.toInt32))))]) [3, 2] (by decide) rfl
  have hKc := hK.sub (tys' := [(cy7, .byte)]) [0] rfl
  have hFc := va_free (wc := [(q5, .inr (1, [.ref q6, .int 0, .int 0, .int 4])), (q6, .inl (cy7, 16, .inl (upd ((upd ((upd ((upd ((fun _ => 0)) 0 (vp_nar .byte (97 + x0).toInt8.toInt32))) 1 (vp_nar .byte (97 + x0).toInt8.toInt32))) 2 (vp_nar .byte (97 + x0).toInt8.toInt32))) 3 (vp_nar .byte (97 + x0).toInt8.toInt32))))]) hD hS hA [3, 2] rfl
  refine va_callr (va_runV (As := [.int (97 + x0)]) (rest := []) ⟨hx, hb, hml, hown, hts⟩ (kJ4_append_cf468_5 l dC dI g H.size q5 (97 + x0) q6 (.int 0) cy7 (upd ((upd ((upd ((upd ((fun _ => 0)) 0 (vp_nar .byte (97 + x0).toInt8.toInt32))) 1 (vp_nar .byte (97 + x0).toInt8.toInt32))) 2 (vp_nar .byte (97 + x0).toInt8.toInt32))) 3 (vp_nar .byte (97 + x0).toInt8.toInt32)) (sb_fitU (sb_fitU (sb_fitU (sb_fitU sb_fit0 (pk_fb _)) (pk_fb _)) (pk_fb _)) (pk_fb _)) ⟨by omega, by omega⟩) (cwV 1 hts (ns_gp (List.forall_mem_cons.mpr ⟨wm397, (List.forall_mem_cons.mpr ⟨wm398, (List.forall_mem_cons.mpr ⟨wm399, (List.forall_mem_cons.mpr ⟨wm137, (fun _ h9 => nomatch h9)⟩)⟩)⟩)⟩) wm310) rfl rfl rfl (by decide +kernel) ⟨Nat.le_of_ble_eq_true rfl, Nat.le_of_ble_eq_true rfl⟩) ⟨fun a U gg mk q => by obtain ⟨q0, q1, qP, qK, qD, qF⟩ := q; exact ⟨q0, q1, qP, va_K.moved (u := U) (U := U.calling gg mk a) (Vm.Alike.refl U.vm) qK, qD, ns_same qF⟩, va_recv hK hP (ci := 1) (q0 := 3) rfl rfl, fun U hU hW => ⟨rfl, by rw [hU], by rw [hU]; exact hPc, va_K.moved hW.alike hKc, hDc.weaken (fun _ _ _ _ => trivial), ns_call hF hS hFc hU hW⟩⟩ rfl rfl hl.1 rfl (lv_room (Nat.le_of_ble_eq_true rfl)) dX16_word_70 ⟨Nat.le_of_ble_eq_true rfl, Nat.le_of_ble_eq_true rfl⟩) hS (fun q _ h => hFc q h) hFc (fun u r9 t H1 locs ht hvm hw hB hz1 hk1 hS => ?_)
  obtain ⟨hr9, hP1, hK1, hD1⟩ := hB
  obtain rfl := hr9.symm
  rw [ht] at hP1
  have hK1 := va_K.moved hvm.symm hK1
  obtain ⟨hP, hD⟩ := va_join (wr := [(h1, .inr (6, [.int 0, .ref (g 0), .int 0])), (h0, .inr (23, [.int 0, .ref h1, v1, v2, v3, v4, v5, v6, .int 0]))]) (w1 := [(q6, .inl (cy7, 16, .inl (upd ((upd ((upd ((upd ((upd ((fun _ => 0)) 0 (vp_nar .byte (97 + x0).toInt8.toInt32))) 1 (vp_nar .byte (97 + x0).toInt8.toInt32))) 2 (vp_nar .byte (97 + x0).toInt8.toInt32))) 3 (vp_nar .byte (97 + x0).toInt8.toInt32))) 4 (vp_nar .byte (97 + x0).toInt8.toInt32)))), (q5, .inr (1, [.ref q6, .int 0, .int 0, .int 5]))]) hP hD [3, 2] [0, 1] rfl rfl (by decide) (by decide) hk1 hFc hP1 hD1
  have hK := (hK.sub (tys' := []) [] rfl).app hK1
  generalize H1 = H at hP hS ⊢
  have hP : va_P (dC, dI) vwCl [(h1, .inr (6, [.int 0, .ref (g 0), .int 0])), (h0, .inr (23, [.int 0, .ref h1, v1, v2, v3, v4, v5, v6, .int 0])), (q6, .inl (cy7, 16, .inl (upd ((upd ((upd ((upd ((upd ((fun _ => 0)) 0 (vp_nar .byte (97 + x0).toInt8.toInt32))) 1 (vp_nar .byte (97 + x0).toInt8.toInt32))) 2 (vp_nar .byte (97 + x0).toInt8.toInt32))) 3 (vp_nar .byte (97 + x0).toInt8.toInt32))) 4 (vp_nar .byte (97 + x0).toInt8.toInt32)))), (q5, .inr (1, [.ref q6, .int 0, .int 0, .int 5]))] H := hP
  have hD : va_D A [(h1, .inr (6, [.int 0, .ref (g 0), .int 0])), (h0, .inr (23, [.int 0, .ref h1, v1, v2, v3, v4, v5, v6, .int 0])), (q6, .inl (cy7, 16, .inl (upd ((upd ((upd ((upd ((upd ((fun _ => 0)) 0 (vp_nar .byte (97 + x0).toInt8.toInt32))) 1 (vp_nar .byte (97 + x0).toInt8.toInt32))) 2 (vp_nar .byte (97 + x0).toInt8.toInt32))) 3 (vp_nar .byte (97 + x0).toInt8.toInt32))) 4 (vp_nar .byte (97 + x0).toInt8.toInt32)))), (q5, .inr (1, [.ref q6, .int 0, .int 0, .int 5]))] := hD
  have hK : va_K (dC, dI) vwCl [(cy7, .byte)] s := hK
  refine W.widen (k := 2) (n := 20) (Nat.le_of_ble_eq_true rfl) (Nat.le_of_ble_eq_true rfl) ?_
  refine lv_pop hx hb dX16_word_73 rfl ?_
  refine lv_iinc (v := 5) (lv' := [(4, .int 5), (3, .ref q5), (0, .ref h0), (1, .int x0), (2, .int 7)]) hx hb dX16_word_74 hl (k := 0) rfl (by decide) (by decide) rfl (fun ls hl => ?_)
  refine lv_goto (tgt := 58) hx hb dX16_word_77 (by decide) ?_
  refine lv_iload hx hb dX16_word_58 (lv_at hl 0 rfl) ?_
  refine lv_iload_n hx hb dX16_word_60 rfl (lv_at hl 4 rfl) ?_
  refine lv_icmp_ge (tgt := 80) hx hb dX16_word_61 (by decide) (fun c18 => absurd c18 (by decide)) (fun c18 => ?_)
  refine lv_aload_n hx hb dX16_word_64 rfl (lv_at hl 1 rfl) ?_
  refine lv_bipush (v := 97) hx hb dX16_word_65 (by decide) ?_
  refine lv_iload_n hx hb dX16_word_67 rfl (lv_at hl 3 rfl) ?_
  refine lv_iadd hx hb dX16_word_68 ?_
  have r19 : (97 + x0).toInt = (97 : Int) + x0.toInt := fb_addI (show (-2147483648 : Int) ≤ (97 : Int) + x0.toInt by omega) (show (97 : Int) + x0.toInt < (2147483648 : Int) by omega)
  refine lv_i2c (v := (97 + x0)) hx hb dX16_word_69 (ns_i2c (show (0 : Int) ≤ (97 + x0).toInt by omega) (by omega)) ?_
  have hPc := hP.sub (ws' := [(q5, .inr (1, [.ref q6, .int 0, .int 0, .int 5])), (q6, .inl (cy7, 16, .inl (upd ((upd ((upd ((upd ((upd ((fun _ => 0)) 0 (vp_nar .byte (97 + x0).toInt8.toInt32))) 1 (vp_nar .byte (97 + x0).toInt8.toInt32))) 2 (vp_nar .byte (97 + x0).toInt8.toInt32))) 3 (vp_nar .byte (97 + x0).toInt8.toInt32))) 4 (vp_nar .byte (97 + x0).toInt8.toInt32))))]) [3, 2] rfl
  have hDc := hD.sub (ws' := [(q5, .inr (1, [.ref q6, .int 0, .int 0, .int 5])), (q6, .inl (cy7, 16, .inl (upd ((upd ((upd ((upd ((upd ((fun _ => 0)) 0 (vp_nar .byte (97 + x0).toInt8.toInt32))) 1 (vp_nar .byte (97 + x0).toInt8.toInt32))) 2 (vp_nar .byte (97 + x0).toInt8.toInt32))) 3 (vp_nar .byte (97 + x0).toInt8.toInt32))) 4 (vp_nar .byte (97 + x0).toInt8.toInt32))))]) [3, 2] (by decide) rfl
  have hKc := hK.sub (tys' := [(cy7, .byte)]) [0] rfl
  have hFc := va_free (wc := [(q5, .inr (1, [.ref q6, .int 0, .int 0, .int 5])), (q6, .inl (cy7, 16, .inl (upd ((upd ((upd ((upd ((upd ((fun _ => 0)) 0 (vp_nar .byte (97 + x0).toInt8.toInt32))) 1 (vp_nar .byte (97 + x0).toInt8.toInt32))) 2 (vp_nar .byte (97 + x0).toInt8.toInt32))) 3 (vp_nar .byte (97 + x0).toInt8.toInt32))) 4 (vp_nar .byte (97 + x0).toInt8.toInt32))))]) hD hS hA [3, 2] rfl
  refine va_callr (va_runV (As := [.int (97 + x0)]) (rest := []) ⟨hx, hb, hml, hown, hts⟩ (kJ4_append_cf468_6 l dC dI g H.size q5 (97 + x0) q6 (.int 0) cy7 (upd ((upd ((upd ((upd ((upd ((fun _ => 0)) 0 (vp_nar .byte (97 + x0).toInt8.toInt32))) 1 (vp_nar .byte (97 + x0).toInt8.toInt32))) 2 (vp_nar .byte (97 + x0).toInt8.toInt32))) 3 (vp_nar .byte (97 + x0).toInt8.toInt32))) 4 (vp_nar .byte (97 + x0).toInt8.toInt32)) (sb_fitU (sb_fitU (sb_fitU (sb_fitU (sb_fitU sb_fit0 (pk_fb _)) (pk_fb _)) (pk_fb _)) (pk_fb _)) (pk_fb _)) ⟨by omega, by omega⟩) (cwV 1 hts (ns_gp (List.forall_mem_cons.mpr ⟨wm397, (List.forall_mem_cons.mpr ⟨wm398, (List.forall_mem_cons.mpr ⟨wm399, (List.forall_mem_cons.mpr ⟨wm137, (fun _ h9 => nomatch h9)⟩)⟩)⟩)⟩) wm310) rfl rfl rfl (by decide +kernel) ⟨Nat.le_of_ble_eq_true rfl, Nat.le_of_ble_eq_true rfl⟩) ⟨fun a U gg mk q => by obtain ⟨q0, q1, qP, qK, qD, qF⟩ := q; exact ⟨q0, q1, qP, va_K.moved (u := U) (U := U.calling gg mk a) (Vm.Alike.refl U.vm) qK, qD, ns_same qF⟩, va_recv hK hP (ci := 1) (q0 := 3) rfl rfl, fun U hU hW => ⟨rfl, by rw [hU], by rw [hU]; exact hPc, va_K.moved hW.alike hKc, hDc.weaken (fun _ _ _ _ => trivial), ns_call hF hS hFc hU hW⟩⟩ rfl rfl hl.1 rfl (lv_room (Nat.le_of_ble_eq_true rfl)) dX16_word_70 ⟨Nat.le_of_ble_eq_true rfl, Nat.le_of_ble_eq_true rfl⟩) hS (fun q _ h => hFc q h) hFc (fun u r9 t H1 locs ht hvm hw hB hz1 hk1 hS => ?_)
  obtain ⟨hr9, hP1, hK1, hD1⟩ := hB
  obtain rfl := hr9.symm
  rw [ht] at hP1
  have hK1 := va_K.moved hvm.symm hK1
  obtain ⟨hP, hD⟩ := va_join (wr := [(h1, .inr (6, [.int 0, .ref (g 0), .int 0])), (h0, .inr (23, [.int 0, .ref h1, v1, v2, v3, v4, v5, v6, .int 0]))]) (w1 := [(q6, .inl (cy7, 16, .inl (upd ((upd ((upd ((upd ((upd ((upd ((fun _ => 0)) 0 (vp_nar .byte (97 + x0).toInt8.toInt32))) 1 (vp_nar .byte (97 + x0).toInt8.toInt32))) 2 (vp_nar .byte (97 + x0).toInt8.toInt32))) 3 (vp_nar .byte (97 + x0).toInt8.toInt32))) 4 (vp_nar .byte (97 + x0).toInt8.toInt32))) 5 (vp_nar .byte (97 + x0).toInt8.toInt32)))), (q5, .inr (1, [.ref q6, .int 0, .int 0, .int 6]))]) hP hD [3, 2] [0, 1] rfl rfl (by decide) (by decide) hk1 hFc hP1 hD1
  have hK := (hK.sub (tys' := []) [] rfl).app hK1
  generalize H1 = H at hP hS ⊢
  have hP : va_P (dC, dI) vwCl [(h1, .inr (6, [.int 0, .ref (g 0), .int 0])), (h0, .inr (23, [.int 0, .ref h1, v1, v2, v3, v4, v5, v6, .int 0])), (q6, .inl (cy7, 16, .inl (upd ((upd ((upd ((upd ((upd ((upd ((fun _ => 0)) 0 (vp_nar .byte (97 + x0).toInt8.toInt32))) 1 (vp_nar .byte (97 + x0).toInt8.toInt32))) 2 (vp_nar .byte (97 + x0).toInt8.toInt32))) 3 (vp_nar .byte (97 + x0).toInt8.toInt32))) 4 (vp_nar .byte (97 + x0).toInt8.toInt32))) 5 (vp_nar .byte (97 + x0).toInt8.toInt32)))), (q5, .inr (1, [.ref q6, .int 0, .int 0, .int 6]))] H := hP
  have hD : va_D A [(h1, .inr (6, [.int 0, .ref (g 0), .int 0])), (h0, .inr (23, [.int 0, .ref h1, v1, v2, v3, v4, v5, v6, .int 0])), (q6, .inl (cy7, 16, .inl (upd ((upd ((upd ((upd ((upd ((upd ((fun _ => 0)) 0 (vp_nar .byte (97 + x0).toInt8.toInt32))) 1 (vp_nar .byte (97 + x0).toInt8.toInt32))) 2 (vp_nar .byte (97 + x0).toInt8.toInt32))) 3 (vp_nar .byte (97 + x0).toInt8.toInt32))) 4 (vp_nar .byte (97 + x0).toInt8.toInt32))) 5 (vp_nar .byte (97 + x0).toInt8.toInt32)))), (q5, .inr (1, [.ref q6, .int 0, .int 0, .int 6]))] := hD
  have hK : va_K (dC, dI) vwCl [(cy7, .byte)] s := hK
  refine W.widen (k := 2) (n := 20) (Nat.le_of_ble_eq_true rfl) (Nat.le_of_ble_eq_true rfl) ?_
  refine lv_pop hx hb dX16_word_73 rfl ?_
  refine lv_iinc (v := 6) (lv' := [(4, .int 6), (3, .ref q5), (0, .ref h0), (1, .int x0), (2, .int 7)]) hx hb dX16_word_74 hl (k := 0) rfl (by decide) (by decide) rfl (fun ls hl => ?_)
  refine lv_goto (tgt := 58) hx hb dX16_word_77 (by decide) ?_
  refine lv_iload hx hb dX16_word_58 (lv_at hl 0 rfl) ?_
  refine lv_iload_n hx hb dX16_word_60 rfl (lv_at hl 4 rfl) ?_
  refine lv_icmp_ge (tgt := 80) hx hb dX16_word_61 (by decide) (fun c20 => absurd c20 (by decide)) (fun c20 => ?_)
  refine lv_aload_n hx hb dX16_word_64 rfl (lv_at hl 1 rfl) ?_
  refine lv_bipush (v := 97) hx hb dX16_word_65 (by decide) ?_
  refine lv_iload_n hx hb dX16_word_67 rfl (lv_at hl 3 rfl) ?_
  refine lv_iadd hx hb dX16_word_68 ?_
  have r21 : (97 + x0).toInt = (97 : Int) + x0.toInt := fb_addI (show (-2147483648 : Int) ≤ (97 : Int) + x0.toInt by omega) (show (97 : Int) + x0.toInt < (2147483648 : Int) by omega)
  refine lv_i2c (v := (97 + x0)) hx hb dX16_word_69 (ns_i2c (show (0 : Int) ≤ (97 + x0).toInt by omega) (by omega)) ?_
  have hPc := hP.sub (ws' := [(q5, .inr (1, [.ref q6, .int 0, .int 0, .int 6])), (q6, .inl (cy7, 16, .inl (upd ((upd ((upd ((upd ((upd ((upd ((fun _ => 0)) 0 (vp_nar .byte (97 + x0).toInt8.toInt32))) 1 (vp_nar .byte (97 + x0).toInt8.toInt32))) 2 (vp_nar .byte (97 + x0).toInt8.toInt32))) 3 (vp_nar .byte (97 + x0).toInt8.toInt32))) 4 (vp_nar .byte (97 + x0).toInt8.toInt32))) 5 (vp_nar .byte (97 + x0).toInt8.toInt32))))]) [3, 2] rfl
  have hDc := hD.sub (ws' := [(q5, .inr (1, [.ref q6, .int 0, .int 0, .int 6])), (q6, .inl (cy7, 16, .inl (upd ((upd ((upd ((upd ((upd ((upd ((fun _ => 0)) 0 (vp_nar .byte (97 + x0).toInt8.toInt32))) 1 (vp_nar .byte (97 + x0).toInt8.toInt32))) 2 (vp_nar .byte (97 + x0).toInt8.toInt32))) 3 (vp_nar .byte (97 + x0).toInt8.toInt32))) 4 (vp_nar .byte (97 + x0).toInt8.toInt32))) 5 (vp_nar .byte (97 + x0).toInt8.toInt32))))]) [3, 2] (by decide) rfl
  have hKc := hK.sub (tys' := [(cy7, .byte)]) [0] rfl
  have hFc := va_free (wc := [(q5, .inr (1, [.ref q6, .int 0, .int 0, .int 6])), (q6, .inl (cy7, 16, .inl (upd ((upd ((upd ((upd ((upd ((upd ((fun _ => 0)) 0 (vp_nar .byte (97 + x0).toInt8.toInt32))) 1 (vp_nar .byte (97 + x0).toInt8.toInt32))) 2 (vp_nar .byte (97 + x0).toInt8.toInt32))) 3 (vp_nar .byte (97 + x0).toInt8.toInt32))) 4 (vp_nar .byte (97 + x0).toInt8.toInt32))) 5 (vp_nar .byte (97 + x0).toInt8.toInt32))))]) hD hS hA [3, 2] rfl
  refine va_callr (va_runV (As := [.int (97 + x0)]) (rest := []) ⟨hx, hb, hml, hown, hts⟩ (kJ4_append_cf468_7 l dC dI g H.size q5 (97 + x0) q6 (.int 0) cy7 (upd ((upd ((upd ((upd ((upd ((upd ((fun _ => 0)) 0 (vp_nar .byte (97 + x0).toInt8.toInt32))) 1 (vp_nar .byte (97 + x0).toInt8.toInt32))) 2 (vp_nar .byte (97 + x0).toInt8.toInt32))) 3 (vp_nar .byte (97 + x0).toInt8.toInt32))) 4 (vp_nar .byte (97 + x0).toInt8.toInt32))) 5 (vp_nar .byte (97 + x0).toInt8.toInt32)) (sb_fitU (sb_fitU (sb_fitU (sb_fitU (sb_fitU (sb_fitU sb_fit0 (pk_fb _)) (pk_fb _)) (pk_fb _)) (pk_fb _)) (pk_fb _)) (pk_fb _)) ⟨by omega, by omega⟩) (cwV 1 hts (ns_gp (List.forall_mem_cons.mpr ⟨wm397, (List.forall_mem_cons.mpr ⟨wm398, (List.forall_mem_cons.mpr ⟨wm399, (List.forall_mem_cons.mpr ⟨wm137, (fun _ h9 => nomatch h9)⟩)⟩)⟩)⟩) wm310) rfl rfl rfl (by decide +kernel) ⟨Nat.le_of_ble_eq_true rfl, Nat.le_of_ble_eq_true rfl⟩) ⟨fun a U gg mk q => by obtain ⟨q0, q1, qP, qK, qD, qF⟩ := q; exact ⟨q0, q1, qP, va_K.moved (u := U) (U := U.calling gg mk a) (Vm.Alike.refl U.vm) qK, qD, ns_same qF⟩, va_recv hK hP (ci := 1) (q0 := 3) rfl rfl, fun U hU hW => ⟨rfl, by rw [hU], by rw [hU]; exact hPc, va_K.moved hW.alike hKc, hDc.weaken (fun _ _ _ _ => trivial), ns_call hF hS hFc hU hW⟩⟩ rfl rfl hl.1 rfl (lv_room (Nat.le_of_ble_eq_true rfl)) dX16_word_70 ⟨Nat.le_of_ble_eq_true rfl, Nat.le_of_ble_eq_true rfl⟩) hS (fun q _ h => hFc q h) hFc (fun u r9 t H1 locs ht hvm hw hB hz1 hk1 hS => ?_)
  obtain ⟨hr9, hP1, hK1, hD1⟩ := hB
  obtain rfl := hr9.symm
  rw [ht] at hP1
  have hK1 := va_K.moved hvm.symm hK1
  obtain ⟨hP, hD⟩ := va_join (wr := [(h1, .inr (6, [.int 0, .ref (g 0), .int 0])), (h0, .inr (23, [.int 0, .ref h1, v1, v2, v3, v4, v5, v6, .int 0]))]) (w1 := [(q6, .inl (cy7, 16, .inl (upd ((upd ((upd ((upd ((upd ((upd ((upd ((fun _ => 0)) 0 (vp_nar .byte (97 + x0).toInt8.toInt32))) 1 (vp_nar .byte (97 + x0).toInt8.toInt32))) 2 (vp_nar .byte (97 + x0).toInt8.toInt32))) 3 (vp_nar .byte (97 + x0).toInt8.toInt32))) 4 (vp_nar .byte (97 + x0).toInt8.toInt32))) 5 (vp_nar .byte (97 + x0).toInt8.toInt32))) 6 (vp_nar .byte (97 + x0).toInt8.toInt32)))), (q5, .inr (1, [.ref q6, .int 0, .int 0, .int 7]))]) hP hD [3, 2] [0, 1] rfl rfl (by decide) (by decide) hk1 hFc hP1 hD1
  have hK := (hK.sub (tys' := []) [] rfl).app hK1
  generalize H1 = H at hP hS ⊢
  have hP : va_P (dC, dI) vwCl [(h1, .inr (6, [.int 0, .ref (g 0), .int 0])), (h0, .inr (23, [.int 0, .ref h1, v1, v2, v3, v4, v5, v6, .int 0])), (q6, .inl (cy7, 16, .inl (upd ((upd ((upd ((upd ((upd ((upd ((upd ((fun _ => 0)) 0 (vp_nar .byte (97 + x0).toInt8.toInt32))) 1 (vp_nar .byte (97 + x0).toInt8.toInt32))) 2 (vp_nar .byte (97 + x0).toInt8.toInt32))) 3 (vp_nar .byte (97 + x0).toInt8.toInt32))) 4 (vp_nar .byte (97 + x0).toInt8.toInt32))) 5 (vp_nar .byte (97 + x0).toInt8.toInt32))) 6 (vp_nar .byte (97 + x0).toInt8.toInt32)))), (q5, .inr (1, [.ref q6, .int 0, .int 0, .int 7]))] H := hP
  have hD : va_D A [(h1, .inr (6, [.int 0, .ref (g 0), .int 0])), (h0, .inr (23, [.int 0, .ref h1, v1, v2, v3, v4, v5, v6, .int 0])), (q6, .inl (cy7, 16, .inl (upd ((upd ((upd ((upd ((upd ((upd ((upd ((fun _ => 0)) 0 (vp_nar .byte (97 + x0).toInt8.toInt32))) 1 (vp_nar .byte (97 + x0).toInt8.toInt32))) 2 (vp_nar .byte (97 + x0).toInt8.toInt32))) 3 (vp_nar .byte (97 + x0).toInt8.toInt32))) 4 (vp_nar .byte (97 + x0).toInt8.toInt32))) 5 (vp_nar .byte (97 + x0).toInt8.toInt32))) 6 (vp_nar .byte (97 + x0).toInt8.toInt32)))), (q5, .inr (1, [.ref q6, .int 0, .int 0, .int 7]))] := hD
  have hK : va_K (dC, dI) vwCl [(cy7, .byte)] s := hK
  refine W.widen (k := 2) (n := 20) (Nat.le_of_ble_eq_true rfl) (Nat.le_of_ble_eq_true rfl) ?_
  refine lv_pop hx hb dX16_word_73 rfl ?_
  refine lv_iinc (v := 7) (lv' := [(4, .int 7), (3, .ref q5), (0, .ref h0), (1, .int x0), (2, .int 7)]) hx hb dX16_word_74 hl (k := 0) rfl (by decide) (by decide) rfl (fun ls hl => ?_)
  refine lv_goto (tgt := 58) hx hb dX16_word_77 (by decide) ?_
  refine lv_iload hx hb dX16_word_58 (lv_at hl 0 rfl) ?_
  refine lv_iload_n hx hb dX16_word_60 rfl (lv_at hl 4 rfl) ?_
  refine lv_icmp_ge (tgt := 80) hx hb dX16_word_61 (by decide) (fun c22 => ?_) (fun c22 => absurd (by decide) c22)
  refine lv_aload_n hx hb dX16_word_80 rfl (lv_at hl 2 rfl) ?_
  refine va_new (ci := 18) (fs := [.int 0, .null, .int 0, .null]) (C := RX11) (T := TX11) (N := 4) hx hb hta naX11 tyX11 tyX11_ok hown (hta _ wm311) (hta _ wm312) (hta _ wm313) hK hP hD hS hA rfl (fun j hj => by rcases (show j = 0 ∨ j = 1 ∨ j = 2 ∨ j = 3 by omega) with rfl | rfl | rfl | rfl <;> rfl) (Nat.le_of_ble_eq_true rfl) (Nat.le_of_ble_eq_true rfl) dX16_word_81 (fun q23 H hP hD hS => ?_)
  have hP : va_P (dC, dI) vwCl [(h1, .inr (6, [.int 0, .ref (g 0), .int 0])), (h0, .inr (23, [.int 0, .ref h1, v1, v2, v3, v4, v5, v6, .int 0])), (q6, .inl (cy7, 16, .inl (upd ((upd ((upd ((upd ((upd ((upd ((upd ((fun _ => 0)) 0 (vp_nar .byte (97 + x0).toInt8.toInt32))) 1 (vp_nar .byte (97 + x0).toInt8.toInt32))) 2 (vp_nar .byte (97 + x0).toInt8.toInt32))) 3 (vp_nar .byte (97 + x0).toInt8.toInt32))) 4 (vp_nar .byte (97 + x0).toInt8.toInt32))) 5 (vp_nar .byte (97 + x0).toInt8.toInt32))) 6 (vp_nar .byte (97 + x0).toInt8.toInt32)))), (q5, .inr (1, [.ref q6, .int 0, .int 0, .int 7])), (q23, .inr (18, [.int 0, .null, .int 0, .null]))] H := hP
  have hD : va_D A [(h1, .inr (6, [.int 0, .ref (g 0), .int 0])), (h0, .inr (23, [.int 0, .ref h1, v1, v2, v3, v4, v5, v6, .int 0])), (q6, .inl (cy7, 16, .inl (upd ((upd ((upd ((upd ((upd ((upd ((upd ((fun _ => 0)) 0 (vp_nar .byte (97 + x0).toInt8.toInt32))) 1 (vp_nar .byte (97 + x0).toInt8.toInt32))) 2 (vp_nar .byte (97 + x0).toInt8.toInt32))) 3 (vp_nar .byte (97 + x0).toInt8.toInt32))) 4 (vp_nar .byte (97 + x0).toInt8.toInt32))) 5 (vp_nar .byte (97 + x0).toInt8.toInt32))) 6 (vp_nar .byte (97 + x0).toInt8.toInt32)))), (q5, .inr (1, [.ref q6, .int 0, .int 0, .int 7])), (q23, .inr (18, [.int 0, .null, .int 0, .null]))] := hD
  refine W.widen (k := 3) (n := 24) (Nat.le_of_ble_eq_true rfl) (Nat.le_of_ble_eq_true rfl) ?_
  refine lv_dup hx hb dX16_word_84 rfl ?_
  refine lv_iconst (v := 0) hx hb dX16_word_85 (by decide) ?_
  refine lv_aload_n hx hb dX16_word_86 rfl (lv_at hl 1 rfl) ?_
  have hPc := hP.sub (ws' := [(q5, .inr (1, [.ref q6, .int 0, .int 0, .int 7])), (q6, .inl (cy7, 16, .inl (upd ((upd ((upd ((upd ((upd ((upd ((upd ((fun _ => 0)) 0 (vp_nar .byte (97 + x0).toInt8.toInt32))) 1 (vp_nar .byte (97 + x0).toInt8.toInt32))) 2 (vp_nar .byte (97 + x0).toInt8.toInt32))) 3 (vp_nar .byte (97 + x0).toInt8.toInt32))) 4 (vp_nar .byte (97 + x0).toInt8.toInt32))) 5 (vp_nar .byte (97 + x0).toInt8.toInt32))) 6 (vp_nar .byte (97 + x0).toInt8.toInt32))))]) [3, 2] rfl
  have hDc := hD.sub (ws' := [(q5, .inr (1, [.ref q6, .int 0, .int 0, .int 7])), (q6, .inl (cy7, 16, .inl (upd ((upd ((upd ((upd ((upd ((upd ((upd ((fun _ => 0)) 0 (vp_nar .byte (97 + x0).toInt8.toInt32))) 1 (vp_nar .byte (97 + x0).toInt8.toInt32))) 2 (vp_nar .byte (97 + x0).toInt8.toInt32))) 3 (vp_nar .byte (97 + x0).toInt8.toInt32))) 4 (vp_nar .byte (97 + x0).toInt8.toInt32))) 5 (vp_nar .byte (97 + x0).toInt8.toInt32))) 6 (vp_nar .byte (97 + x0).toInt8.toInt32))))]) [3, 2] (by decide) rfl
  have hKc := hK.sub (tys' := [(cy7, .byte)]) [0] rfl
  have hFc := va_free (wc := [(q5, .inr (1, [.ref q6, .int 0, .int 0, .int 7])), (q6, .inl (cy7, 16, .inl (upd ((upd ((upd ((upd ((upd ((upd ((upd ((fun _ => 0)) 0 (vp_nar .byte (97 + x0).toInt8.toInt32))) 1 (vp_nar .byte (97 + x0).toInt8.toInt32))) 2 (vp_nar .byte (97 + x0).toInt8.toInt32))) 3 (vp_nar .byte (97 + x0).toInt8.toInt32))) 4 (vp_nar .byte (97 + x0).toInt8.toInt32))) 5 (vp_nar .byte (97 + x0).toInt8.toInt32))) 6 (vp_nar .byte (97 + x0).toInt8.toInt32))))]) hD hS hA [3, 2] rfl
  refine va_callr (va_runV (As := []) (rest := [.int 0, .ref q23, .ref q23, .ref h0]) ⟨hx, hb, hml, hown, hts⟩ (kJ4_toString_0e30d_7 l dC dI g H.size q5 q6 (.int 0) cy7 (upd ((upd ((upd ((upd ((upd ((upd ((upd ((fun _ => 0)) 0 (vp_nar .byte (97 + x0).toInt8.toInt32))) 1 (vp_nar .byte (97 + x0).toInt8.toInt32))) 2 (vp_nar .byte (97 + x0).toInt8.toInt32))) 3 (vp_nar .byte (97 + x0).toInt8.toInt32))) 4 (vp_nar .byte (97 + x0).toInt8.toInt32))) 5 (vp_nar .byte (97 + x0).toInt8.toInt32))) 6 (vp_nar .byte (97 + x0).toInt8.toInt32)) (sb_fitU (sb_fitU (sb_fitU (sb_fitU (sb_fitU (sb_fitU (sb_fitU sb_fit0 (pk_fb _)) (pk_fb _)) (pk_fb _)) (pk_fb _)) (pk_fb _)) (pk_fb _)) (pk_fb _)) ) (cwV 0 hts (ns_gp (List.forall_mem_cons.mpr ⟨wm400, (List.forall_mem_cons.mpr ⟨wm401, (List.forall_mem_cons.mpr ⟨wm402, (List.forall_mem_cons.mpr ⟨wm137, (fun _ h9 => nomatch h9)⟩)⟩)⟩)⟩) wm360) rfl rfl rfl (by decide +kernel) ⟨Nat.le_of_ble_eq_true rfl, Nat.le_of_ble_eq_true rfl⟩) ⟨fun a U gg mk q => by obtain ⟨q0, q1, qP, qK, qD, qF⟩ := q; exact ⟨q0, q1, qP, va_K.moved (u := U) (U := U.calling gg mk a) (Vm.Alike.refl U.vm) qK, qD, ns_same qF⟩, va_recv hK hP (ci := 1) (q0 := 3) rfl rfl, fun U hU hW => ⟨rfl, by rw [hU], by rw [hU]; exact hPc, va_K.moved hW.alike hKc, hDc.weaken (fun _ _ _ _ => trivial), ns_call hF hS hFc hU hW⟩⟩ rfl rfl hl.1 rfl (lv_room (Nat.le_of_ble_eq_true rfl)) dX16_word_87 ⟨Nat.le_of_ble_eq_true rfl, Nat.le_of_ble_eq_true rfl⟩) hS (fun q _ h => hFc q h) hFc (fun u r9 t H1 locs ht hvm hw hB hz1 hk1 hS => ?_)
  obtain ⟨q24, q25, cy26, hr9, hP1, hK1, hD1⟩ := hB
  obtain rfl := hr9.symm
  rw [ht] at hP1
  have hK1 := va_K.moved hvm.symm hK1
  obtain ⟨hP, hD⟩ := va_join (wr := [(h1, .inr (6, [.int 0, .ref (g 0), .int 0])), (h0, .inr (23, [.int 0, .ref h1, v1, v2, v3, v4, v5, v6, .int 0])), (q23, .inr (18, [.int 0, .null, .int 0, .null]))]) (w1 := [(q24, .inr (0, [.ref q25, .int 0, .int 0, .int 0])), (q5, .inr (1, [.ref q6, .int 0, .int 0, .int 7])), (q6, .inl (cy7, 16, .inl (upd ((upd ((upd ((upd ((upd ((upd ((upd ((fun _ => 0)) 0 (vp_nar .byte (97 + x0).toInt8.toInt32))) 1 (vp_nar .byte (97 + x0).toInt8.toInt32))) 2 (vp_nar .byte (97 + x0).toInt8.toInt32))) 3 (vp_nar .byte (97 + x0).toInt8.toInt32))) 4 (vp_nar .byte (97 + x0).toInt8.toInt32))) 5 (vp_nar .byte (97 + x0).toInt8.toInt32))) 6 (vp_nar .byte (97 + x0).toInt8.toInt32)))), (q25, .inl (cy26, 7, .inl (va_cpy ((upd ((upd ((upd ((upd ((upd ((upd ((upd ((fun _ => 0)) 0 (vp_nar .byte (97 + x0).toInt8.toInt32))) 1 (vp_nar .byte (97 + x0).toInt8.toInt32))) 2 (vp_nar .byte (97 + x0).toInt8.toInt32))) 3 (vp_nar .byte (97 + x0).toInt8.toInt32))) 4 (vp_nar .byte (97 + x0).toInt8.toInt32))) 5 (vp_nar .byte (97 + x0).toInt8.toInt32))) 6 (vp_nar .byte (97 + x0).toInt8.toInt32))) (fun _ => 0) 0 0 7)))]) hP hD [3, 2] [0, 1, 4] rfl rfl (by decide) (by decide) hk1 hFc hP1 hD1
  have hK := (hK.sub (tys' := []) [] rfl).app hK1
  generalize H1 = H at hP hS ⊢
  have hP : va_P (dC, dI) vwCl [(h1, .inr (6, [.int 0, .ref (g 0), .int 0])), (h0, .inr (23, [.int 0, .ref h1, v1, v2, v3, v4, v5, v6, .int 0])), (q23, .inr (18, [.int 0, .null, .int 0, .null])), (q24, .inr (0, [.ref q25, .int 0, .int 0, .int 0])), (q5, .inr (1, [.ref q6, .int 0, .int 0, .int 7])), (q6, .inl (cy7, 16, .inl (upd ((upd ((upd ((upd ((upd ((upd ((upd ((fun _ => 0)) 0 (vp_nar .byte (97 + x0).toInt8.toInt32))) 1 (vp_nar .byte (97 + x0).toInt8.toInt32))) 2 (vp_nar .byte (97 + x0).toInt8.toInt32))) 3 (vp_nar .byte (97 + x0).toInt8.toInt32))) 4 (vp_nar .byte (97 + x0).toInt8.toInt32))) 5 (vp_nar .byte (97 + x0).toInt8.toInt32))) 6 (vp_nar .byte (97 + x0).toInt8.toInt32)))), (q25, .inl (cy26, 7, .inl (va_cpy ((upd ((upd ((upd ((upd ((upd ((upd ((upd ((fun _ => 0)) 0 (vp_nar .byte (97 + x0).toInt8.toInt32))) 1 (vp_nar .byte (97 + x0).toInt8.toInt32))) 2 (vp_nar .byte (97 + x0).toInt8.toInt32))) 3 (vp_nar .byte (97 + x0).toInt8.toInt32))) 4 (vp_nar .byte (97 + x0).toInt8.toInt32))) 5 (vp_nar .byte (97 + x0).toInt8.toInt32))) 6 (vp_nar .byte (97 + x0).toInt8.toInt32))) (fun _ => 0) 0 0 7)))] H := hP
  have hD : va_D A [(h1, .inr (6, [.int 0, .ref (g 0), .int 0])), (h0, .inr (23, [.int 0, .ref h1, v1, v2, v3, v4, v5, v6, .int 0])), (q23, .inr (18, [.int 0, .null, .int 0, .null])), (q24, .inr (0, [.ref q25, .int 0, .int 0, .int 0])), (q5, .inr (1, [.ref q6, .int 0, .int 0, .int 7])), (q6, .inl (cy7, 16, .inl (upd ((upd ((upd ((upd ((upd ((upd ((upd ((fun _ => 0)) 0 (vp_nar .byte (97 + x0).toInt8.toInt32))) 1 (vp_nar .byte (97 + x0).toInt8.toInt32))) 2 (vp_nar .byte (97 + x0).toInt8.toInt32))) 3 (vp_nar .byte (97 + x0).toInt8.toInt32))) 4 (vp_nar .byte (97 + x0).toInt8.toInt32))) 5 (vp_nar .byte (97 + x0).toInt8.toInt32))) 6 (vp_nar .byte (97 + x0).toInt8.toInt32)))), (q25, .inl (cy26, 7, .inl (va_cpy ((upd ((upd ((upd ((upd ((upd ((upd ((upd ((fun _ => 0)) 0 (vp_nar .byte (97 + x0).toInt8.toInt32))) 1 (vp_nar .byte (97 + x0).toInt8.toInt32))) 2 (vp_nar .byte (97 + x0).toInt8.toInt32))) 3 (vp_nar .byte (97 + x0).toInt8.toInt32))) 4 (vp_nar .byte (97 + x0).toInt8.toInt32))) 5 (vp_nar .byte (97 + x0).toInt8.toInt32))) 6 (vp_nar .byte (97 + x0).toInt8.toInt32))) (fun _ => 0) 0 0 7)))] := hD
  have hK : va_K (dC, dI) vwCl [(cy7, .byte), (cy26, .byte)] s := hK
  refine W.widen (k := 5) (n := 35) (Nat.le_of_ble_eq_true rfl) (Nat.le_of_ble_eq_true rfl) ?_
  refine lv_iconst (v := 0) hx hb dX16_word_90 (by decide) ?_
  have hPc := hP.sub (ws' := [(q23, .inr (18, [.int 0, .null, .int 0, .null]))]) [2] rfl
  have hDc := hD.sub (ws' := [(q23, .inr (18, [.int 0, .null, .int 0, .null]))]) [2] (by decide) rfl
  have hKc := hK.sub (tys' := []) [] rfl
  have hFc := va_free (wc := [(q23, .inr (18, [.int 0, .null, .int 0, .null]))]) hD hS hA [2] rfl
  refine va_callv (va_runI (As := [.int 0, .ref q24, .int 0]) (rest := [.ref q23, .ref h0]) ⟨hx, hb, hml, hown, hts⟩ (kX11_init l dC dI g H.size q23 q24 (.int 0) .null (.int 0) .null ) (cwI 3 hts (ns_g0 wm368) rfl rfl rfl (hta _ wm313) (hta _ wm403) (hta _ wm404) rfl (by decide +kernel) ⟨Nat.le_of_ble_eq_true rfl, Nat.le_of_ble_eq_true rfl⟩) ⟨fun a U gg mk q => by obtain ⟨q0, q1, qP, qK, qD, qF⟩ := q; exact ⟨q0, q1, qP, va_K.moved (u := U) (U := U.calling gg mk a) (Vm.Alike.refl U.vm) qK, qD, ns_same qF⟩, fun U hU hW => ⟨rfl, by rw [hU], by rw [hU]; exact hPc, va_K.moved hW.alike hKc, hDc.weaken (fun _ _ _ _ => trivial), ns_call hF hS hFc hU hW⟩⟩ rfl rfl hl.1 rfl (lv_room (Nat.le_of_ble_eq_true rfl)) dX16_word_91 ⟨Nat.le_of_ble_eq_true rfl, Nat.le_of_ble_eq_true rfl⟩) hS (fun q _ h => hFc q h) hFc (fun u t H1 locs ht hvm hw hB hz1 hk1 hS => ?_)
  obtain ⟨q27, hP1, hK1, hD1⟩ := hB
  rw [ht] at hP1
  have hK1 := va_K.moved hvm.symm hK1
  obtain ⟨hP, hD⟩ := va_join (wr := [(h1, .inr (6, [.int 0, .ref (g 0), .int 0])), (h0, .inr (23, [.int 0, .ref h1, v1, v2, v3, v4, v5, v6, .int 0])), (q24, .inr (0, [.ref q25, .int 0, .int 0, .int 0])), (q5, .inr (1, [.ref q6, .int 0, .int 0, .int 7])), (q6, .inl (cy7, 16, .inl (upd ((upd ((upd ((upd ((upd ((upd ((upd ((fun _ => 0)) 0 (vp_nar .byte (97 + x0).toInt8.toInt32))) 1 (vp_nar .byte (97 + x0).toInt8.toInt32))) 2 (vp_nar .byte (97 + x0).toInt8.toInt32))) 3 (vp_nar .byte (97 + x0).toInt8.toInt32))) 4 (vp_nar .byte (97 + x0).toInt8.toInt32))) 5 (vp_nar .byte (97 + x0).toInt8.toInt32))) 6 (vp_nar .byte (97 + x0).toInt8.toInt32)))), (q25, .inl (cy26, 7, .inl (va_cpy ((upd ((upd ((upd ((upd ((upd ((upd ((upd ((fun _ => 0)) 0 (vp_nar .byte (97 + x0).toInt8.toInt32))) 1 (vp_nar .byte (97 + x0).toInt8.toInt32))) 2 (vp_nar .byte (97 + x0).toInt8.toInt32))) 3 (vp_nar .byte (97 + x0).toInt8.toInt32))) 4 (vp_nar .byte (97 + x0).toInt8.toInt32))) 5 (vp_nar .byte (97 + x0).toInt8.toInt32))) 6 (vp_nar .byte (97 + x0).toInt8.toInt32))) (fun _ => 0) 0 0 7)))]) (w1 := [(q23, .inr (18, [.int 0, .ref q24, .int 0, .ref q27])), (q27, .inr (6, [.int 0, .ref (g 0), .int 0]))]) hP hD [2] [0, 1, 3, 4, 5, 6] rfl rfl (by decide) (by decide) hk1 hFc hP1 hD1
  have hK := (hK.sub (tys' := [(cy7, .byte), (cy26, .byte)]) [0, 1] rfl).app hK1
  generalize H1 = H at hP hS ⊢
  have hP : va_P (dC, dI) vwCl [(h1, .inr (6, [.int 0, .ref (g 0), .int 0])), (h0, .inr (23, [.int 0, .ref h1, v1, v2, v3, v4, v5, v6, .int 0])), (q24, .inr (0, [.ref q25, .int 0, .int 0, .int 0])), (q5, .inr (1, [.ref q6, .int 0, .int 0, .int 7])), (q6, .inl (cy7, 16, .inl (upd ((upd ((upd ((upd ((upd ((upd ((upd ((fun _ => 0)) 0 (vp_nar .byte (97 + x0).toInt8.toInt32))) 1 (vp_nar .byte (97 + x0).toInt8.toInt32))) 2 (vp_nar .byte (97 + x0).toInt8.toInt32))) 3 (vp_nar .byte (97 + x0).toInt8.toInt32))) 4 (vp_nar .byte (97 + x0).toInt8.toInt32))) 5 (vp_nar .byte (97 + x0).toInt8.toInt32))) 6 (vp_nar .byte (97 + x0).toInt8.toInt32)))), (q25, .inl (cy26, 7, .inl (va_cpy ((upd ((upd ((upd ((upd ((upd ((upd ((upd ((fun _ => 0)) 0 (vp_nar .byte (97 + x0).toInt8.toInt32))) 1 (vp_nar .byte (97 + x0).toInt8.toInt32))) 2 (vp_nar .byte (97 + x0).toInt8.toInt32))) 3 (vp_nar .byte (97 + x0).toInt8.toInt32))) 4 (vp_nar .byte (97 + x0).toInt8.toInt32))) 5 (vp_nar .byte (97 + x0).toInt8.toInt32))) 6 (vp_nar .byte (97 + x0).toInt8.toInt32))) (fun _ => 0) 0 0 7))), (q23, .inr (18, [.int 0, .ref q24, .int 0, .ref q27])), (q27, .inr (6, [.int 0, .ref (g 0), .int 0]))] H := hP
  have hD : va_D A [(h1, .inr (6, [.int 0, .ref (g 0), .int 0])), (h0, .inr (23, [.int 0, .ref h1, v1, v2, v3, v4, v5, v6, .int 0])), (q24, .inr (0, [.ref q25, .int 0, .int 0, .int 0])), (q5, .inr (1, [.ref q6, .int 0, .int 0, .int 7])), (q6, .inl (cy7, 16, .inl (upd ((upd ((upd ((upd ((upd ((upd ((upd ((fun _ => 0)) 0 (vp_nar .byte (97 + x0).toInt8.toInt32))) 1 (vp_nar .byte (97 + x0).toInt8.toInt32))) 2 (vp_nar .byte (97 + x0).toInt8.toInt32))) 3 (vp_nar .byte (97 + x0).toInt8.toInt32))) 4 (vp_nar .byte (97 + x0).toInt8.toInt32))) 5 (vp_nar .byte (97 + x0).toInt8.toInt32))) 6 (vp_nar .byte (97 + x0).toInt8.toInt32)))), (q25, .inl (cy26, 7, .inl (va_cpy ((upd ((upd ((upd ((upd ((upd ((upd ((upd ((fun _ => 0)) 0 (vp_nar .byte (97 + x0).toInt8.toInt32))) 1 (vp_nar .byte (97 + x0).toInt8.toInt32))) 2 (vp_nar .byte (97 + x0).toInt8.toInt32))) 3 (vp_nar .byte (97 + x0).toInt8.toInt32))) 4 (vp_nar .byte (97 + x0).toInt8.toInt32))) 5 (vp_nar .byte (97 + x0).toInt8.toInt32))) 6 (vp_nar .byte (97 + x0).toInt8.toInt32))) (fun _ => 0) 0 0 7))), (q23, .inr (18, [.int 0, .ref q24, .int 0, .ref q27])), (q27, .inr (6, [.int 0, .ref (g 0), .int 0]))] := hD
  have hK : va_K (dC, dI) vwCl [(cy7, .byte), (cy26, .byte)] s := hK
  refine W.widen (k := 6) (n := 38) (Nat.le_of_ble_eq_true rfl) (Nat.le_of_ble_eq_true rfl) ?_
  have hPc := hP.sub (ws' := [(h0, .inr (23, [.int 0, .ref h1, v1, v2, v3, v4, v5, v6, .int 0])), (h1, .inr (6, [.int 0, .ref (g 0), .int 0])), (q23, .inr (18, [.int 0, .ref q24, .int 0, .ref q27]))]) [1, 0, 6] rfl
  have hDc := hD.sub (ws' := [(h0, .inr (23, [.int 0, .ref h1, v1, v2, v3, v4, v5, v6, .int 0])), (h1, .inr (6, [.int 0, .ref (g 0), .int 0])), (q23, .inr (18, [.int 0, .ref q24, .int 0, .ref q27]))]) [1, 0, 6] (by decide) rfl
  have hKc := hK.sub (tys' := []) [] rfl
  have hFc := va_free (wc := [(h0, .inr (23, [.int 0, .ref h1, v1, v2, v3, v4, v5, v6, .int 0])), (h1, .inr (6, [.int 0, .ref (g 0), .int 0])), (q23, .inr (18, [.int 0, .ref q24, .int 0, .ref q27]))]) hD hS hA [1, 0, 6] rfl
  refine va_calli (va_runV (As := [.ref q23]) (rest := []) ⟨hx, hb, hml, hown, hts⟩ (kX16_made l dC dI g H.size h0 q23 h1 (.int 0) v1 v2 v3 v4 v5 v6 (.int 0) (.ref q24) (.int 0) (.ref q27) ) (cwV 1 hts (ns_gp (List.forall_mem_cons.mpr ⟨wm405, (List.forall_mem_cons.mpr ⟨wm406, (List.forall_mem_cons.mpr ⟨wm407, (List.forall_mem_cons.mpr ⟨wm192, (fun _ h9 => nomatch h9)⟩)⟩)⟩)⟩) wm392) rfl rfl rfl (by decide +kernel) ⟨Nat.le_of_ble_eq_true rfl, Nat.le_of_ble_eq_true rfl⟩) ⟨fun a U gg mk q => by obtain ⟨q0, q1, qP, qK, qD, qF⟩ := q; exact ⟨q0, q1, qP, va_K.moved (u := U) (U := U.calling gg mk a) (Vm.Alike.refl U.vm) qK, qD, ns_same qF⟩, va_recv hK hP (ci := 23) (q0 := 1) rfl rfl, fun U hU hW => ⟨rfl, by rw [hU], by rw [hU]; exact hPc, va_K.moved hW.alike hKc, hDc.weaken (fun _ _ _ _ => trivial), ns_call hF hS hFc hU hW⟩⟩ rfl rfl hl.1 rfl (lv_room (Nat.le_of_ble_eq_true rfl)) dX16_word_94 ⟨Nat.le_of_ble_eq_true rfl, Nat.le_of_ble_eq_true rfl⟩) hS (fun q _ h => hFc q h) hFc (fun r9 u t H1 locs ht hvm hw hB hz1 hk1 hS => ?_)
  obtain rfl := hw.symm
  obtain ⟨q28, cy29, hP1, hK1, hD1⟩ := hB
  rw [ht] at hP1
  have hK1 := va_K.moved hvm.symm hK1
  obtain ⟨hP, hD⟩ := va_join (wr := [(q24, .inr (0, [.ref q25, .int 0, .int 0, .int 0])), (q5, .inr (1, [.ref q6, .int 0, .int 0, .int 7])), (q6, .inl (cy7, 16, .inl (upd ((upd ((upd ((upd ((upd ((upd ((upd ((fun _ => 0)) 0 (vp_nar .byte (97 + x0).toInt8.toInt32))) 1 (vp_nar .byte (97 + x0).toInt8.toInt32))) 2 (vp_nar .byte (97 + x0).toInt8.toInt32))) 3 (vp_nar .byte (97 + x0).toInt8.toInt32))) 4 (vp_nar .byte (97 + x0).toInt8.toInt32))) 5 (vp_nar .byte (97 + x0).toInt8.toInt32))) 6 (vp_nar .byte (97 + x0).toInt8.toInt32)))), (q25, .inl (cy26, 7, .inl (va_cpy ((upd ((upd ((upd ((upd ((upd ((upd ((upd ((fun _ => 0)) 0 (vp_nar .byte (97 + x0).toInt8.toInt32))) 1 (vp_nar .byte (97 + x0).toInt8.toInt32))) 2 (vp_nar .byte (97 + x0).toInt8.toInt32))) 3 (vp_nar .byte (97 + x0).toInt8.toInt32))) 4 (vp_nar .byte (97 + x0).toInt8.toInt32))) 5 (vp_nar .byte (97 + x0).toInt8.toInt32))) 6 (vp_nar .byte (97 + x0).toInt8.toInt32))) (fun _ => 0) 0 0 7))), (q27, .inr (6, [.int 0, .ref (g 0), .int 0]))]) (w1 := [(h0, .inr (23, [.int 0, .ref h1, v1, v2, v3, v4, v5, v6, .int 1])), (q23, .inr (18, [.int 0, .ref q24, .int 0, .ref q27])), (q28, .inl (cy29, 10, .inr (.inr (.inr (.inr (va_up (fun _ => none) 0 (some q23))))))), (h1, .inr (6, [.int 1, .ref q28, .int 1]))]) hP hD [1, 0, 6] [2, 3, 4, 5, 7] rfl rfl (by decide) (by decide) hk1 hFc hP1 hD1
  have hK := (hK.sub (tys' := [(cy7, .byte), (cy26, .byte)]) [0, 1] rfl).app hK1
  generalize H1 = H at hP hS ⊢
  have hP : va_P (dC, dI) vwCl [(q24, .inr (0, [.ref q25, .int 0, .int 0, .int 0])), (q5, .inr (1, [.ref q6, .int 0, .int 0, .int 7])), (q6, .inl (cy7, 16, .inl (upd ((upd ((upd ((upd ((upd ((upd ((upd ((fun _ => 0)) 0 (vp_nar .byte (97 + x0).toInt8.toInt32))) 1 (vp_nar .byte (97 + x0).toInt8.toInt32))) 2 (vp_nar .byte (97 + x0).toInt8.toInt32))) 3 (vp_nar .byte (97 + x0).toInt8.toInt32))) 4 (vp_nar .byte (97 + x0).toInt8.toInt32))) 5 (vp_nar .byte (97 + x0).toInt8.toInt32))) 6 (vp_nar .byte (97 + x0).toInt8.toInt32)))), (q25, .inl (cy26, 7, .inl (va_cpy ((upd ((upd ((upd ((upd ((upd ((upd ((upd ((fun _ => 0)) 0 (vp_nar .byte (97 + x0).toInt8.toInt32))) 1 (vp_nar .byte (97 + x0).toInt8.toInt32))) 2 (vp_nar .byte (97 + x0).toInt8.toInt32))) 3 (vp_nar .byte (97 + x0).toInt8.toInt32))) 4 (vp_nar .byte (97 + x0).toInt8.toInt32))) 5 (vp_nar .byte (97 + x0).toInt8.toInt32))) 6 (vp_nar .byte (97 + x0).toInt8.toInt32))) (fun _ => 0) 0 0 7))), (q27, .inr (6, [.int 0, .ref (g 0), .int 0])), (h0, .inr (23, [.int 0, .ref h1, v1, v2, v3, v4, v5, v6, .int 1])), (q23, .inr (18, [.int 0, .ref q24, .int 0, .ref q27])), (q28, .inl (cy29, 10, .inr (.inr (.inr (.inr (va_up (fun _ => none) 0 (some q23))))))), (h1, .inr (6, [.int 1, .ref q28, .int 1]))] H := hP
  have hD : va_D A [(q24, .inr (0, [.ref q25, .int 0, .int 0, .int 0])), (q5, .inr (1, [.ref q6, .int 0, .int 0, .int 7])), (q6, .inl (cy7, 16, .inl (upd ((upd ((upd ((upd ((upd ((upd ((upd ((fun _ => 0)) 0 (vp_nar .byte (97 + x0).toInt8.toInt32))) 1 (vp_nar .byte (97 + x0).toInt8.toInt32))) 2 (vp_nar .byte (97 + x0).toInt8.toInt32))) 3 (vp_nar .byte (97 + x0).toInt8.toInt32))) 4 (vp_nar .byte (97 + x0).toInt8.toInt32))) 5 (vp_nar .byte (97 + x0).toInt8.toInt32))) 6 (vp_nar .byte (97 + x0).toInt8.toInt32)))), (q25, .inl (cy26, 7, .inl (va_cpy ((upd ((upd ((upd ((upd ((upd ((upd ((upd ((fun _ => 0)) 0 (vp_nar .byte (97 + x0).toInt8.toInt32))) 1 (vp_nar .byte (97 + x0).toInt8.toInt32))) 2 (vp_nar .byte (97 + x0).toInt8.toInt32))) 3 (vp_nar .byte (97 + x0).toInt8.toInt32))) 4 (vp_nar .byte (97 + x0).toInt8.toInt32))) 5 (vp_nar .byte (97 + x0).toInt8.toInt32))) 6 (vp_nar .byte (97 + x0).toInt8.toInt32))) (fun _ => 0) 0 0 7))), (q27, .inr (6, [.int 0, .ref (g 0), .int 0])), (h0, .inr (23, [.int 0, .ref h1, v1, v2, v3, v4, v5, v6, .int 1])), (q23, .inr (18, [.int 0, .ref q24, .int 0, .ref q27])), (q28, .inl (cy29, 10, .inr (.inr (.inr (.inr (va_up (fun _ => none) 0 (some q23))))))), (h1, .inr (6, [.int 1, .ref q28, .int 1]))] := hD
  have hK : va_K (dC, dI) vwCl [(cy7, .byte), (cy26, .byte), (cy29, .object "java/lang/Object")] s := hK
  refine W.widen (k := 7) (n := 48) (Nat.le_of_ble_eq_true rfl) (Nat.le_of_ble_eq_true rfl) ?_
  have hP9 := hP.sub (ws' := [(q24, .inr (0, [.ref q25, .int 0, .int 0, .int 0])), (q5, .inr (1, [.ref q6, .int 0, .int 0, .int 7])), (q6, .inl (cy7, 16, .inl (upd ((upd ((upd ((upd ((upd ((upd ((upd ((fun _ => 0)) 0 (vp_nar .byte (97 + x0).toInt8.toInt32))) 1 (vp_nar .byte (97 + x0).toInt8.toInt32))) 2 (vp_nar .byte (97 + x0).toInt8.toInt32))) 3 (vp_nar .byte (97 + x0).toInt8.toInt32))) 4 (vp_nar .byte (97 + x0).toInt8.toInt32))) 5 (vp_nar .byte (97 + x0).toInt8.toInt32))) 6 (vp_nar .byte (97 + x0).toInt8.toInt32)))), (q25, .inl (cy26, 7, .inl (va_cpy ((upd ((upd ((upd ((upd ((upd ((upd ((upd ((fun _ => 0)) 0 (vp_nar .byte (97 + x0).toInt8.toInt32))) 1 (vp_nar .byte (97 + x0).toInt8.toInt32))) 2 (vp_nar .byte (97 + x0).toInt8.toInt32))) 3 (vp_nar .byte (97 + x0).toInt8.toInt32))) 4 (vp_nar .byte (97 + x0).toInt8.toInt32))) 5 (vp_nar .byte (97 + x0).toInt8.toInt32))) 6 (vp_nar .byte (97 + x0).toInt8.toInt32))) (fun _ => 0) 0 0 7))), (q27, .inr (6, [.int 0, .ref (g 0), .int 0])), (h0, .inr (23, [.int 0, .ref h1, v1, v2, v3, v4, v5, v6, .int 1])), (q23, .inr (18, [.int 0, .ref q24, .int 0, .ref q27])), (q28, .inl (cy29, 10, .inr (.inr (.inr (.inr (va_up (fun _ => none) 0 (some q23))))))), (h1, .inr (6, [.int 1, .ref q28, .int 1]))]) [0, 1, 2, 3, 4, 5, 6, 7, 8] rfl
  have hD9 := hD.sub (ws' := [(q24, .inr (0, [.ref q25, .int 0, .int 0, .int 0])), (q5, .inr (1, [.ref q6, .int 0, .int 0, .int 7])), (q6, .inl (cy7, 16, .inl (upd ((upd ((upd ((upd ((upd ((upd ((upd ((fun _ => 0)) 0 (vp_nar .byte (97 + x0).toInt8.toInt32))) 1 (vp_nar .byte (97 + x0).toInt8.toInt32))) 2 (vp_nar .byte (97 + x0).toInt8.toInt32))) 3 (vp_nar .byte (97 + x0).toInt8.toInt32))) 4 (vp_nar .byte (97 + x0).toInt8.toInt32))) 5 (vp_nar .byte (97 + x0).toInt8.toInt32))) 6 (vp_nar .byte (97 + x0).toInt8.toInt32)))), (q25, .inl (cy26, 7, .inl (va_cpy ((upd ((upd ((upd ((upd ((upd ((upd ((upd ((fun _ => 0)) 0 (vp_nar .byte (97 + x0).toInt8.toInt32))) 1 (vp_nar .byte (97 + x0).toInt8.toInt32))) 2 (vp_nar .byte (97 + x0).toInt8.toInt32))) 3 (vp_nar .byte (97 + x0).toInt8.toInt32))) 4 (vp_nar .byte (97 + x0).toInt8.toInt32))) 5 (vp_nar .byte (97 + x0).toInt8.toInt32))) 6 (vp_nar .byte (97 + x0).toInt8.toInt32))) (fun _ => 0) 0 0 7))), (q27, .inr (6, [.int 0, .ref (g 0), .int 0])), (h0, .inr (23, [.int 0, .ref h1, v1, v2, v3, v4, v5, v6, .int 1])), (q23, .inr (18, [.int 0, .ref q24, .int 0, .ref q27])), (q28, .inl (cy29, 10, .inr (.inr (.inr (.inr (va_up (fun _ => none) 0 (some q23))))))), (h1, .inr (6, [.int 1, .ref q28, .int 1]))]) [0, 1, 2, 3, 4, 5, 6, 7, 8] (by decide) rfl
  have hK9 := hK.sub (tys' := [(cy7, .byte), (cy26, .byte), (cy29, .object "java/lang/Object")]) [0, 1, 2] rfl
  refine W.widen (k := 7) (n := 48) (Nat.le_of_ble_eq_true rfl) (Nat.le_of_ble_eq_true rfl) ?_
  exact W.iret (v := 0) hx hb hr (fun t ht hW => ⟨⟨_, (), rfl, rfl, q5, q6, cy7, q23, q24, q25, cy26, q27, q28, cy29, by rw [ht]; exact hP9, va_K.moved hW.alike hK9, hD9⟩, hS.F ht⟩) hS.2.2 dX16_word_97
