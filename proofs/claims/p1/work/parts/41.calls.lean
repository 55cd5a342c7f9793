
set_option maxHeartbeats 4000000 in
set_option maxRecDepth 100000 in
theorem kX16_word_18 (l : Launch) (dC : Nat → ClassId) (dI : Nat → Nat → Nat) (g : Nat → Nat) (sz : Nat) (h0 : Nat) (x0 : Int32) (h1 : Nat) (v0 : Value) (v1 : Value) (v2 : Value) (v3 : Value) (v4 : Value) (v5 : Value) (v6 : Value) (ex0 : (0 : Int) ≤ x0.toInt ∧ x0.toInt ≤ (25 : Int)) : Met l yX16_word wbX16_word ({ frames := 6, cells := 7, slots := 47, locals := 151 }) (va_Pc [.ref h0, .int x0, .int 6] (fun U => U.heap.size = sz ∧ va_P (dC, dI) vwCl [(h0, .inr (23, [v0, .ref h1, v1, v2, v3, v4, v5, v6, .int 0])), (h1, .inr (6, [.int 0, .ref (g 0), .int 0]))] U.heap ∧ va_K (dC, dI) vwCl [] U ∧ va_D (fun _ => True) [(h0, .inr (23, [v0, .ref h1, v1, v2, v3, v4, v5, v6, .int 0])), (h1, .inr (6, [.int 0, .ref (g 0), .int 0]))] ∧ ns_F g (va_A [(h0, .inr (23, [v0, .ref h1, v1, v2, v3, v4, v5, v6, .int 0])), (h1, .inr (6, [.int 0, .ref (g 0), .int 0]))] sz) U U.heap)) (va_Qi (fun (r : Int32) (_ : Unit) => r = 0) (fun _ t => ∃ k0 : Nat, ∃ k1 : Nat, ∃ kc2 : ClassId, ∃ k3 : Nat, ∃ k4 : Nat, ∃ k5 : Nat, ∃ kc6 : ClassId, ∃ k7 : Nat, ∃ k8 : Nat, ∃ kc9 : ClassId, va_P (dC, dI) vwCl [(k4, .inr (0, [.ref k5, .int 0, .int 0, .int 0])), (k0, .inr (1, [.ref k1, .int 0, .int 0, .int 6])), (k1, .inl (kc2, 16, .inl (upd ((upd ((upd ((upd ((upd ((upd ((fun _ => 0)) 0 (vp_nar .byte (97 + x0).toInt8.toInt32))) 1 (vp_nar .byte (97 + x0).toInt8.toInt32))) 2 (vp_nar .byte (97 + x0).toInt8.toInt32))) 3 (vp_nar .byte (97 + x0).toInt8.toInt32))) 4 (vp_nar .byte (97 + x0).toInt8.toInt32))) 5 (vp_nar .byte (97 + x0).toInt8.toInt32)))), (k5, .inl (kc6, 6, .inl (va_cpy ((upd ((upd ((upd ((upd ((upd ((upd ((fun _ => 0)) 0 (vp_nar .byte (97 + x0).toInt8.toInt32))) 1 (vp_nar .byte (97 + x0).toInt8.toInt32))) 2 (vp_nar .byte (97 + x0).toInt8.toInt32))) 3 (vp_nar .byte (97 + x0).toInt8.toInt32))) 4 (vp_nar .byte (97 + x0).toInt8.toInt32))) 5 (vp_nar .byte (97 + x0).toInt8.toInt32))) (fun _ => 0) 0 0 6))), (k7, .inr (6, [.int 0, .ref (g 0), .int 0])), (h0, .inr (23, [.int 0, .ref h1, v1, v2, v3, v4, v5, v6, .int 1])), (k3, .inr (18, [.int 0, .ref k4, .int 0, .ref k7])), (k8, .inl (kc9, 10, .inr (.inr (.inr (.inr (va_up (fun _ => none) 0 (some k3))))))), (h1, .inr (6, [.int 1, .ref k8, .int 1]))] t.heap ∧ va_K (dC, dI) vwCl [(kc2, .byte), (kc6, .byte), (kc9, .object "java/lang/Object")] t ∧ va_D (va_A [(h0, .inr (23, [v0, .ref h1, v1, v2, v3, v4, v5, v6, .int 0])), (h1, .inr (6, [.int 0, .ref (g 0), .int 0]))] sz) [(k4, .inr (0, [.ref k5, .int 0, .int 0, .int 0])), (k0, .inr (1, [.ref k1, .int 0, .int 0, .int 6])), (k1, .inl (kc2, 16, .inl (upd ((upd ((upd ((upd ((upd ((upd ((fun _ => 0)) 0 (vp_nar .byte (97 + x0).toInt8.toInt32))) 1 (vp_nar .byte (97 + x0).toInt8.toInt32))) 2 (vp_nar .byte (97 + x0).toInt8.toInt32))) 3 (vp_nar .byte (97 + x0).toInt8.toInt32))) 4 (vp_nar .byte (97 + x0).toInt8.toInt32))) 5 (vp_nar .byte (97 + x0).toInt8.toInt32)))), (k5, .inl (kc6, 6, .inl (va_cpy ((upd ((upd ((upd ((upd ((upd ((upd ((fun _ => 0)) 0 (vp_nar .byte (97 + x0).toInt8.toInt32))) 1 (vp_nar .byte (97 + x0).toInt8.toInt32))) 2 (vp_nar .byte (97 + x0).toInt8.toInt32))) 3 (vp_nar .byte (97 + x0).toInt8.toInt32))) 4 (vp_nar .byte (97 + x0).toInt8.toInt32))) 5 (vp_nar .byte (97 + x0).toInt8.toInt32))) (fun _ => 0) 0 0 6))), (k7, .inr (6, [.int 0, .ref (g 0), .int 0])), (h0, .inr (23, [.int 0, .ref h1, v1, v2, v3, v4, v5, v6, .int 1])), (k3, .inr (18, [.int 0, .ref k4, .int 0, .ref k7])), (k8, .inl (kc9, 10, .inr (.inr (.inr (.inr (va_up (fun _ => none) 0 (some k3))))))), (h1, .inr (6, [.int 1, .ref k8, .int 1]))]) (va_A [(h0, .inr (23, [v0, .ref h1, v1, v2, v3, v4, v5, v6, .int 0])), (h1, .inr (6, [.int 0, .ref (g 0), .int 0]))] sz)) 7 47 (va_A [(h0, .inr (23, [v0, .ref h1, v1, v2, v3, v4, v5, v6, .int 0])), (h1, .inr (6, [.int 0, .ref (g 0), .int 0]))] sz) := by
  refine Met.ofW (cc := cX16_word) (maxL := 5) (ret := (some .int)) (by decide) rfl ?_
  intro p e s m args below meth c s₁ B hml hv
  obtain ⟨rfl, hsz, hP, hK, hD0, hF⟩ := hv
  have hx := B.exec
  have hb := B.bytes
  have hr := B.returns
  have hts := atoms_spec (ws := wbX16_word) B.pre
  have hta : ∀ w ∈ wsALL, w.before _ s = true := fun w h => hts w (List.mem_cons_of_mem _ h)
  have hown : s.vm.findClass RX16 = some m.cls := findClass_of_methodNamed B.named
  have hlocks := B.notSynchronized
  subst hsz
  have hD := hD0.self (sz := s.heap.size)
  generalize hAe : va_A [(h0, .inr (23, [v0, .ref h1, v1, v2, v3, v4, v5, v6, .int 0])), (h1, .inr (6, [.int 0, .ref (g 0), .int 0]))] s.heap.size = A at hD hF ⊢
  have hA : ∀ q : Nat, s.heap.size ≤ q → A q := fun q h => by rw [← hAe]; exact Or.inr h
  have hS : va_S A s.heap s.heap [] := va_S.rf
  have hP : va_P (dC, dI) vwCl [(h0, .inr (23, [v0, .ref h1, v1, v2, v3, v4, v5, v6, .int 0])), (h1, .inr (6, [.int 0, .ref (g 0), .int 0]))] s.heap := hP
  have hl := lv_entry ([.ref h0, .int x0, .int 6]) (n := 5) (Nat.le_of_ble_eq_true rfl)
  rw [lg_entry_eq]
  generalize (lg_sl ([.ref h0, .int x0, .int 6]) ++ List.replicate (5 - (lg_sl ([.ref h0, .int x0, .int 6])).length) Slot.unset).toArray = ls at hl ⊢
  have hl : lv_has ls 5 [(0, .ref h0), (1, .int x0), (2, .int 6)] := hl
  refine lv_aload_n hx hb dX16_word_0 rfl (lv_at hl 0 rfl) ?_
  refine lv_iload_n hx hb dX16_word_1 rfl (lv_at hl 1 rfl) ?_
  refine lv_iconst (v := 0) hx hb dX16_word_2 (by decide) ?_
  refine lv_bipush (v := 25) hx hb dX16_word_3 (by decide) ?_
  have hPc := hP.sub (ws' := []) [] rfl
  have hDc := hD.sub (ws' := []) [] (by decide) rfl
  have hKc := hK.sub (tys' := []) [] rfl
  have hFc := va_free (wc := []) hD hS hA [] rfl
  refine va_calli (va_runS (As := [.int x0, .int 0, .int 25]) (rest := [.ref h0]) ⟨hx, hb, hml, hown, hts⟩ (kX16_isIn_2 l dC dI g s.heap.size x0 ⟨by omega, by omega⟩) (va_cwS 3 hts (ns_gp (List.forall_mem_cons.mpr ⟨wm240, (List.forall_mem_cons.mpr ⟨wm241, (List.forall_mem_cons.mpr ⟨wm192, (fun _ h9 => nomatch h9)⟩)⟩)⟩) wm233) rfl rfl rfl (by decide +kernel) ⟨Nat.le_of_ble_eq_true rfl, Nat.le_of_ble_eq_true rfl⟩) ⟨fun a U gg mk q => by obtain ⟨q0, q1, qP, qK, qD, qF⟩ := q; exact ⟨q0, q1, qP, va_K.moved (u := U) (U := U.calling gg mk a) (Vm.Alike.refl U.vm) qK, qD, ns_same qF⟩, fun U hU hW => ⟨rfl, by rw [hU], by rw [hU]; exact hPc, va_K.moved hW.alike hKc, hDc.weaken (fun _ _ _ _ => trivial), ns_call hF hS hFc hU hW⟩⟩ rfl rfl hl.1 rfl (lv_room (Nat.le_of_ble_eq_true rfl)) dX16_word_5 ⟨Nat.le_of_ble_eq_true rfl, Nat.le_of_ble_eq_true rfl⟩) hS (fun q _ h => hFc q h) hFc (fun r9 u t H1 locs ht hvm hw hB hz1 hk1 hS => ?_)
  obtain rfl := hw.symm
  obtain ⟨hP1, hK1, hD1⟩ := hB
  rw [ht] at hP1
  have hK1 := va_K.moved hvm.symm hK1
  obtain ⟨hP, hD⟩ := va_join (wr := [(h0, .inr (23, [v0, .ref h1, v1, v2, v3, v4, v5, v6, .int 0])), (h1, .inr (6, [.int 0, .ref (g 0), .int 0]))]) (w1 := []) hP hD [] [0, 1] rfl rfl (by decide) (by decide) hk1 hFc hP1 hD1
  have hK := (hK.sub (tys' := []) [] rfl).app hK1
  generalize H1 = H at hP hS ⊢
  have hP : va_P (dC, dI) vwCl [(h0, .inr (23, [v0, .ref h1, v1, v2, v3, v4, v5, v6, .int 0])), (h1, .inr (6, [.int 0, .ref (g 0), .int 0]))] H := hP
  have hD : va_D A [(h0, .inr (23, [v0, .ref h1, v1, v2, v3, v4, v5, v6, .int 0])), (h1, .inr (6, [.int 0, .ref (g 0), .int 0]))] := hD
  have hK : va_K (dC, dI) vwCl [] s := hK
  refine W.widen (k := 0) (n := 0) (Nat.le_of_ble_eq_true rfl) (Nat.le_of_ble_eq_true rfl) ?_
  refine lv_if_eq (tgt := 21) hx hb dX16_word_8 (by decide) (fun c1 => absurd c1 (by decide)) (fun c1 => ?_)
  refine lv_iload_n hx hb dX16_word_11 rfl (lv_at hl 2 rfl) ?_
  refine lv_iconst (v := 1) hx hb dX16_word_12 (by decide) ?_
  refine lv_bipush (v := 9) hx hb dX16_word_13 (by decide) ?_
  have hPc := hP.sub (ws' := []) [] rfl
  have hDc := hD.sub (ws' := []) [] (by decide) rfl
  have hKc := hK.sub (tys' := []) [] rfl
  have hFc := va_free (wc := []) hD hS hA [] rfl
  refine va_calli (va_runS (As := [.int 6, .int 1, .int 9]) (rest := [.ref h0]) ⟨hx, hb, hml, hown, hts⟩ (kX16_isIn_9 l dC dI g H.size  ) (va_cwS 3 hts (ns_gp (List.forall_mem_cons.mpr ⟨wm240, (List.forall_mem_cons.mpr ⟨wm241, (List.forall_mem_cons.mpr ⟨wm192, (fun _ h9 => nomatch h9)⟩)⟩)⟩) wm233) rfl rfl rfl (by decide +kernel) ⟨Nat.le_of_ble_eq_true rfl, Nat.le_of_ble_eq_true rfl⟩) ⟨fun a U gg mk q => by obtain ⟨q0, q1, qP, qK, qD, qF⟩ := q; exact ⟨q0, q1, qP, va_K.moved (u := U) (U := U.calling gg mk a) (Vm.Alike.refl U.vm) qK, qD, ns_same qF⟩, fun U hU hW => ⟨rfl, by rw [hU], by rw [hU]; exact hPc, va_K.moved hW.alike hKc, hDc.weaken (fun _ _ _ _ => trivial), ns_call hF hS hFc hU hW⟩⟩ rfl rfl hl.1 rfl (lv_room (Nat.le_of_ble_eq_true rfl)) dX16_word_15 ⟨Nat.le_of_ble_eq_true rfl, Nat.le_of_ble_eq_true rfl⟩) hS (fun q _ h => hFc q h) hFc (fun r9 u t H1 locs ht hvm hw hB hz1 hk1 hS => ?_)
  obtain rfl := hw.symm
  obtain ⟨hP1, hK1, hD1⟩ := hB
  rw [ht] at hP1
  have hK1 := va_K.moved hvm.symm hK1
  obtain ⟨hP, hD⟩ := va_join (wr := [(h0, .inr (23, [v0, .ref h1, v1, v2, v3, v4, v5, v6, .int 0])), (h1, .inr (6, [.int 0, .ref (g 0), .int 0]))]) (w1 := []) hP hD [] [0, 1] rfl rfl (by decide) (by decide) hk1 hFc hP1 hD1
  have hK := (hK.sub (tys' := []) [] rfl).app hK1
  generalize H1 = H at hP hS ⊢
  have hP : va_P (dC, dI) vwCl [(h0, .inr (23, [v0, .ref h1, v1, v2, v3, v4, v5, v6, .int 0])), (h1, .inr (6, [.int 0, .ref (g 0), .int 0]))] H := hP
  have hD : va_D A [(h0, .inr (23, [v0, .ref h1, v1, v2, v3, v4, v5, v6, .int 0])), (h1, .inr (6, [.int 0, .ref (g 0), .int 0]))] := hD
  have hK : va_K (dC, dI) vwCl [] s := hK
  refine W.widen (k := 0) (n := 0) (Nat.le_of_ble_eq_true rfl) (Nat.le_of_ble_eq_true rfl) ?_
  refine lv_if_ne (tgt := 25) hx hb dX16_word_18 (by decide) (fun c2 => ?_) (fun c2 => absurd c2 (by decide))
  refine lv_iconst (v := 0) hx hb dX16_word_25 (by decide) ?_
  refine lv_iconst (v := 1) hx hb dX16_word_26 (by decide) ?_
  have hPc := hP.sub (ws' := [(h0, .inr (23, [v0, .ref h1, v1, v2, v3, v4, v5, v6, .int 0]))]) [0] rfl
  have hDc := hD.sub (ws' := [(h0, .inr (23, [v0, .ref h1, v1, v2, v3, v4, v5, v6, .int 0]))]) [0] (by decide) rfl
  have hKc := hK.sub (tys' := []) [] rfl
  have hFc := va_free (wc := [(h0, .inr (23, [v0, .ref h1, v1, v2, v3, v4, v5, v6, .int 0]))]) hD hS hA [0] rfl
  refine va_calli (va_runV (As := [.int 0, .int 1]) (rest := []) ⟨hx, hb, hml, hown, hts⟩ (kX16_start_2 l dC dI g H.size h0 v0 (.ref h1) v1 v2 v3 v4 v5 v6 (.int 0) ) (cwV 2 hts (ns_gp (List.forall_mem_cons.mpr ⟨wm242, (List.forall_mem_cons.mpr ⟨wm243, (List.forall_mem_cons.mpr ⟨wm244, (List.forall_mem_cons.mpr ⟨wm192, (fun _ h9 => nomatch h9)⟩)⟩)⟩)⟩) wm239) rfl rfl rfl (by decide +kernel) ⟨Nat.le_of_ble_eq_true rfl, Nat.le_of_ble_eq_true rfl⟩) ⟨fun a U gg mk q => by obtain ⟨q0, q1, qP, qK, qD, qF⟩ := q; exact ⟨q0, q1, qP, va_K.moved (u := U) (U := U.calling gg mk a) (Vm.Alike.refl U.vm) qK, qD, ns_same qF⟩, va_recv hK hP (ci := 23) (q0 := 0) rfl rfl, fun U hU hW => ⟨rfl, by rw [hU], by rw [hU]; exact hPc, va_K.moved hW.alike hKc, hDc.weaken (fun _ _ _ _ => trivial), ns_call hF hS hFc hU hW⟩⟩ rfl rfl hl.1 rfl (lv_room (Nat.le_of_ble_eq_true rfl)) dX16_word_27 ⟨Nat.le_of_ble_eq_true rfl, Nat.le_of_ble_eq_true rfl⟩) hS (fun q _ h => hFc q h) hFc (fun r9 u t H1 locs ht hvm hw hB hz1 hk1 hS => ?_)
  obtain rfl := hw.symm
  obtain ⟨hP1, hK1, hD1⟩ := hB
  rw [ht] at hP1
  have hK1 := va_K.moved hvm.symm hK1
  obtain ⟨hP, hD⟩ := va_join (wr := [(h1, .inr (6, [.int 0, .ref (g 0), .int 0]))]) (w1 := [(h0, .inr (23, [.int 0, .ref h1, v1, v2, v3, v4, v5, v6, .int 0]))]) hP hD [0] [1] rfl rfl (by decide) (by decide) hk1 hFc hP1 hD1
  have hK := (hK.sub (tys' := []) [] rfl).app hK1
  generalize H1 = H at hP hS ⊢
  have hP : va_P (dC, dI) vwCl [(h1, .inr (6, [.int 0, .ref (g 0), .int 0])), (h0, .inr (23, [.int 0, .ref h1, v1, v2, v3, v4, v5, v6, .int 0]))] H := hP
  have hD : va_D A [(h1, .inr (6, [.int 0, .ref (g 0), .int 0])), (h0, .inr (23, [.int 0, .ref h1, v1, v2, v3, v4, v5, v6, .int 0]))] := hD
  have hK : va_K (dC, dI) vwCl [] s := hK
  refine W.widen (k := 0) (n := 0) (Nat.le_of_ble_eq_true rfl) (Nat.le_of_ble_eq_true rfl) ?_
  refine lv_if_ne (tgt := 45) hx hb dX16_word_30 (by decide) (fun c3 => absurd (by decide) c3) (fun c3 => ?_)
  refine lv_aload_n hx hb dX16_word_33 rfl (lv_at hl 0 rfl) ?_
  refine lv_aload_n hx hb dX16_word_34 rfl (lv_at hl 0 rfl) ?_
  have hPc := hP.sub (ws' := [(h0, .inr (23, [.int 0, .ref h1, v1, v2, v3, v4, v5, v6, .int 0])), (h1, .inr (6, [.int 0, .ref (g 0), .int 0]))]) [1, 0] rfl
  have hDc := hD.sub (ws' := [(h0, .inr (23, [.int 0, .ref h1, v1, v2, v3, v4, v5, v6, .int 0])), (h1, .inr (6, [.int 0, .ref (g 0), .int 0]))]) [1, 0] (by decide) rfl
  have hKc := hK.sub (tys' := []) [] rfl
  have hFc := va_free (wc := [(h0, .inr (23, [.int 0, .ref h1, v1, v2, v3, v4, v5, v6, .int 0])), (h1, .inr (6, [.int 0, .ref (g 0), .int 0]))]) hD hS hA [1, 0] rfl
  refine va_calli (va_runV (As := []) (rest := [.ref h0]) ⟨hx, hb, hml, hown, hts⟩ (kX16_isFull l dC dI g H.size h0 h1 (.int 0) v1 v2 v3 v4 v5 v6 (.int 0) (.int 0) (.ref (g 0)) ) (cwV 0 hts (ns_gp (List.forall_mem_cons.mpr ⟨wm393, (List.forall_mem_cons.mpr ⟨wm394, (List.forall_mem_cons.mpr ⟨wm395, (List.forall_mem_cons.mpr ⟨wm192, (fun _ h9 => nomatch h9)⟩)⟩)⟩)⟩) wm288) rfl rfl rfl (by decide +kernel) ⟨Nat.le_of_ble_eq_true rfl, Nat.le_of_ble_eq_true rfl⟩) ⟨fun a U gg mk q => by obtain ⟨q0, q1, qP, qK, qD, qF⟩ := q; exact ⟨q0, q1, qP, va_K.moved (u := U) (U := U.calling gg mk a) (Vm.Alike.refl U.vm) qK, qD, ns_same qF⟩, va_recv hK hP (ci := 23) (q0 := 1) rfl rfl, fun U hU hW => ⟨rfl, by rw [hU], by rw [hU]; exact hPc, va_K.moved hW.alike hKc, hDc.weaken (fun _ _ _ _ => trivial), ns_call hF hS hFc hU hW⟩⟩ rfl rfl hl.1 rfl (lv_room (Nat.le_of_ble_eq_true rfl)) dX16_word_35 ⟨Nat.le_of_ble_eq_true rfl, Nat.le_of_ble_eq_true rfl⟩) hS (fun q _ h => hFc q h) hFc (fun r9 u t H1 locs ht hvm hw hB hz1 hk1 hS => ?_)
  obtain rfl := hw.symm
  obtain ⟨hP1, hK1, hD1⟩ := hB
  rw [ht] at hP1
  have hK1 := va_K.moved hvm.symm hK1
  obtain ⟨hP, hD⟩ := va_join (wr := []) (w1 := [(h0, .inr (23, [.int 0, .ref h1, v1, v2, v3, v4, v5, v6, .int 0])), (h1, .inr (6, [.int 0, .ref (g 0), .int 0]))]) hP hD [1, 0] [] rfl rfl (by decide) (by decide) hk1 hFc hP1 hD1
  have hK := (hK.sub (tys' := []) [] rfl).app hK1
  generalize H1 = H at hP hS ⊢
  have hP : va_P (dC, dI) vwCl [(h0, .inr (23, [.int 0, .ref h1, v1, v2, v3, v4, v5, v6, .int 0])), (h1, .inr (6, [.int 0, .ref (g 0), .int 0]))] H := hP
  have hD : va_D A [(h0, .inr (23, [.int 0, .ref h1, v1, v2, v3, v4, v5, v6, .int 0])), (h1, .inr (6, [.int 0, .ref (g 0), .int 0]))] := hD
  have hK : va_K (dC, dI) vwCl [] s := hK
  refine W.widen (k := 0) (n := 0) (Nat.le_of_ble_eq_true rfl) (Nat.le_of_ble_eq_true rfl) ?_
  refine lv_iconst (v := 2) hx hb dX16_word_38 (by decide) ?_
  have hPc := hP.sub (ws' := [(h0, .inr (23, [.int 0, .ref h1, v1, v2, v3, v4, v5, v6, .int 0]))]) [0] rfl
  have hDc := hD.sub (ws' := [(h0, .inr (23, [.int 0, .ref h1, v1, v2, v3, v4, v5, v6, .int 0]))]) [0] (by decide) rfl
  have hKc := hK.sub (tys' := []) [] rfl
  have hFc := va_free (wc := [(h0, .inr (23, [.int 0, .ref h1, v1, v2, v3, v4, v5, v6, .int 0]))]) hD hS hA [0] rfl
  refine va_calli (va_runV (As := [.int 0, .int 2]) (rest := []) ⟨hx, hb, hml, hown, hts⟩ (kX16_refuse_3 l dC dI g H.size h0 (.ref h1) v1 v2 v3 v4 v5 v6 (.int 0) ) (cwV 2 hts (ns_gp (List.forall_mem_cons.mpr ⟨wm236, (List.forall_mem_cons.mpr ⟨wm237, (List.forall_mem_cons.mpr ⟨wm238, (List.forall_mem_cons.mpr ⟨wm192, (fun _ h9 => nomatch h9)⟩)⟩)⟩)⟩) wm235) rfl rfl rfl (by decide +kernel) ⟨Nat.le_of_ble_eq_true rfl, Nat.le_of_ble_eq_true rfl⟩) ⟨fun a U gg mk q => by obtain ⟨q0, q1, qP, qK, qD, qF⟩ := q; exact ⟨q0, q1, qP, va_K.moved (u := U) (U := U.calling gg mk a) (Vm.Alike.refl U.vm) qK, qD, ns_same qF⟩, va_recv hK hP (ci := 23) (q0 := 0) rfl rfl, fun U hU hW => ⟨rfl, by rw [hU], by rw [hU]; exact hPc, va_K.moved hW.alike hKc, hDc.weaken (fun _ _ _ _ => trivial), ns_call hF hS hFc hU hW⟩⟩ rfl rfl hl.1 rfl (lv_room (Nat.le_of_ble_eq_true rfl)) dX16_word_39 ⟨Nat.le_of_ble_eq_true rfl, Nat.le_of_ble_eq_true rfl⟩) hS (fun q _ h => hFc q h) hFc (fun r9 u t H1 locs ht hvm hw hB hz1 hk1 hS => ?_)
  obtain rfl := hw.symm
  obtain ⟨hP1, hK1, hD1⟩ := hB
  rw [ht] at hP1
  have hK1 := va_K.moved hvm.symm hK1
  obtain ⟨hP, hD⟩ := va_join (wr := [(h1, .inr (6, [.int 0, .ref (g 0), .int 0]))]) (w1 := [(h0, .inr (23, [.int 0, .ref h1, v1, v2, v3, v4, v5, v6, .int 0]))]) hP hD [0] [1] rfl rfl (by decide) (by decide) hk1 hFc hP1 hD1
  have hK := (hK.sub (tys' := []) [] rfl).app hK1
  generalize H1 = H at hP hS ⊢
  have hP : va_P (dC, dI) vwCl [(h1, .inr (6, [.int 0, .ref (g 0), .int 0])), (h0, .inr (23, [.int 0, .ref h1, v1, v2, v3, v4, v5, v6, .int 0]))] H := hP
  have hD : va_D A [(h1, .inr (6, [.int 0, .ref (g 0), .int 0])), (h0, .inr (23, [.int 0, .ref h1, v1, v2, v3, v4, v5, v6, .int 0]))] := hD
  have hK : va_K (dC, dI) vwCl [] s := hK
  refine W.widen (k := 0) (n := 0) (Nat.le_of_ble_eq_true rfl) (Nat.le_of_ble_eq_true rfl) ?_
  refine lv_if_eq (tgt := 47) hx hb dX16_word_42 (by decide) (fun c4 => ?_) (fun c4 => absurd (by decide) c4)
  refine va_new (ci := 1) (fs := [.null, .int 0, .int 0, .int 0]) (C := RJ4) (T := TJ4) (N := 4) hx hb hta naJ4 tyJ4 tyJ4_ok hown (hta _ wm289) (hta _ wm136) (hta _ wm137) hK hP hD hS hA rfl (fun j hj => by rcases (show j = 0 ∨ j = 1 ∨ j = 2 ∨ j = 3 by omega) with rfl | rfl | rfl | rfl <;> rfl) (Nat.le_of_ble_eq_true rfl) (Nat.le_of_ble_eq_true rfl) dX16_word_47 (fun q5 H hP hD hS => ?_)
  have hP : va_P (dC, dI) vwCl [(h1, .inr (6, [.int 0, .ref (g 0), .int 0])), (h0, .inr (23, [.int 0, .ref h1, v1, v2, v3, v4, v5, v6, .int 0])), (q5, .inr (1, [.null, .int 0, .int 0, .int 0]))] H := hP
  have hD : va_D A [(h1, .inr (6, [.int 0, .ref (g 0), .int 0])), (h0, .inr (23, [.int 0, .ref h1, v1, v2, v3, v4, v5, v6, .int 0])), (q5, .inr (1, [.null, .int 0, .int 0, .int 0]))] := hD
  refine W.widen (k := 1) (n := 4) (Nat.le_of_ble_eq_true rfl) (Nat.le_of_ble_eq_true rfl) ?_
  refine lv_dup hx hb dX16_word_50 rfl ?_
  have hPc := hP.sub (ws' := [(q5, .inr (1, [.null, .int 0, .int 0, .int 0]))]) [2] rfl
  have hDc := hD.sub (ws' := [(q5, .inr (1, [.null, .int 0, .int 0, .int 0]))]) [2] (by decide) rfl
  have hKc := hK.sub (tys' := []) [] rfl
  have hFc := va_free (wc := [(q5, .inr (1, [.null, .int 0, .int 0, .int 0]))]) hD hS hA [2] rfl
  refine va_callv (va_runI (As := []) (rest := [.ref q5]) ⟨hx, hb, hml, hown, hts⟩ (kJ4_init_da8c8 l dC dI g H.size q5 .null (.int 0) (.int 0) (.int 0) ) (cwI 0 hts (ns_g0 wm147) rfl rfl rfl (hta _ wm137) (hta _ wm396) (hta _ wm185) rfl (by decide +kernel) ⟨Nat.le_of_ble_eq_true rfl, Nat.le_of_ble_eq_true rfl⟩) ⟨fun a U gg mk q => by obtain ⟨q0, q1, qP, qK, qD, qF⟩ := q; exact ⟨q0, q1, qP, va_K.moved (u := U) (U := U.calling gg mk a) (Vm.Alike.refl U.vm) qK, qD, ns_same qF⟩, fun U hU hW => ⟨rfl, by rw [hU], by rw [hU]; exact hPc, va_K.moved hW.alike hKc, hDc.weaken (fun _ _ _ _ => trivial), ns_call hF hS hFc hU hW⟩⟩ rfl rfl hl.1 rfl (lv_room (Nat.le_of_ble_eq_true rfl)) dX16_word_51 ⟨Nat.le_of_ble_eq_true rfl, Nat.le_of_ble_eq_true rfl⟩) hS (fun q _ h => hFc q h) hFc (fun u t H1 locs ht hvm hw hB hz1 hk1 hS => ?_)
  obtain ⟨q6, cy7, hP1, hK1, hD1⟩ := hB
  rw [ht] at hP1
  have hK1 := va_K.moved hvm.symm hK1
  obtain ⟨hP, hD⟩ := va_join (wr := [(h1, .inr (6, [.int 0, .ref (g 0), .int 0])), (h0, .inr (23, [.int 0, .ref h1, v1, v2, v3, v4, v5, v6, .int 0]))]) (w1 := [(q5, .inr (1, [.ref q6, .int 0, .int 0, .int 0])), (q6, .inl (cy7, 16, .inl (fun _ => 0)))]) hP hD [2] [0, 1] rfl rfl (by decide) (by decide) hk1 hFc hP1 hD1
  have hK := (hK.sub (tys' := []) [] rfl).app hK1
  generalize H1 = H at hP hS ⊢
  have hP : va_P (dC, dI) vwCl [(h1, .inr (6, [.int 0, .ref (g 0), .int 0])), (h0, .inr (23, [.int 0, .ref h1, v1, v2, v3, v4, v5, v6, .int 0])), (q5, .inr (1, [.ref q6, .int 0, .int 0, .int 0])), (q6, .inl (cy7, 16, .inl (fun _ => 0)))] H := hP
  have hD : va_D A [(h1, .inr (6, [.int 0, .ref (g 0), .int 0])), (h0, .inr (23, [.int 0, .ref h1, v1, v2, v3, v4, v5, v6, .int 0])), (q5, .inr (1, [.ref q6, .int 0, .int 0, .int 0])), (q6, .inl (cy7, 16, .inl (fun _ => 0)))] := hD
  have hK : va_K (dC, dI) vwCl [(cy7, .byte)] s := hK
  refine W.widen (k := 2) (n := 20) (Nat.le_of_ble_eq_true rfl) (Nat.le_of_ble_eq_true rfl) ?_
  refine lv_astore_n (lv' := [(3, .ref q5), (0, .ref h0), (1, .int x0), (2, .int 6)]) hx hb dX16_word_54 rfl hl (by decide) rfl (fun ls hl => ?_)
  refine lv_iconst (v := 0) hx hb dX16_word_55 (by decide) ?_
  refine lv_istore (lv' := [(4, .int 0), (3, .ref q5), (0, .ref h0), (1, .int x0), (2, .int 6)]) hx hb dX16_word_56 hl (by decide) rfl (fun ls hl => ?_)
  refine lv_iload hx hb dX16_word_58 (lv_at hl 0 rfl) ?_
  refine lv_iload_n hx hb dX16_word_60 rfl (lv_at hl 4 rfl) ?_
  refine lv_icmp_ge (tgt := 80) hx hb dX16_word_61 (by decide) (fun c8 => absurd c8 (by decide)) (fun c8 => ?_)
  refine lv_aload_n hx hb dX16_word_64 rfl (lv_at hl 1 rfl) ?_
  refine lv_bipush (v := 97) hx hb dX16_word_65 (by decide) ?_
  refine lv_iload_n hx hb dX16_word_67 rfl (lv_at hl 3 rfl) ?_
  refine lv_iadd hx hb dX16_word_68 ?_
  have r9 : (97 + x0).toInt = (97 : Int) + x0.toInt := fb_addI (show (-2147483648 : Int) ≤ (97 : Int) + x0.toInt by omega) (show (97 : Int) + x0.toInt < (2147483648 : Int) by omega)
  refine lv_i2c (v := (97 + x0)) hx hb dX16_word_69 (ns_i2c (show (0 : Int) ≤ (97 + x0).toInt by omega) (by omega)) ?_
  have hPc := hP.sub (ws' := [(q5, .inr (1, [.ref q6, .int 0, .int 0, .int 0])), (q6, .inl (cy7, 16, .inl (fun _ => 0)))]) [2, 3] rfl
  have hDc := hD.sub (ws' := [(q5, .inr (1, [.ref q6, .int 0, .int 0, .int 0])), (q6, .inl (cy7, 16, .inl (fun _ => 0)))]) [2, 3] (by decide) rfl
  have hKc := hK.sub (tys' := [(cy7, .byte)]) [0] rfl
  have hFc := va_free (wc := [(q5, .inr (1, [.ref q6, .int 0, .int 0, .int 0])), (q6, .inl (cy7, 16, .inl (fun _ => 0)))]) hD hS hA [2, 3] rfl
  refine va_callr (va_runV (As := [.int (97 + x0)]) (rest := []) ⟨hx, hb, hml, hown, hts⟩ (kJ4_append_cf468 l dC dI g H.size q5 (97 + x0) q6 (.int 0) cy7 (fun _ => 0) sb_fit0 ⟨by omega, by omega⟩) (cwV 1 hts (ns_gp (List.forall_mem_cons.mpr ⟨wm397, (List.forall_mem_cons.mpr ⟨wm398, (List.forall_mem_cons.mpr ⟨wm399, (List.forall_mem_cons.mpr ⟨wm137, (fun _ h9 => nomatch h9)⟩)⟩)⟩)⟩) wm310) rfl rfl rfl (by decide +kernel) ⟨Nat.le_of_ble_eq_true rfl, Nat.le_of_ble_eq_true rfl⟩) ⟨fun a U gg mk q => by obtain ⟨q0, q1, qP, qK, qD, qF⟩ := q; exact ⟨q0, q1, qP, va_K.moved (u := U) (U := U.calling gg mk a) (Vm.Alike.refl U.vm) qK, qD, ns_same qF⟩, va_recv hK hP (ci := 1) (q0 := 2) rfl rfl, fun U hU hW => ⟨rfl, by rw [hU], by rw [hU]; exact hPc, va_K.moved hW.alike hKc, hDc.weaken (fun _ _ _ _ => trivial), ns_call hF hS hFc hU hW⟩⟩ rfl rfl hl.1 rfl (lv_room (Nat.le_of_ble_eq_true rfl)) dX16_word_70 ⟨Nat.le_of_ble_eq_true rfl, Nat.le_of_ble_eq_true rfl⟩) hS (fun q _ h => hFc q h) hFc (fun u r9 t H1 locs ht hvm hw hB hz1 hk1 hS => ?_)
  obtain ⟨hr9, hP1, hK1, hD1⟩ := hB
  obtain rfl := hr9.symm
  rw [ht] at hP1
  have hK1 := va_K.moved hvm.symm hK1
  obtain ⟨hP, hD⟩ := va_join (wr := [(h1, .inr (6, [.int 0, .ref (g 0), .int 0])), (h0, .inr (23, [.int 0, .ref h1, v1, v2, v3, v4, v5, v6, .int 0]))]) (w1 := [(q6, .inl (cy7, 16, .inl (upd ((fun _ => 0)) 0 (vp_nar .byte (97 + x0).toInt8.toInt32)))), (q5, .inr (1, [.ref q6, .int 0, .int 0, .int 1]))]) hP hD [2, 3] [0, 1] rfl rfl (by decide) (by decide) hk1 hFc hP1 hD1
  have hK := (hK.sub (tys' := []) [] rfl).app hK1
  generalize H1 = H at hP hS ⊢
  have hP : va_P (dC, dI) vwCl [(h1, .inr (6, [.int 0, .ref (g 0), .int 0])), (h0, .inr (23, [.int 0, .ref h1, v1, v2, v3, v4, v5, v6, .int 0])), (q6, .inl (cy7, 16, .inl (upd ((fun _ => 0)) 0 (vp_nar .byte (97 + x0).toInt8.toInt32)))), (q5, .inr (1, [.ref q6, .int 0, .int 0, .int 1]))] H := hP
  have hD : va_D A [(h1, .inr (6, [.int 0, .ref (g 0), .int 0])), (h0, .inr (23, [.int 0, .ref h1, v1, v2, v3, v4, v5, v6, .int 0])), (q6, .inl (cy7, 16, .inl (upd ((fun _ => 0)) 0 (vp_nar .byte (97 + x0).toInt8.toInt32)))), (q5, .inr (1, [.ref q6, .int 0, .int 0, .int 1]))] := hD
  have hK : va_K (dC, dI) vwCl [(cy7, .byte)] s := hK
  refine W.widen (k := 2) (n := 20) (Nat.le_of_ble_eq_true rfl) (Nat.le_of_ble_eq_true rfl) ?_
  refine lv_pop hx hb dX16_word_73 rfl ?_
  refine lv_iinc (v := 1) (lv' := [(4, .int 1), (3, .ref q5), (0, .ref h0), (1, .int x0), (2, .int 6)]) hx hb dX16_word_74 hl (k := 0) rfl (by decide) (by decide) rfl (fun ls hl => ?_)
  refine lv_goto (tgt := 58) hx hb dX16_word_77 (by decide) ?_
  refine lv_iload hx hb dX16_word_58 (lv_at hl 0 rfl) ?_
  refine lv_iload_n hx hb dX16_word_60 rfl (lv_at hl 4 rfl) ?_
  refine lv_icmp_ge (tgt := 80) hx hb dX16_word_61 (by decide) (fun c10 => absurd c10 (by decide)) (fun c10 => ?_)
  refine lv_aload_n hx hb dX16_word_64 rfl (lv_at hl 1 rfl) ?_
  refine lv_bipush (v := 97) hx hb dX16_word_65 (by decide) ?_
  refine lv_iload_n hx hb dX16_word_67 rfl (lv_at hl 3 rfl) ?_
  refine lv_iadd hx hb dX16_word_68 ?_
  have r11 : (97 + x0).toInt = (97 : Int) + x0.toInt := fb_addI (show (-2147483648 : Int) ≤ (97 : Int) + x0.toInt by omega) (show (97 : Int) + x0.toInt < (2147483648 : Int) by omega)
  refine lv_i2c (v := (97 + x0)) hx hb dX16_word_69 (ns_i2c (show (0 : Int) ≤ (97 + x0).toInt by omega) (by omega)) ?_
  have hPc := hP.sub (ws' := [(q5, .inr (1, [.ref q6, .int 0, .int 0, .int 1])), (q6, .inl (cy7, 16, .inl (upd ((fun _ => 0)) 0 (vp_nar .byte (97 + x0).toInt8.toInt32))))]) [3, 2] rfl
  have hDc := hD.sub (ws' := [(q5, .inr (1, [.ref q6, .int 0, .int 0, .int 1])), (q6, .inl (cy7, 16, .inl (upd ((fun _ => 0)) 0 (vp_nar .byte (97 + x0).toInt8.toInt32))))]) [3, 2] (by decide) rfl
  have hKc := hK.sub (tys' := [(cy7, .byte)]) [0] rfl
  have hFc := va_free (wc := [(q5, .inr (1, [.ref q6, .int 0, .int 0, .int 1])), (q6, .inl (cy7, 16, .inl (upd ((fun _ => 0)) 0 (vp_nar .byte (97 + x0).toInt8.toInt32))))]) hD hS hA [3, 2] rfl
  refine va_callr (va_runV (As := [.int (97 + x0)]) (rest := []) ⟨hx, hb, hml, hown, hts⟩ (kJ4_append_cf468_2 l dC dI g H.size q5 (97 + x0) q6 (.int 0) cy7 (upd ((fun _ => 0)) 0 (vp_nar .byte (97 + x0).toInt8.toInt32)) (sb_fitU sb_fit0 (pk_fb _)) ⟨by omega, by omega⟩) (cwV 1 hts (ns_gp (List.forall_mem_cons.mpr ⟨wm397, (List.forall_mem_cons.mpr ⟨wm398, (List.forall_mem_cons.mpr ⟨wm399, (List.forall_mem_cons.mpr ⟨wm137, (fun _ h9 => nomatch h9)⟩)⟩)⟩)⟩) wm310) rfl rfl rfl (by decide +kernel) ⟨Nat.le_of_ble_eq_true rfl, Nat.le_of_ble_eq_true rfl⟩) ⟨fun a U gg mk q => by obtain ⟨q0, q1, qP, qK, qD, qF⟩ := q; exact ⟨q0, q1, qP, va_K.moved (u := U) (U := U.calling gg mk a) (Vm.Alike.refl U.vm) qK, qD, ns_same qF⟩, va_recv hK hP (ci := 1) (q0 := 3) rfl rfl, fun U hU hW => ⟨rfl, by rw [hU], by rw [hU]; exact hPc, va_K.moved hW.alike hKc, hDc.weaken (fun _ _ _ _ => trivial), ns_call hF hS hFc hU hW⟩⟩ rfl rfl hl.1 rfl (lv_room (Nat.le_of_ble_eq_true rfl)) dX16_word_70 ⟨Nat.le_of_ble_eq_true rfl, Nat.le_of_ble_eq_true rfl⟩) hS (fun q _ h => hFc q h) hFc (fun u r9 t H1 locs ht hvm hw hB hz1 hk1 hS => ?_)
  obtain ⟨hr9, hP1, hK1, hD1⟩ := hB
  obtain rfl := hr9.symm
  rw [ht] at hP1
  have hK1 := va_K.moved hvm.symm hK1
  obtain ⟨hP, hD⟩ := va_join (wr := [(h1, .inr (6, [.int 0, .ref (g 0), .int 0])), (h0, .inr (23, [.int 0, .ref h1, v1, v2, v3, v4, v5, v6, .int 0]))]) (w1 := [(q6, .inl (cy7, 16, .inl (upd ((upd ((fun _ => 0)) 0 (vp_nar .byte (97 + x0).toInt8.toInt32))) 1 (vp_nar .byte (97 + x0).toInt8.toInt32)))), (q5, .inr (1, [.ref q6, .int 0, .int 0, .int 2]))]) hP hD [3, 2] [0, 1] rfl rfl (by decide) (by decide) hk1 hFc hP1 hD1
  have hK := (hK.sub (tys' := []) [] rfl).app hK1
  generalize H1 = H at hP hS ⊢
  have hP : va_P (dC, dI) vwCl [(h1, .inr (6, [.int 0, .ref (g 0), .int 0])), (h0, .inr (23, [.int 0, .ref h1, v1, v2, v3, v4, v5, v6, .int 0])), (q6, .inl (cy7, 16, .inl (upd ((upd ((fun _ => 0)) 0 (vp_nar .byte (97 + x0).toInt8.toInt32))) 1 (vp_nar .byte (97 + x0).toInt8.toInt32)))), (q5, .inr (1, [.ref q6, .int 0, .int 0, .int 2]))] H := hP
  have hD : va_D A [(h1, .inr (6, [.int 0, .ref (g 0), .int 0])), (h0, .inr (23, [.int 0, .ref h1, v1, v2, v3, v4, v5, v6, .int 0])), (q6, .inl (cy7, 16, .inl (upd ((upd ((fun _ => 0)) 0 (vp_nar .byte (97 + x0).toInt8.toInt32))) 1 (vp_nar .byte (97 + x0).toInt8.toInt32)))), (q5, .inr (1, [.ref q6, .int 0, .int 0, .int 2]))] := hD
  have hK : va_K (dC, dI) vwCl [(cy7, .byte)] s := hK
  refine W.widen (k := 2) (n := 20) (Nat.le_of_ble_eq_true rfl) (Nat.le_of_ble_eq_true rfl) ?_
  refine lv_pop hx hb dX16_word_73 rfl ?_
  refine lv_iinc (v := 2) (lv' := [(4, .int 2), (3, .ref q5), (0, .ref h0), (1, .int x0), (2, .int 6)]) hx hb dX16_word_74 hl (k := 0) rfl (by decide) (by decide) rfl (fun ls hl => ?_)
  refine lv_goto (tgt := 58) hx hb dX16_word_77 (by decide) ?_
  refine lv_iload hx hb dX16_word_58 (lv_at hl 0 rfl) ?_
  refine lv_iload_n hx hb dX16_word_60 rfl (lv_at hl 4 rfl) ?_
  refine lv_icmp_ge (tgt := 80) hx hb dX16_word_61 (by decide) (fun c12 => absurd c12 (by decide)) (fun c12 => ?_)
  refine lv_aload_n hx hb dX16_word_64 rfl (lv_at hl 1 rfl) ?_
  refine lv_bipush (v := 97) hx hb dX16_word_65 (by decide) ?_
  refine lv_iload_n hx hb dX16_word_67 rfl (lv_at hl 3 rfl) ?_
  refine lv_iadd hx hb dX16_word_68 ?_
  have r13 : (97 + x0).toInt = (97 : Int) + x0.toInt := fb_addI (show (-2147483648 : Int) ≤ (97 : Int) + x0.toInt by omega) (show (97 : Int) + x0.toInt < (2147483648 : Int) by omega)
  refine lv_i2c (v := (97 + x0)) hx hb dX16_word_69 (ns_i2c (show (0 : Int) ≤ (97 + x0).toInt by omega) (by omega)) ?_
  have hPc := hP.sub (ws' := [(q5, .inr (1, [.ref q6, .int 0, .int 0, .int 2])), (q6, .inl (cy7, 16, .inl (upd ((upd ((fun _ => 0)) 0 (vp_nar .byte (97 + x0).toInt8.toInt32))) 1 (vp_nar .byte (97 + x0).toInt8.toInt32))))]) [3, 2] rfl
  have hDc := hD.sub (ws' := [(q5, .inr (1, [.ref q6, .int 0, .int 0, .int 2])), (q6, .inl (cy7, 16, .inl (upd ((upd ((fun _ => 0)) 0 (vp_nar .byte (97 + x0).toInt8.toInt32))) 1 (vp_nar .byte (97 + x0).toInt8.toInt32))))]) [3, 2] (by decide) rfl
  have hKc := hK.sub (tys' := [(cy7, .byte)]) [0] rfl
  have hFc := va_free (wc := [(q5, .inr (1, [.ref q6, .int 0, .int 0, .int 2])), (q6, .inl (cy7, 16, .inl (upd ((upd ((fun _ => 0)) 0 (vp_nar .byte (97 + x0).toInt8.toInt32))) 1 (vp_nar .byte (97 + x0).toInt8.toInt32))))]) hD hS hA [3, 2] rfl
  refine va_callr (va_runV (As := [.int (97 + x0)]) (rest := []) ⟨hx, hb, hml, hown, hts⟩ (kJ4_append_cf468_3 l dC dI g H.size q5 (97 + x0) q6 (.int 0) cy7 (upd ((upd ((fun _ => 0)) 0 (vp_nar .byte (97 + x0).toInt8.toInt32))) 1 (vp_nar .byte (97 + x0).toInt8.toInt32)) (sb_fitU (sb_fitU sb_fit0 (pk_fb _)) (pk_fb _)) ⟨by omega, by omega⟩) (cwV 1 hts (ns_gp (List.forall_mem_cons.mpr ⟨wm397, (List.forall_mem_cons.mpr ⟨wm398, (List.forall_mem_cons.mpr ⟨wm399, (List.forall_mem_cons.mpr ⟨wm137, (fun _ h9 => nomatch h9)⟩)⟩)⟩)⟩) wm310) rfl rfl rfl (by decide +kernel) ⟨Nat.le_of_ble_eq_true rfl, Nat.le_of_ble_eq_true rfl⟩) ⟨fun a U gg mk q => by obtain ⟨q0, q1, qP, qK, qD, qF⟩ := q; exact ⟨q0, q1, qP, va_K.moved (u := U) (U := U.calling gg mk a) (Vm.Alike.refl U.vm) qK, qD, ns_same qF⟩, va_recv hK hP (ci := 1) (q0 := 3) rfl rfl, fun U hU hW => ⟨rfl, by rw [hU], by rw [hU]; exact hPc, va_K.moved hW.alike hKc, hDc.weaken (fun _ _ _ _ => trivial), ns_call hF hS hFc hU hW⟩⟩ rfl rfl hl.1 rfl (lv_room (Nat.le_of_ble_eq_true rfl)) dX16_word_70 ⟨Nat.le_of_ble_eq_true rfl, Nat.le_of_ble_eq_true rfl⟩) hS (fun q _ h => hFc q h) hFc (fun u r9 t H1 locs ht hvm hw hB hz1 hk1 hS => ?_)
  obtain ⟨hr9, hP1, hK1, hD1⟩ := hB
  obtain rfl := hr9.symm
  rw [ht] at hP1
  have hK1 := va_K.moved hvm.symm hK1
  obtain ⟨hP, hD⟩ := va_join (wr := [(h1, .inr (6, [.int 0, .ref (g 0), .int 0])), (h0, .inr (23, [.int 0, .ref h1, v1, v2, v3, v4, v5, v6, .int 0]))]) (w1 := [(q6, .inl (cy7, 16, .inl (upd ((upd ((upd ((fun _ => 0)) 0 (vp_nar .byte (97 + x0).toInt8.toInt32))) 1 (vp_nar .byte (97 + x0).toInt8.toInt32))) 2 (vp_nar .byte (97 + x0).toInt8.toInt32)))), (q5, .inr (1, [.ref q6, .int 0, .int 0, .int 3]))]) hP hD [3, 2] [0, 1] rfl rfl (by decide) (by decide) hk1 hFc hP1 hD1
  have hK := (hK.sub (tys' := []) [] rfl).app hK1
  generalize H1 = H at hP hS ⊢
  have hP : va_P (dC, dI) vwCl [(h1, .inr (6, [.int 0, .ref (g 0), .int 0])), (h0, .inr (23, [.int 0, .ref h1, v1, v2, v3, v4, v5, v6, .int 0])), (q6, .inl (cy7, 16, .inl (upd ((upd ((upd ((fun _ => 0)) 0 (vp_nar .byte (97 + x0).toInt8.toInt32))) 1 (vp_nar .byte (97 + x0).toInt8.toInt32))) 2 (vp_nar .byte (97 + x0).toInt8.toInt32)))), (q5, .inr (1, [.ref q6, .int 0, .int 0, .int 3]))] H := hP
  have hD : va_D A [(h1, .inr (6, [.int 0, .ref (g 0), .int 0])), (h0, .inr (23, [.int 0, .ref h1, v1, v2, v3, v4, v5, v6, .int 0])), (q6, .inl (cy7, 16, .inl (upd ((upd ((upd ((fun _ => 0)) 0 (vp_nar .byte (97 + x0).toInt8.toInt32))) 1 (vp_nar .byte (97 + x0).toInt8.toInt32))) 2 (vp_nar .byte (97 + x0).toInt8.toInt32)))), (q5, .inr (1, [.ref q6, .int 0, .int 0, .int 3]))] := hD
  have hK : va_K (dC, dI) vwCl [(cy7, .byte)] s := hK
  refine W.widen (k := 2) (n := 20) (Nat.le_of_ble_eq_true rfl) (Nat.le_of_ble_eq_true rfl) ?_
  refine lv_pop hx hb dX16_word_73 rfl ?_
  refine lv_iinc (v := 3) (lv' := [(4, .int 3), (3, .ref q5), (0, .ref h0), (1, .int x0), (2, .int 6)]) hx hb dX16_word_74 hl (k := 0) rfl (by decide) (by decide) rfl (fun ls hl => ?_)
  refine lv_goto (tgt := 58) hx hb dX16_word_77 (by decide) ?_
  refine lv_iload hx hb dX16_word_58 (lv_at hl 0 rfl) ?_
  refine lv_iload_n hx hb dX16_word_60 rfl (lv_at hl 4 rfl) ?_
  refine lv_icmp_ge (tgt := 80) hx hb dX16_word_61 (by decide) (fun c14 => absurd c14 (by decide)) (fun c14 => ?_)
  refine lv_aload_n hx hb dX16_word_64 rfl (lv_at hl 1 rfl) ?_
  refine lv_bipush (v := 97) hx hb dX16_word_65 (by decide) ?_
  refine lv_iload_n hx hb dX16_word_67 rfl (lv_at hl 3 rfl) ?_
  refine lv_iadd hx hb dX16_word_68 ?_
  have r15 : (97 + x0).toInt = (97 : Int) + x0.toInt := fb_addI (show (-2147483648 : Int) ≤ (97 : Int) + x0.toInt by omega) (show (97 : Int) + x0.toInt < (2147483648 : Int) by omega)
  refine lv_i2c (v := (97 + x0)) hx hb dX16_word_69 (ns_i2c (show (0 : Int) ≤ (97 + x0).toInt by omega) (by omega)) ?_
  have hPc := hP.sub (ws' := [(q5, .inr (1, [.ref q6, .int 0, .int 0, .int 3])), (q6, .inl (cy7, 16, .inl (upd ((upd ((upd ((fun _ => 0)) 0 (vp_nar .byte (97 + x0).toInt8.toInt32))) 1 (vp_nar .byte (97 + x0).toInt8.toInt32))) 2 (vp_nar .byte (97 + x0).toInt8.toInt32))))]) [3, 2] rfl
  have hDc := hD.sub (ws' := [(q5, .inr (1, [.ref q6, .int 0, .int 0, .int 3])), (q6, .inl (cy7, 16, .inl (upd ((upd ((upd ((fun _ => 0)) 0 (vp_nar .byte (97 + x0).toInt8.toInt32))) 1 (vp_nar .byte (97 + x0).toInt8.toInt32))) 2 (vp_nar .byte (97 + x0).toInt8.toInt32))))]) [3, 2] (by decide) rfl
  have hKc := hK.sub (tys' := [(cy7, .byte)]) [0] rfl
  have hFc := va_free (wc := [(q5, .inr (1, [.ref q6, .int 0, .int 0, .int 3])), (q6, .inl (cy7, 16, .inl (upd ((upd ((upd ((fun _ => 0)) 0 (vp_nar .byte (97 + x0).toInt8.toInt32))) 1 (vp_nar .byte (97 + x0).toInt8.toInt32))) 2 (vp_nar .byte (97 + x0).toInt8.toInt32))))]) hD hS hA [3, 2] rfl
  refine va_callr (va_runV (As := [.int (97 + x0)]) (rest := []) ⟨hx, hb, hml, hown, hts⟩ (kJ4_append_cf468_4 l dC dI g H.size q5 (97 + x0) q6 (.int 0) cy7 (upd ((upd ((upd ((fun _ => 0)) 0 (vp_nar .byte (97 + x0).toInt8.toInt32))) 1 (vp_nar .byte (97 + x0).toInt8.toInt32))) 2 (vp_nar .byte (97 + x0).toInt8.toInt32)) (sb_fitU (sb_fitU (sb_fitU sb_fit0 (pk_fb _)) (pk_fb _)) (pk_fb _)) ⟨by omega, by omega⟩) (cwV 1 hts (ns_gp (List.forall_mem_cons.mpr ⟨wm397, (List.forall_mem_cons.mpr ⟨wm398, (List.forall_mem_cons.mpr ⟨wm399, (List.forall_mem_cons.mpr ⟨wm137, (fun _ h9 => nomatch h9)⟩)⟩)⟩)⟩) wm310) rfl rfl rfl (by decide +kernel) ⟨Nat.le_of_ble_eq_true rfl, Nat.le_of_ble_eq_true rfl⟩) ⟨fun a U gg mk q => by obtain ⟨q0, q1, qP, qK, qD, qF⟩ := q; exact ⟨q0, q1, qP, va_K.moved (u := U) (U := U.calling gg mk a) (Vm.Alike.refl U.vm) qK, qD, ns_same qF⟩, va_recv hK hP (ci := 1) (q0 := 3) rfl rfl, fun U hU hW => ⟨rfl, by rw [hU], by rw [hU]; exact hPc, va_K.moved hW.alike hKc, hDc.weaken (fun _ _ _ _ => trivial), ns_call hF hS hFc hU hW⟩⟩ rfl rfl hl.1 rfl (lv_room (Nat.le_of_ble_eq_true rfl)) dX16_word_70 ⟨Nat.le_of_ble_eq_true rfl, Nat.le_of_ble_eq_true rfl⟩) hS (fun q _ h => hFc q h) hFc (fun u r9 t H1 locs ht hvm hw hB hz1 hk1 hS => ?_)
  obtain ⟨hr9, hP1, hK1, hD1⟩ := hB
  obtain rfl := hr9.symm
  rw [ht] at hP1
  have hK1 := va_K.moved hvm.symm hK1
  obtain ⟨hP, hD⟩ := va_join (wr := [(h1, .inr (6, [.int 0, .ref (g 0), .int 0])), (h0, .inr (23, [.int 0, .ref h1, v1, v2, v3, v4, v5, v6, .int 0]))]) (w1 := [(q6, .inl (cy7, 16, .inl (upd ((upd ((upd ((upd ((fun _ => 0)) 0 (vp_nar .byte (97 + x0).toInt8.toInt32))) 1 (vp_nar .byte (97 + x0).toInt8.toInt32))) 2 (vp_nar .byte (97 + x0).toInt8.toInt32))) 3 (vp_nar .byte (97 + x0).toInt8.toInt32)))), (q5, .inr (1, [.ref q6, .int 0, .int 0, .int 4]))]) hP hD [3, 2] [0, 1] rfl rfl (by decide) (by decide) hk1 hFc hP1 hD1
  have hK := (hK.sub (tys' := []) [] rfl).app hK1
  generalize H1 = H at hP hS ⊢
  have hP : va_P (dC, dI) vwCl [(h1, .inr (6, [.int 0, .ref (g 0), .int 0])), (h0, .inr (23, [.int 0, .ref h1, v1, v2, v3, v4, v5, v6, .int 0])), (q6, .inl (cy7, 16, .inl (upd ((upd ((upd ((upd ((fun _ => 0)) 0 (vp_nar .byte (97 + x0).toInt8.toInt32))) 1 (vp_nar .byte (97 + x0).toInt8.toInt32))) 2 (vp_nar .byte (97 + x0).toInt8.toInt32))) 3 (vp_nar .byte (97 + x0).toInt8.toInt32)))), (q5, .inr (1, [.ref q6, .int 0, .int 0, .int 4]))] H := hP
  have hD : va_D A [(h1, .inr (6, [.int 0, .ref (g 0), .int 0])), (h0, .inr (23, [.int 0, .ref h1, v1, v2, v3, v4, v5, v6, .int 0])), (q6, .inl (cy7, 16, .inl (upd ((upd ((upd ((upd ((fun _ => 0)) 0 (vp_nar .byte (97 + x0).toInt8.toInt32))) 1 (vp_nar .byte (97 + x0).toInt8.toInt32))) 2 (vp_nar .byte (97 + x0).toInt8.toInt32))) 3 (vp_nar .byte (97 + x0).toInt8.toInt32)))), (q5, .inr (1, [.ref q6, .int 0, .int 0, .int 4]))] := hD
  have hK : va_K (dC, dI) vwCl [(cy7, .byte)] s := hK
  refine W.widen (k := 2) (n := 20) (Nat.le_of_ble_eq_true rfl) (Nat.le_of_ble_eq_true rfl) ?_
  refine lv_pop hx hb dX16_word_73 rfl ?_
  refine lv_iinc (v := 4) (lv' := [(4, .int 4), (3, .ref q5), (0, .ref h0), (1, .int x0), (2, .int 6)]) hx hb dX16_word_74 hl (k := 0) rfl (by decide) (by decide) rfl (fun ls hl => ?_)
  refine lv_goto (tgt := 58) hx hb dX16_word_77 (by decide) ?_
  refine lv_iload hx hb dX16_word_58 (lv_at hl 0 rfl) ?_
  refine lv_iload_n hx hb dX16_word_60 rfl (lv_at hl 4 rfl) ?_
  refine lv_icmp_ge (tgt := 80) hx hb dX16_word_61 (by decide) (fun c16 => absurd c16 (by decide)) (fun c16 => ?_)
  refine lv_aload_n hx hb dX16_word_64 rfl (lv_at hl 1 rfl) ?_
  refine lv_bipush (v := 97) hx hb dX16_word_65 (by decide) ?_
  refine lv_iload_n hx hb dX16_word_67 rfl (lv_at hl 3 rfl) ?_
  refine lv_iadd hx hb dX16_word_68 ?_
  have r17 : (97 + x0).toInt = (97 : Int) + x0.toInt := fb_addI (show (-2147483648 : Int) ≤ (97 : Int) + x0.toInt by omega) (show (97 : Int) + x0.toInt < (2147483648 : Int) by omega)
  refine lv_i2c (v := (97 + x0)) hx hb dX16_word_69 (ns_i2c (show (0 : Int) ≤ (97 + x0).toInt by omega) (by omega)) ?_
  have hPc := hP.sub (ws' := [(q5, .inr (1, [.ref q6, .int 0, .int 0, .int 4])), (q6, .inl (cy7, 16, .inl (upd ((upd ((upd ((upd ((fun _ => 0)) 0 (vp_nar .byte (97 + x0).toInt8.toInt32))) 1 (vp_nar .byte (97 + x0).toInt8.toInt32))) 2 (vp_nar .byte (97 + x0).toInt8.toInt32))) 3 (vp_nar .byte (97 + x0).toInt8.toInt32))))]) [3, 2] rfl
  have hDc := hD.sub (ws' := [(q5, .inr (1, [.ref q6, .int 0, .int 0, .int 4])), (q6, .inl (cy7, 16, .inl (upd ((upd ((upd ((upd ((fun _ => 0)) 0 (vp_nar .byte (97 + x0).toInt8.toInt32))) 1 (vp_nar .byte (97 + x0).toInt8.toInt32))) 2 (vp_nar .byte (97 + x0).toInt8.toInt32))) 3 (vp_nar .byte (97 + x0).toInt8.toInt32))))]) [3, 2] (by decide) rfl
  have hKc := hK.sub (tys' := [(cy7, .byte)]) [0] rfl
  have hFc := va_free (wc := [(q5, .inr (1, [.ref q6, .int 0, .int 0, .int 4])), (q6, .inl (cy7, 16, .inl (upd ((upd ((upd ((upd ((fun _ => 0)) 0 (vp_nar .byte (97 + x0).toInt8.toInt32))) 1 (vp_nar .byte (97 + x0).toInt8.toInt32))) 2 (vp_nar .byte (97 + x0).toInt8.toInt32))) 3 (vp_nar .byte (97 + x0).toInt8.toInt32))))]) hD hS hA [3, 2] rfl
  refine va_callr (va_runV (As := [.int (97 + x0)]) (rest := []) ⟨hx, hb, hml, hown, hts⟩ (kJ4_append_cf468_5 l dC dI g H.size q5 (97 + x0) q6 (.int 0) cy7 (upd ((upd ((upd ((upd ((fun _ => 0)) 0 (vp_nar .byte (97 + x0).toInt8.toInt32))) 1 (vp_nar .byte (97 + x0).toInt8.toInt32))) 2 (vp_nar .byte (97 + x0).toInt8.toInt32))) 3 (vp_nar .byte (97 + x0).toInt8.toInt32)) (sb_fitU (sb_fitU (sb_fitU (sb_fitU sb_fit0 (pk_fb _)) (pk_fb _)) (pk_fb _)) (pk_fb _)) ⟨by omega, by omega⟩) (cwV 1 hts (ns_gp (List.forall_mem_cons.mpr ⟨wm397, (List.forall_mem_cons.mpr ⟨wm398, (List.forall_mem_cons.mpr ⟨wm399, (List.forall_mem_cons.mpr ⟨wm137, (fun _ h9 => nomatch h9)⟩)⟩)⟩)⟩) wm310) rfl rfl rfl (by decide +kernel) ⟨Nat.le_of_ble_eq_true rfl, Nat.le_of_ble_eq_true rfl⟩) ⟨fun a U gg mk q => by obtain ⟨q0, q1, qP, qK, qD, qF⟩ := q; exact ⟨q0, q1, qP, va_K.moved (u := U) (U := U.calling gg mk a) (Vm.Alike.refl U.vm) qK, qD, ns_same qF⟩, va_recv hK hP (ci := 1) (q0 := 3) rfl rfl, fun U hU hW => ⟨rfl, by rw [hU], by rw [hU]; exact hPc, va_K.moved hW.alike hKc, hDc.weaken (fun _ _ _ _ => trivial), ns_call hF hS hFc hU hW⟩⟩ rfl rfl hl.1 rfl (lv_room (Nat.le_of_ble_eq_true rfl)) dX16_word_70 ⟨Nat.le_of_ble_eq_true rfl, Nat.le_of_ble_eq_true rfl⟩) hS (fun q _ h => hFc q h) hFc (fun u r9 t H1 locs ht hvm hw hB hz1 hk1 hS => ?_)
  obtain ⟨hr9, hP1, hK1, hD1⟩ := hB
  obtain rfl := hr9.symm
  rw [ht] at hP1
  have hK1 := va_K.moved hvm.symm hK1
  obtain ⟨hP, hD⟩ := va_join (wr := [(h1, .inr (6, [.int 0, .ref (g 0), .int 0])), (h0, .inr (23, [.int 0, .ref h1, v1, v2, v3, v4, v5, v6, .int 0]))]) (w1 := [(q6, .inl (cy7, 16, .inl (upd ((upd ((upd ((upd ((upd ((fun _ => 0)) 0 (vp_nar .byte (97 + x0).toInt8.toInt32))) 1 (vp_nar .byte (97 + x0).toInt8.toInt32))) 2 (vp_nar .byte (97 + x0).toInt8.toInt32))) 3 (vp_nar .byte (97 + x0).toInt8.toInt32))) 4 (vp_nar .byte (97 + x0).toInt8.toInt32)))), (q5, .inr (1, [.ref q6, .int 0, .int 0, .int 5]))]) hP hD [3, 2] [0, 1] rfl rfl (by decide) (by decide) hk1 hFc hP1 hD1
  have hK := (hK.sub (tys' := []) [] rfl).app hK1
  generalize H1 = H at hP hS ⊢
  have hP : va_P (dC, dI) vwCl [(h1, .inr (6, [.int 0, .ref (g 0), .int 0])), (h0, .inr (23, [.int 0, .ref h1, v1, v2, v3, v4, v5, v6, .int 0])), (q6, .inl (cy7, 16, .inl (upd ((upd ((upd ((upd ((upd ((fun _ => 0)) 0 (vp_nar .byte (97 + x0).toInt8.toInt32))) 1 (vp_nar .byte (97 + x0).toInt8.toInt32))) 2 (vp_nar .byte (97 + x0).toInt8.toInt32))) 3 (vp_nar .byte (97 + x0).toInt8.toInt32))) 4 (vp_nar .byte (97 + x0).toInt8.toInt32)))), (q5, .inr (1, [.ref q6, .int 0, .int 0, .int 5]))] H := hP
  have hD : va_D A [(h1, .inr (6, [.int 0, .ref (g 0), .int 0])), (h0, .inr (23, [.int 0, .ref h1, v1, v2, v3, v4, v5, v6, .int 0])), (q6, .inl (cy7, 16, .inl (upd ((upd ((upd ((upd ((upd ((fun _ => 0)) 0 (vp_nar .byte (97 + x0).toInt8.toInt32))) 1 (vp_nar .byte (97 + x0).toInt8.toInt32))) 2 (vp_nar .byte (97 + x0).toInt8.toInt32))) 3 (vp_nar .byte (97 + x0).toInt8.toInt32))) 4 (vp_nar .byte (97 + x0).toInt8.toInt32)))), (q5, .inr (1, [.ref q6, .int 0, .int 0, .int 5]))] := hD
  have hK : va_K (dC, dI) vwCl [(cy7, .byte)] s := hK
  refine W.widen (k := 2) (n := 20) (Nat.le_of_ble_eq_true rfl) (Nat.le_of_ble_eq_true rfl) ?_
  refine lv_pop hx hb dX16_word_73 rfl ?_
  refine lv_iinc (v := 5) (lv' := [(4, .int 5), (3, .ref q5), (0, .ref h0), (1, .int x0), (2, .int 6)]) hx hb dX16_word_74 hl (k := 0) rfl (by decide) (by decide) rfl (fun ls hl => ?_)
  refine lv_goto (tgt := 58) hx hb dX16_word_77 (by decide) ?_
  refine lv_iload hx hb dX16_word_58 (lv_at hl 0 rfl) ?_
  refine lv_iload_n hx hb dX16_word_60 rfl (lv_at hl 4 rfl) ?_
  refine lv_icmp_ge (tgt := 80) hx hb dX16_word_61 (by decide) (fun c18 => absurd c18 (by decide)) (fun c18 => ?_)
  refine lv_aload_n hx hb dX16_word_64 rfl (lv_at hl 1 rfl) ?_
  refine lv_bipush (v := 97) hx hb dX16_word_65 (by decide) ?_
  refine lv_iload_n hx hb dX16_word_67 rfl (lv_at hl 3 rfl) ?_
  refine lv_iadd hx hb dX16_word_68 ?_
  have r19 : (97 + x0).toInt = (97 : Int) + x0.toInt := fb_addI (show (-2147483648 : Int) ≤ (97 : Int) + x0.toInt by omega) (show (97 : Int) + x0.toInt < (2147483648 : Int) by omega)
  refine lv_i2c (v := (97 + x0)) hx hb dX16_word_69 (ns_i2c (show (0 : Int) ≤ (97 + x0).toInt by omega) (by omega)) ?_
  have hPc := hP.sub (ws' := [(q5, .inr (1, [.ref q6, .int 0, .int 0, .int 5])), (q6, .inl (cy7, 16, .inl (upd ((upd ((upd ((upd ((upd ((fun _ => 0)) 0 (vp_nar .byte (97 + x0).toInt8.toInt32))) 1 (vp_nar .byte (97 + x0).toInt8.toInt32))) 2 (vp_nar .byte (97 + x0).toInt8.toInt32))) 3 (vp_nar .byte (97 + x0).toInt8.toInt32))) 4 (vp_nar .byte (97 + x0).toInt8.toInt32))))]) [3, 2] rfl
  have hDc := hD.sub (ws' := [(q5, .inr (1, [.ref q6, .int 0, .int 0, .int 5])), (q6, .inl (cy7, 16, .inl (upd ((upd ((upd ((upd ((upd ((fun _ => 0)) 0 (vp_nar .byte (97 + x0).toInt8.toInt32))) 1 (vp_nar .byte (97 + x0).toInt8.toInt32))) 2 (vp_nar .byte (97 + x0).toInt8.toInt32))) 3 (vp_nar .byte (97 + x0).toInt8.toInt32))) 4 (vp_nar .byte (97 + x0).toInt8.toInt32))))]) [3, 2] (by decide) rfl
  have hKc := hK.sub (tys' := [(cy7, .byte)]) [0] rfl
  have hFc := va_free (wc := [(q5, .inr (1, [.ref q6, .int 0, .int 0, .int 5])), (q6, .inl (cy7, 16, .inl (upd ((upd ((upd ((upd ((upd ((fun _ => 0)) 0 (vp_nar .byte (97 + x0).toInt8.toInt32))) 1 (vp_nar .byte (97 + x0).toInt8.toInt32))) 2 (vp_nar .byte (97 + x0).toInt8.toInt32))) 3 (vp_nar .byte (97 + x0).toInt8.toInt32))) 4 (vp_nar .byte (97 + x0).toInt8.toInt32))))]) hD hS hA [3, 2] rfl
  refine va_callr (va_runV (As := [.int (97 + x0)]) (rest := []) ⟨hx, hb, hml, hown, hts⟩ (kJ4_append_cf468_6 l dC dI g H.size q5 (97 + x0) q6 (.int 0) cy7 (upd ((upd ((upd ((upd ((upd ((fun _ => 0)) 0 (vp_nar .byte (97 + x0).toInt8.toInt32))) 1 (vp_nar .byte (97 + x0).toInt8.toInt32))) 2 (vp_nar .byte (97 + x0).toInt8.toInt32))) 3 (vp_nar .byte (97 + x0).toInt8.toInt32))) 4 (vp_nar .byte (97 + x0).toInt8.toInt32)) (sb_fitU (sb_fitU (sb_fitU (sb_fitU (sb_fitU sb_fit0 (pk_fb _)) (pk_fb _)) (pk_fb _)) (pk_fb _)) (pk_fb _)) ⟨by omega, by omega⟩) (cwV 1 hts (ns_gp (List.forall_mem_cons.mpr ⟨wm397, (List.forall_mem_cons.mpr ⟨wm398, (List.forall_mem_cons.mpr ⟨wm399, (List.forall_mem_cons.mpr ⟨wm137, (fun _ h9 => nomatch h9)⟩)⟩)⟩)⟩) wm310) rfl rfl rfl (by decide +kernel) ⟨Nat.le_of_ble_eq_true rfl, Nat.le_of_ble_eq_true rfl⟩) ⟨fun a U gg mk q => by obtain ⟨q0, q1, qP, qK, qD, qF⟩ := q; exact ⟨q0, q1, qP, va_K.moved (u := U) (U := U.calling gg mk a) (Vm.Alike.refl U.vm) qK, qD, ns_same qF⟩, va_recv hK hP (ci := 1) (q0 := 3) rfl rfl, fun U hU hW => ⟨rfl, by rw [hU], by rw [hU]; exact hPc, va_K.moved hW.alike hKc, hDc.weaken (fun _ _ _ _ => trivial), ns_call hF hS hFc hU hW⟩⟩ rfl rfl hl.1 rfl (lv_room (Nat.le_of_ble_eq_true rfl)) dX16_word_70 ⟨Nat.le_of_ble_eq_true rfl, Nat.le_of_ble_eq_true rfl⟩) hS (fun q _ h => hFc q h) hFc (fun u r9 t H1 locs ht hvm hw hB hz1 hk1 hS => ?_)
  obtain ⟨hr9, hP1, hK1, hD1⟩ := hB
  obtain rfl := hr9.symm
  rw [ht] at hP1
  have hK1 := va_K.moved hvm.symm hK1
  obtain ⟨hP, hD⟩ := va_join (wr := [(h1, .inr (6, [.int 0, .ref (g 0), .int 0])), (h0, .inr (23, [.int 0, .ref h1, v1, v2, v3, v4, v5, v6, .int 0]))]) (w1 := [(q6, .inl (cy7, 16, .inl (upd ((upd ((upd ((upd ((upd ((upd ((fun _ => 0)) 0 (vp_nar .byte (97 + x0).toInt8.toInt32))) 1 (vp_nar .byte (97 + x0).toInt8.toInt32))) 2 (vp_nar .byte (97 + x0).toInt8.toInt32))) 3 (vp_nar .byte (97 + x0).toInt8.toInt32))) 4 (vp_nar .byte (97 + x0).toInt8.toInt32))) 5 (vp_nar .byte (97 + x0).toInt8.toInt32)))), (q5, .inr (1, [.ref q6, .int 0, .int 0, .int 6]))]) hP hD [3, 2] [0, 1] rfl rfl (by decide) (by decide) hk1 hFc hP1 hD1
  have hK := (hK.sub (tys' := []) [] rfl).app hK1
  generalize H1 = H at hP hS ⊢
  have hP : va_P (dC, dI) vwCl [(h1, .inr (6, [.int 0, .ref (g 0), .int 0])), (h0, .inr (23, [.int 0, .ref h1, v1, v2, v3, v4, v5, v6, .int 0])), (q6, .inl (cy7, 16, .inl (upd ((upd ((upd ((upd ((upd ((upd ((fun _ => 0)) 0 (vp_nar .byte (97 + x0).toInt8.toInt32))) 1 (vp_nar .byte (97 + x0).toInt8.toInt32))) 2 (vp_nar .byte (97 + x0).toInt8.toInt32))) 3 (vp_nar .byte (97 + x0).toInt8.toInt32))) 4 (vp_nar .byte (97 + x0).toInt8.toInt32))) 5 (vp_nar .byte (97 + x0).toInt8.toInt32)))), (q5, .inr (1, [.ref q6, .int 0, .int 0, .int 6]))] H := hP
  have hD : va_D A [(h1, .inr (6, [.int 0, .ref (g 0), .int 0])), (h0, .inr (23, [.int 0, .ref h1, v1, v2, v3, v4, v5, v6, .int 0])), (q6, .inl (cy7, 16, .inl (upd ((upd ((upd ((upd ((upd ((upd ((fun _ => 0)) 0 (vp_nar .byte (97 + x0).toInt8.toInt32))) 1 (vp_nar .byte (97 + x0).toInt8.toInt32))) 2 (vp_nar .byte (97 + x0).toInt8.toInt32))) 3 (vp_nar .byte (97 + x0).toInt8.toInt32))) 4 (vp_nar .byte (97 + x0).toInt8.toInt32))) 5 (vp_nar .byte (97 + x0).toInt8.toInt32)))), (q5, .inr (1, [.ref q6, .int 0, .int 0, .int 6]))] := hD
  have hK : va_K (dC, dI) vwCl [(cy7, .byte)] s := hK
  refine W.widen (k := 2) (n := 20) (Nat.le_of_ble_eq_true rfl) (Nat.le_of_ble_eq_true rfl) ?_
  refine lv_pop hx hb dX16_word_73 rfl ?_
  refine lv_iinc (v := 6) (lv' := [(4, .int 6), (3, .ref q5), (0, .ref h0), (1, .int x0), (2, .int 6)]) hx hb dX16_word_74 hl (k := 0) rfl (by decide) (by decide) rfl (fun ls hl => ?_)
  refine lv_goto (tgt := 58) hx hb dX16_word_77 (by decide) ?_
  refine lv_iload hx hb dX16_word_58 (lv_at hl 0 rfl) ?_
  refine lv_iload_n hx hb dX16_word_60 rfl (lv_at hl 4 rfl) ?_
  refine lv_icmp_ge (tgt := 80) hx hb dX16_word_61 (by decide) (fun c20 => ?_) (fun c20 => absurd (by decide) c20)
  refine lv_aload_n hx hb dX16_word_80 rfl (lv_at hl 2 rfl) ?_
  refine va_new (ci := 18) (fs := [.int 0, .null, .int 0, .null]) (C := RX11) (T := TX11) (N := 4) hx hb hta naX11 tyX11 tyX11_ok hown (hta _ wm311) (hta _ wm312) (hta _ wm313) hK hP hD hS hA rfl (fun j hj => by rcases (show j = 0 ∨ j = 1 ∨ j = 2 ∨ j = 3 by omega) with rfl | rfl | rfl | rfl <;> rfl) (Nat.le_of_ble_eq_true rfl) (Nat.le_of_ble_eq_true rfl) dX16_word_81 (fun q21 H hP hD hS => ?_)
  have hP : va_P (dC, dI) vwCl [(h1, .inr (6, [.int 0, .ref (g 0), .int 0])), (h0, .inr (23, [.int 0, .ref h1, v1, v2, v3, v4, v5, v6, .int 0])), (q6, .inl (cy7, 16, .inl (upd ((upd ((upd ((upd ((upd ((upd ((fun _ => 0)) 0 (vp_nar .byte (97 + x0).toInt8.toInt32))) 1 (vp_nar .byte (97 + x0).toInt8.toInt32))) 2 (vp_nar .byte (97 + x0).toInt8.toInt32))) 3 (vp_nar .byte (97 + x0).toInt8.toInt32))) 4 (vp_nar .byte (97 + x0).toInt8.toInt32))) 5 (vp_nar .byte (97 + x0).toInt8.toInt32)))), (q5, .inr (1, [.ref q6, .int 0, .int 0, .int 6])), (q21, .inr (18, [.int 0, .null, .int 0, .null]))] H := hP
  have hD : va_D A [(h1, .inr (6, [.int 0, .ref (g 0), .int 0])), (h0, .inr (23, [.int 0, .ref h1, v1, v2, v3, v4, v5, v6, .int 0])), (q6, .inl (cy7, 16, .inl (upd ((upd ((upd ((upd ((upd ((upd ((fun _ => 0)) 0 (vp_nar .byte (97 + x0).toInt8.toInt32))) 1 (vp_nar .byte (97 + x0).toInt8.toInt32))) 2 (vp_nar .byte (97 + x0).toInt8.toInt32))) 3 (vp_nar .byte (97 + x0).toInt8.toInt32))) 4 (vp_nar .byte (97 + x0).toInt8.toInt32))) 5 (vp_nar .byte (97 + x0).toInt8.toInt32)))), (q5, .inr (1, [.ref q6, .int 0, .int 0, .int 6])), (q21, .inr (18, [.int 0, .null, .int 0, .null]))] := hD
  refine W.widen (k := 3) (n := 24) (Nat.le_of_ble_eq_true rfl) (Nat.le_of_ble_eq_true rfl) ?_
  refine lv_dup hx hb dX16_word_84 rfl ?_
  refine lv_iconst (v := 0) hx hb dX16_word_85 (by decide) ?_
  refine lv_aload_n hx hb dX16_word_86 rfl (lv_at hl 1 rfl) ?_
  have hPc := hP.sub (ws' := [(q5, .inr (1, [.ref q6, .int 0, .int 0, .int 6])), (q6, .inl (cy7, 16, .inl (upd ((upd ((upd ((upd ((upd ((upd ((fun _ => 0)) 0 (vp_nar .byte (97 + x0).toInt8.toInt32))) 1 (vp_nar .byte (97 + x0).toInt8.toInt32))) 2 (vp_nar .byte (97 + x0).toInt8.toInt32))) 3 (vp_nar .byte (97 + x0).toInt8.toInt32))) 4 (vp_nar .byte (97 + x0).toInt8.toInt32))) 5 (vp_nar .byte (97 + x0).toInt8.toInt32))))]) [3, 2] rfl
  have hDc := hD.sub (ws' := [(q5, .inr (1, [.ref q6, .int 0, .int 0, .int 6])), (q6, .inl (cy7, 16, .inl (upd ((upd ((upd ((upd ((upd ((upd ((fun _ => 0)) 0 (vp_nar .byte (97 + x0).toInt8.toInt32))) 1 (vp_nar .byte (97 + x0).toInt8.toInt32))) 2 (vp_nar .byte (97 + x0).toInt8.toInt32))) 3 (vp_nar .byte (97 + x0).toInt8.toInt32))) 4 (vp_nar .byte (97 + x0).toInt8.toInt32))) 5 (vp_nar .byte (97 + x0).toInt8.toInt32))))]) [3, 2] (by decide) rfl
  have hKc := hK.sub (tys' := [(cy7, .byte)]) [0] rfl
  have hFc := va_free (wc := [(q5, .inr (1, [.ref q6, .int 0, .int 0, .int 6])), (q6, .inl (cy7, 16, .inl (upd ((upd ((upd ((upd ((upd ((upd ((fun _ => 0)) 0 (vp_nar .byte (97 + x0).toInt8.toInt32))) 1 (vp_nar .byte (97 + x0).toInt8.toInt32))) 2 (vp_nar .byte (97 + x0).toInt8.toInt32))) 3 (vp_nar .byte (97 + x0).toInt8.toInt32))) 4 (vp_nar .byte (97 + x0).toInt8.toInt32))) 5 (vp_nar .byte (97 + x0).toInt8.toInt32))))]) hD hS hA [3, 2] rfl
  refine va_callr (va_runV (As := []) (rest := [.int 0, .ref q21, .ref q21, .ref h0]) ⟨hx, hb, hml, hown, hts⟩ (kJ4_toString_0e30d_6 l dC dI g H.size q5 q6 (.int 0) cy7 (upd ((upd ((upd ((upd ((upd ((upd ((fun _ => 0)) 0 (vp_nar .byte (97 + x0).toInt8.toInt32))) 1 (vp_nar .byte (97 + x0).toInt8.toInt32))) 2 (vp_nar .byte (97 + x0).toInt8.toInt32))) 3 (vp_nar .byte (97 + x0).toInt8.toInt32))) 4 (vp_nar .byte (97 + x0).toInt8.toInt32))) 5 (vp_nar .byte (97 + x0).toInt8.toInt32)) (sb_fitU (sb_fitU (sb_fitU (sb_fitU (sb_fitU (sb_fitU sb_fit0 (pk_fb _)) (pk_fb _)) (pk_fb _)) (pk_fb _)) (pk_fb _)) (pk_fb _)) ) (cwV 0 hts (ns_gp (List.forall_mem_cons.mpr ⟨wm400, (List.forall_mem_cons.mpr ⟨wm401, (List.forall_mem_cons.mpr ⟨wm402, (List.forall_mem_cons.mpr ⟨wm137, (fun _ h9 => nomatch h9)⟩)⟩)⟩)⟩) wm360) rfl rfl rfl (by decide +kernel) ⟨Nat.le_of_ble_eq_true rfl, Nat.le_of_ble_eq_true rfl⟩) ⟨fun a U gg mk q => by obtain ⟨q0, q1, qP, qK, qD, qF⟩ := q; exact ⟨q0, q1, qP, va_K.moved (u := U) (U := U.calling gg mk a) (Vm.Alike.refl U.vm) qK, qD, ns_same qF⟩, va_recv hK hP (ci := 1) (q0 := 3) rfl rfl, fun U hU hW => ⟨rfl, by rw [hU], by rw [hU]; exact hPc, va_K.moved hW.alike hKc, hDc.weaken (fun _ _ _ _ => trivial), ns_call hF hS hFc hU hW⟩⟩ rfl rfl hl.1 rfl (lv_room (Nat.le_of_ble_eq_true rfl)) dX16_word_87 ⟨Nat.le_of_ble_eq_true rfl, Nat.le_of_ble_eq_true rfl⟩) hS (fun q _ h => hFc q h) hFc (fun u r9 t H1 locs ht hvm hw hB hz1 hk1 hS => ?_)
  obtain ⟨q22, q23, cy24, hr9, hP1, hK1, hD1⟩ := hB
  obtain rfl := hr9.symm
  rw [ht] at hP1
  have hK1 := va_K.moved hvm.symm hK1
  obtain ⟨hP, hD⟩ := va_join (wr := [(h1, .inr (6, [.int 0, .ref (g 0), .int 0])), (h0, .inr (23, [.int 0, .ref h1, v1, v2, v3, v4, v5, v6, .int 0])), (q21, .inr (18, [.int 0, .null, .int 0, .null]))]) (w1 := [(q22, .inr (0, [.ref q23, .int 0, .int 0, .int 0])), (q5, .inr (1, [.ref q6, .int 0, .int 0, .int 6])), (q6, .inl (cy7, 16, .inl (upd ((upd ((upd ((upd ((upd ((upd ((fun _ => 0)) 0 (vp_nar .byte (97 + x0).toInt8.toInt32))) 1 (vp_nar .byte (97 + x0).toInt8.toInt32))) 2 (vp_nar .byte (97 + x0).toInt8.toInt32))) 3 (vp_nar .byte (97 + x0).toInt8.toInt32))) 4 (vp_nar .byte (97 + x0).toInt8.toInt32))) 5 (vp_nar .byte (97 + x0).toInt8.toInt32)))), (q23, .inl (cy24, 6, .inl (va_cpy ((upd ((upd ((upd ((upd ((upd ((upd ((fun _ => 0)) 0 (vp_nar .byte (97 + x0).toInt8.toInt32))) 1 (vp_nar .byte (97 + x0).toInt8.toInt32))) 2 (vp_nar .byte (97 + x0).toInt8.toInt32))) 3 (vp_nar .byte (97 + x0).toInt8.toInt32))) 4 (vp_nar .byte (97 + x0).toInt8.toInt32))) 5 (vp_nar .byte (97 + x0).toInt8.toInt32))) (fun _ => 0) 0 0 6)))]) hP hD [3, 2] [0, 1, 4] rfl rfl (by decide) (by decide) hk1 hFc hP1 hD1
  have hK := (hK.sub (tys' := []) [] rfl).app hK1
  generalize H1 = H at hP hS ⊢
  have hP : va_P (dC, dI) vwCl [(h1, .inr (6, [.int 0, .ref (g 0), .int 0])), (h0, .inr (23, [.int 0, .ref h1, v1, v2, v3, v4, v5, v6, .int 0])), (q21, .inr (18, [.int 0, .null, .int 0, .null])), (q22, .inr (0, [.ref q23, .int 0, .int 0, .int 0])), (q5, .inr (1, [.ref q6, .int 0, .int 0, .int 6])), (q6, .inl (cy7, 16, .inl (upd ((upd ((upd ((upd ((upd ((upd ((fun _ => 0)) 0 (vp_nar .byte (97 + x0).toInt8.toInt32))) 1 (vp_nar .byte (97 + x0).toInt8.toInt32))) 2 (vp_nar .byte (97 + x0).toInt8.toInt32))) 3 (vp_nar .byte (97 + x0).toInt8.toInt32))) 4 (vp_nar .byte (97 + x0).toInt8.toInt32))) 5 (vp_nar .byte (97 + x0).toInt8.toInt32)))), (q23, .inl (cy24, 6, .inl (va_cpy ((upd ((upd ((upd ((upd ((upd ((upd ((fun _ => 0)) 0 (vp_nar .byte (97 + x0).toInt8.toInt32))) 1 (vp_nar .byte (97 + x0).toInt8.toInt32))) 2 (vp_nar .byte (97 + x0).toInt8.toInt32))) 3 (vp_nar .byte (97 + x0).toInt8.toInt32))) 4 (vp_nar .byte (97 + x0).toInt8.toInt32))) 5 (vp_nar .byte (97 + x0).toInt8.toInt32))) (fun _ => 0) 0 0 6)))] H := hP
  have hD : va_D A [(h1, .inr (6, [.int 0, .ref (g 0), .int 0])), (h0, .inr (23, [.int 0, .ref h1, v1, v2, v3, v4, v5, v6, .int 0])), (q21, .inr (18, [.int 0, .null, .int 0, .null])), (q22, .inr (0, [.ref q23, .int 0, .int 0, .int 0])), (q5, .inr (1, [.ref q6, .int 0, .int 0, .int 6])), (q6, .inl (cy7, 16, .inl (upd ((upd ((upd ((upd ((upd ((upd ((fun _ => 0)) 0 (vp_nar .byte (97 + x0).toInt8.toInt32))) 1 (vp_nar .byte (97 + x0).toInt8.toInt32))) 2 (vp_nar .byte (97 + x0).toInt8.toInt32))) 3 (vp_nar .byte (97 + x0).toInt8.toInt32))) 4 (vp_nar .byte (97 + x0).toInt8.toInt32))) 5 (vp_nar .byte (97 + x0).toInt8.toInt32)))), (q23, .inl (cy24, 6, .inl (va_cpy ((upd ((upd ((upd ((upd ((upd ((upd ((fun _ => 0)) 0 (vp_nar .byte (97 + x0).toInt8.toInt32))) 1 (vp_nar .byte (97 + x0).toInt8.toInt32))) 2 (vp_nar .byte (97 + x0).toInt8.toInt32))) 3 (vp_nar .byte (97 + x0).toInt8.toInt32))) 4 (vp_nar .byte (97 + x0).toInt8.toInt32))) 5 (vp_nar .byte (97 + x0).toInt8.toInt32))) (fun _ => 0) 0 0 6)))] := hD
  have hK : va_K (dC, dI) vwCl [(cy7, .byte), (cy24, .byte)] s := hK
  refine W.widen (k := 5) (n := 34) (Nat.le_of_ble_eq_true rfl) (Nat.le_of_ble_eq_true rfl) ?_
  refine lv_iconst (v := 0) hx hb dX16_word_90 (by decide) ?_
  have hPc := hP.sub (ws' := [(q21, .inr (18, [.int 0, .null, .int 0, .null]))]) [2] rfl
  have hDc := hD.sub (ws' := [(q21, .inr (18, [.int 0, .null, .int 0, .null]))]) [2] (by decide) rfl
  have hKc := hK.sub (tys' := []) [] rfl
  have hFc := va_free (wc := [(q21, .inr (18, [.int 0, .null, .int 0, .null]))]) hD hS hA [2] rfl
  refine va_callv (va_runI (As := [.int 0, .ref q22, .int 0]) (rest := [.ref q21, .ref h0]) ⟨hx, hb, hml, hown, hts⟩ (kX11_init l dC dI g H.size q21 q22 (.int 0) .null (.int 0) .null ) (cwI 3 hts (ns_g0 wm368) rfl rfl rfl (hta _ wm313) (hta _ wm403) (hta _ wm404) rfl (by decide +kernel) ⟨Nat.le_of_ble_eq_true rfl, Nat.le_of_ble_eq_true rfl⟩) ⟨fun a U gg mk q => by obtain ⟨q0, q1, qP, qK, qD, qF⟩ := q; exact ⟨q0, q1, qP, va_K.moved (u := U) (U := U.calling gg mk a) (Vm.Alike.refl U.vm) qK, qD, ns_same qF⟩, fun U hU hW => ⟨rfl, by rw [hU], by rw [hU]; exact hPc, va_K.moved hW.alike hKc, hDc.weaken (fun _ _ _ _ => trivial), ns_call hF hS hFc hU hW⟩⟩ rfl rfl hl.1 rfl (lv_room (Nat.le_of_ble_eq_true rfl)) dX16_word_91 ⟨Nat.le_of_ble_eq_true rfl, Nat.le_of_ble_eq_true rfl⟩) hS (fun q _ h => hFc q h) hFc (fun u t H1 locs ht hvm hw hB hz1 hk1 hS => ?_)
  obtain ⟨q25, hP1, hK1, hD1⟩ := hB
  rw [ht] at hP1
  have hK1 := va_K.moved hvm.symm hK1
  obtain ⟨hP, hD⟩ := va_join (wr := [(h1, .inr (6, [.int 0, .ref (g 0), .int 0])), (h0, .inr (23, [.int 0, .ref h1, v1, v2, v3, v4, v5, v6, .int 0])), (q22, .inr (0, [.ref q23, .int 0, .int 0, .int 0])), (q5, .inr (1, [.ref q6, .int 0, .int 0, .int 6])), (q6, .inl (cy7, 16, .inl (upd ((upd ((upd ((upd ((upd ((upd ((fun _ => 0)) 0 (vp_nar .byte (97 + x0).toInt8.toInt32))) 1 (vp_nar .byte (97 + x0).toInt8.toInt32))) 2 (vp_nar .byte (97 + x0).toInt8.toInt32))) 3 (vp_nar .byte (97 + x0).toInt8.toInt32))) 4 (vp_nar .byte (97 + x0).toInt8.toInt32))) 5 (vp_nar .byte (97 + x0).toInt8.toInt32)))), (q23, .inl (cy24, 6, .inl (va_cpy ((upd ((upd ((upd ((upd ((upd ((upd ((fun _ => 0)) 0 (vp_nar .byte (97 + x0).toInt8.toInt32))) 1 (vp_nar .byte (97 + x0).toInt8.toInt32))) 2 (vp_nar .byte (97 + x0).toInt8.toInt32))) 3 (vp_nar .byte (97 + x0).toInt8.toInt32))) 4 (vp_nar .byte (97 + x0).toInt8.toInt32))) 5 (vp_nar .byte (97 + x0).toInt8.toInt32))) (fun _ => 0) 0 0 6)))]) (w1 := [(q21, .inr (18, [.int 0, .ref q22, .int 0, .ref q25])), (q25, .inr (6, [.int 0, .ref (g 0), .int 0]))]) hP hD [2] [0, 1, 3, 4, 5, 6] rfl rfl (by decide) (by decide) hk1 hFc hP1 hD1
  have hK := (hK.sub (tys' := [(cy7, .byte), (cy24, .byte)]) [0, 1] rfl).app hK1
  generalize H1 = H at hP hS ⊢
  have hP : va_P (dC, dI) vwCl [(h1, .inr (6, [.int 0, .ref (g 0), .int 0])), (h0, .inr (23, [.int 0, .ref h1, v1, v2, v3, v4, v5, v6, .int 0])), (q22, .inr (0, [.ref q23, .int 0, .int 0, .int 0])), (q5, .inr (1, [.ref q6, .int 0, .int 0, .int 6])), (q6, .inl (cy7, 16, .inl (upd ((upd ((upd ((upd ((upd ((upd ((fun _ => 0)) 0 (vp_nar .byte (97 + x0).toInt8.toInt32))) 1 (vp_nar .byte (97 + x0).toInt8.toInt32))) 2 (vp_nar .byte (97 + x0).toInt8.toInt32))) 3 (vp_nar .byte (97 + x0).toInt8.toInt32))) 4 (vp_nar .byte (97 + x0).toInt8.toInt32))) 5 (vp_nar .byte (97 + x0).toInt8.toInt32)))), (q23, .inl (cy24, 6, .inl (va_cpy ((upd ((upd ((upd ((upd ((upd ((upd ((fun _ => 0)) 0 (vp_nar .byte (97 + x0).toInt8.toInt32))) 1 (vp_nar .byte (97 + x0).toInt8.toInt32))) 2 (vp_nar .byte (97 + x0).toInt8.toInt32))) 3 (vp_nar .byte (97 + x0).toInt8.toInt32))) 4 (vp_nar .byte (97 + x0).toInt8.toInt32))) 5 (vp_nar .byte (97 + x0).toInt8.toInt32))) (fun _ => 0) 0 0 6))), (q21, .inr (18, [.int 0, .ref q22, .int 0, .ref q25])), (q25, .inr (6, [.int 0, .ref (g 0), .int 0]))] H := hP
  have hD : va_D A [(h1, .inr (6, [.int 0, .ref (g 0), .int 0])), (h0, .inr (23, [.int 0, .ref h1, v1, v2, v3, v4, v5, v6, .int 0])), (q22, .inr (0, [.ref q23, .int 0, .int 0, .int 0])), (q5, .inr (1, [.ref q6, .int 0, .int 0, .int 6])), (q6, .inl (cy7, 16, .inl (upd ((upd ((upd ((upd ((upd ((upd ((fun _ => 0)) 0 (vp_nar .byte (97 + x0).toInt8.toInt32))) 1 (vp_nar .byte (97 + x0).toInt8.toInt32))) 2 (vp_nar .byte (97 + x0).toInt8.toInt32))) 3 (vp_nar .byte (97 + x0).toInt8.toInt32))) 4 (vp_nar .byte (97 + x0).toInt8.toInt32))) 5 (vp_nar .byte (97 + x0).toInt8.toInt32)))), (q23, .inl (cy24, 6, .inl (va_cpy ((upd ((upd ((upd ((upd ((upd ((upd ((fun _ => 0)) 0 (vp_nar .byte (97 + x0).toInt8.toInt32))) 1 (vp_nar .byte (97 + x0).toInt8.toInt32))) 2 (vp_nar .byte (97 + x0).toInt8.toInt32))) 3 (vp_nar .byte (97 + x0).toInt8.toInt32))) 4 (vp_nar .byte (97 + x0).toInt8.toInt32))) 5 (vp_nar .byte (97 + x0).toInt8.toInt32))) (fun _ => 0) 0 0 6))), (q21, .inr (18, [.int 0, .ref q22, .int 0, .ref q25])), (q25, .inr (6, [.int 0, .ref (g 0), .int 0]))] := hD
  have hK : va_K (dC, dI) vwCl [(cy7, .byte), (cy24, .byte)] s := hK
  refine W.widen (k := 6) (n := 37) (Nat.le_of_ble_eq_true rfl) (Nat.le_of_ble_eq_true rfl) ?_
  have hPc := hP.sub (ws' := [(h0, .inr (23, [.int 0, .ref h1, v1, v2, v3, v4, v5, v6, .int 0])), (h1, .inr (6, [.int 0, .ref (g 0), .int 0])), (q21, .inr (18, [.int 0, .ref q22, .int 0, .ref q25]))]) [1, 0, 6] rfl
  have hDc := hD.sub (ws' := [(h0, .inr (23, [.int 0, .ref h1, v1, v2, v3, v4, v5, v6, .int 0])), (h1, .inr (6, [.int 0, .ref (g 0), .int 0])), (q21, .inr (18, [.int 0, .ref q22, .int 0, .ref q25]))]) [1, 0, 6] (by decide) rfl
  have hKc := hK.sub (tys' := []) [] rfl
  have hFc := va_free (wc := [(h0, .inr (23, [.int 0, .ref h1, v1, v2, v3, v4, v5, v6, .int 0])), (h1, .inr (6, [.int 0, .ref (g 0), .int 0])), (q21, .inr (18, [.int 0, .ref q22, .int 0, .ref q25]))]) hD hS hA [1, 0, 6] rfl
  refine va_calli (va_runV (As := [.ref q21]) (rest := []) ⟨hx, hb, hml, hown, hts⟩ (kX16_made l dC dI g H.size h0 q21 h1 (.int 0) v1 v2 v3 v4 v5 v6 (.int 0) (.ref q22) (.int 0) (.ref q25) ) (cwV 1 hts (ns_gp (List.forall_mem_cons.mpr ⟨wm405, (List.forall_mem_cons.mpr ⟨wm406, (List.forall_mem_cons.mpr ⟨wm407, (List.forall_mem_cons.mpr ⟨wm192, (fun _ h9 => nomatch h9)⟩)⟩)⟩)⟩) wm392) rfl rfl rfl (by decide +kernel) ⟨Nat.le_of_ble_eq_true rfl, Nat.le_of_ble_eq_true rfl⟩) ⟨fun a U gg mk q => by obtain ⟨q0, q1, qP, qK, qD, qF⟩ := q; exact ⟨q0, q1, qP, va_K.moved (u := U) (U := U.calling gg mk a) (Vm.Alike.refl U.vm) qK, qD, ns_same qF⟩, va_recv hK hP (ci := 23) (q0 := 1) rfl rfl, fun U hU hW => ⟨rfl, by rw [hU], by rw [hU]; exact hPc, va_K.moved hW.alike hKc, hDc.weaken (fun _ _ _ _ => trivial), ns_call hF hS hFc hU hW⟩⟩ rfl rfl hl.1 rfl (lv_room (Nat.le_of_ble_eq_true rfl)) dX16_word_94 ⟨Nat.le_of_ble_eq_true rfl, Nat.le_of_ble_eq_true rfl⟩) hS (fun q _ h => hFc q h) hFc (fun r9 u t H1 locs ht hvm hw hB hz1 hk1 hS => ?_)
  obtain rfl := hw.symm
  obtain ⟨q26, cy27, hP1, hK1, hD1⟩ := hB
  rw [ht] at hP1
  have hK1 := va_K.moved hvm.symm hK1
  obtain ⟨hP, hD⟩ := va_join (wr := [(q22, .inr (0, [.ref q23, .int 0, .int 0, .int 0])), (q5, .inr (1, [.ref q6, .int 0, .int 0, .int 6])), (q6, .inl (cy7, 16, .inl (upd ((upd ((upd ((upd ((upd ((upd ((fun _ => 0)) 0 (vp_nar .byte (97 + x0).toInt8.toInt32))) 1 (vp_nar .byte (97 + x0).toInt8.toInt32))) 2 (vp_nar .byte (97 + x0).toInt8.toInt32))) 3 (vp_nar .byte (97 + x0).toInt8.toInt32))) 4 (vp_nar .byte (97 + x0).toInt8.toInt32))) 5 (vp_nar .byte (97 + x0).toInt8.toInt32)))), (q23, .inl (cy24, 6, .inl (va_cpy ((upd ((upd ((upd ((upd ((upd ((upd ((fun _ => 0)) 0 (vp_nar .byte (97 + x0).toInt8.toInt32))) 1 (vp_nar .byte (97 + x0).toInt8.toInt32))) 2 (vp_nar .byte (97 + x0).toInt8.toInt32))) 3 (vp_nar .byte (97 + x0).toInt8.toInt32))) 4 (vp_nar .byte (97 + x0).toInt8.toInt32))) 5 (vp_nar .byte (97 + x0).toInt8.toInt32))) (fun _ => 0) 0 0 6))), (q25, .inr (6, [.int 0, .ref (g 0), .int 0]))]) (w1 := [(h0, .inr (23, [.int 0, .ref h1, v1, v2, v3, v4, v5, v6, .int 1])), (q21, .inr (18, [.int 0, .ref q22, .int 0, .ref q25])), (q26, .inl (cy27, 10, .inr (.inr (.inr (.inr (va_up (fun _ => none) 0 (some q21))))))), (h1, .inr (6, [.int 1, .ref q26, .int 1]))]) hP hD [1, 0, 6] [2, 3, 4, 5, 7] rfl rfl (by decide) (by decide) hk1 hFc hP1 hD1
  have hK := (hK.sub (tys' := [(cy7, .byte), (cy24, .byte)]) [0, 1] rfl).app hK1
  generalize H1 = H at hP hS ⊢
  have hP : va_P (dC, dI) vwCl [(q22, .inr (0, [.ref q23, .int 0, .int 0, .int 0])), (q5, .inr (1, [.ref q6, .int 0, .int 0, .int 6])), (q6, .inl (cy7, 16, .inl (upd ((upd ((upd ((upd ((upd ((upd ((fun _ => 0)) 0 (vp_nar .byte (97 + x0).toInt8.toInt32))) 1 (vp_nar .byte (97 + x0).toInt8.toInt32))) 2 (vp_nar .byte (97 + x0).toInt8.toInt32))) 3 (vp_nar .byte (97 + x0).toInt8.toInt32))) 4 (vp_nar .byte (97 + x0).toInt8.toInt32))) 5 (vp_nar .byte (97 + x0).toInt8.toInt32)))), (q23, .inl (cy24, 6, .inl (va_cpy ((upd ((upd ((upd ((upd ((upd ((upd ((fun _ => 0)) 0 (vp_nar .byte (97 + x0).toInt8.toInt32))) 1 (vp_nar .byte (97 + x0).toInt8.toInt32))) 2 (vp_nar .byte (97 + x0).toInt8.toInt32))) 3 (vp_nar .byte (97 + x0).toInt8.toInt32))) 4 (vp_nar .byte (97 + x0).toInt8.toInt32))) 5 (vp_nar .byte (97 + x0).toInt8.toInt32))) (fun _ => 0) 0 0 6))), (q25, .inr (6, [.int 0, .ref (g 0), .int 0])), (h0, .inr (23, [.int 0, .ref h1, v1, v2, v3, v4, v5, v6, .int 1])), (q21, .inr (18, [.int 0, .ref q22, .int 0, .ref q25])), (q26, .inl (cy27, 10, .inr (.inr (.inr (.inr (va_up (fun _ => none) 0 (some q21))))))), (h1, .inr (6, [.int 1, .ref q26, .int 1]))] H := hP
  have hD : va_D A [(q22, .inr (0, [.ref q23, .int 0, .int 0, .int 0])), (q5, .inr (1, [.ref q6, .int 0, .int 0, .int 6])), (q6, .inl (cy7, 16, .inl (upd ((upd ((upd ((upd ((upd ((upd ((fun _ => 0)) 0 (vp_nar .byte (97 + x0).toInt8.toInt32))) 1 (vp_nar .byte (97 + x0).toInt8.toInt32))) 2 (vp_nar .byte (97 + x0).toInt8.toInt32))) 3 (vp_nar .byte (97 + x0).toInt8.toInt32))) 4 (vp_nar .byte (97 + x0).toInt8.toInt32))) 5 (vp_nar .byte (97 + x0).toInt8.toInt32)))), (q23, .inl (cy24, 6, .inl (va_cpy ((upd ((upd ((upd ((upd ((upd ((upd ((fun _ => 0)) 0 (vp_nar .byte (97 + x0).toInt8.toInt32))) 1 (vp_nar .byte (97 + x0).toInt8.toInt32))) 2 (vp_nar .byte (97 + x0).toInt8.toInt32))) 3 (vp_nar .byte (97 + x0).toInt8.toInt32))) 4 (vp_nar .byte (97 + x0).toInt8.toInt32))) 5 (vp_nar .byte (97 + x0).toInt8.toInt32))) (fun _ => 0) 0 0 6))), (q25, .inr (6, [.int 0, .ref (g 0), .int 0])), (h0, .inr (23, [.int 0, .ref h1, v1, v2, v3, v4, v5, v6, .int 1])), (q21, .inr (18, [.int 0, .ref q22, .int 0, .ref q25])), (q26, .inl (cy27, 10, .inr (.inr (.inr (.inr (va_up (fun _ => none) 0 (some q21))))))), (h1, .inr (6, [.int 1, .ref q26, .int 1]))] := hD
  have hK : va_K (dC, dI) vwCl [(cy7, .byte), (cy24, .byte), (cy27, .object "java/lang/Object")] s := hK
  refine W.widen (k := 7) (n := 47) (Nat.le_of_ble_eq_true rfl) (Nat.le_of_ble_eq_true rfl) ?_
  have hP9 := hP.sub (ws' := [(q22, .inr (0, [.ref q23, .int 0, .int 0, .int 0])), (q5, .inr (1, [.ref q6, .int 0, .int 0, .int 6])), (q6, .inl (cy7, 16, .inl (upd ((upd ((upd ((upd ((upd ((upd ((fun _ => 0)) 0 (vp_nar .byte (97 + x0).toInt8.toInt32))) 1 (vp_nar .byte (97 + x0).toInt8.toInt32))) 2 (vp_nar .byte (97 + x0).toInt8.toInt32))) 3 (vp_nar .byte (97 + x0).toInt8.toInt32))) 4 (vp_nar .byte (97 + x0).toInt8.toInt32))) 5 (vp_nar .byte (97 + x0).toInt8.toInt32)))), (q23, .inl (cy24, 6, .inl (va_cpy ((upd ((upd ((upd ((upd ((upd ((upd ((fun _ => 0)) 0 (vp_nar .byte (97 + x0).toInt8.toInt32))) 1 (vp_nar .byte (97 + x0).toInt8.toInt32))) 2 (vp_nar .byte (97 + x0).toInt8.toInt32))) 3 (vp_nar .byte (97 + x0).toInt8.toInt32))) 4 (vp_nar .byte (97 + x0).toInt8.toInt32))) 5 (vp_nar .byte (97 + x0).toInt8.toInt32))) (fun _ => 0) 0 0 6))), (q25, .inr (6, [.int 0, .ref (g 0), .int 0])), (h0, .inr (23, [.int 0, .ref h1, v1, v2, v3, v4, v5, v6, .int 1])), (q21, .inr (18, [.int 0, .ref q22, .int 0, .ref q25])), (q26, .inl (cy27, 10, .inr (.inr (.inr (.inr (va_up (fun _ => none) 0 (some q21))))))), (h1, .inr (6, [.int 1, .ref q26, .int 1]))]) [0, 1, 2, 3, 4, 5, 6, 7, 8] rfl
  have hD9 := hD.sub (ws' := [(q22, .inr (0, [.ref q23, .int 0, .int 0, .int 0])), (q5, .inr (1, [.ref q6, .int 0, .int 0, .int 6])), (q6, .inl (cy7, 16, .inl (upd ((upd ((upd ((upd ((upd ((upd ((fun _ => 0)) 0 (vp_nar .byte (97 + x0).toInt8.toInt32))) 1 (vp_nar .byte (97 + x0).toInt8.toInt32))) 2 (vp_nar .byte (97 + x0).toInt8.toInt32))) 3 (vp_nar .byte (97 + x0).toInt8.toInt32))) 4 (vp_nar .byte (97 + x0).toInt8.toInt32))) 5 (vp_nar .byte (97 + x0).toInt8.toInt32)))), (q23, .inl (cy24, 6, .inl (va_cpy ((upd ((upd ((upd ((upd ((upd ((upd ((fun _ => 0)) 0 (vp_nar .byte (97 + x0).toInt8.toInt32))) 1 (vp_nar .byte (97 + x0).toInt8.toInt32))) 2 (vp_nar .byte (97 + x0).toInt8.toInt32))) 3 (vp_nar .byte (97 + x0).toInt8.toInt32))) 4 (vp_nar .byte (97 + x0).toInt8.toInt32))) 5 (vp_nar .byte (97 + x0).toInt8.toInt32))) (fun _ => 0) 0 0 6))), (q25, .inr (6, [.int 0, .ref (g 0), .int 0])), (h0, .inr (23, [.int 0, .ref h1, v1, v2, v3, v4, v5, v6, .int 1])), (q21, .inr (18, [.int 0, .ref q22, .int 0, .ref q25])), (q26, .inl (cy27, 10, .inr (.inr (.inr (.inr (va_up (fun _ => none) 0 (some q21))))))), (h1, .inr (6, [.int 1, .ref q26, .int 1]))]) [0, 1, 2, 3, 4, 5, 6, 7, 8] (by decide) rfl
  have hK9 := hK.sub (tys' := [(cy7, .byte), (cy24, .byte), (cy27, .object "java/lang/Object")]) [0, 1, 2] rfl
  refine W.widen (k := 7) (n := 47) (Nat.le_of_ble_eq_true rfl) (Nat.le_of_ble_eq_true rfl) ?_
  exact W.iret (v := 0) hx hb hr (fun t ht hW => ⟨⟨_, (), rfl, rfl, q5, q6, cy7, q21, q22, q23, cy24, q25, q26, cy27, by rw [ht]; exact hP9, va_K.moved hW.alike hK9, hD9⟩, hS.F ht⟩) hS.2.2 dX16_word_97
set_option maxHeartbeats 4000000 in
set_option maxRecDepth 100000 in
theorem kX9_textOf (l : Launch) (dC : Nat → ClassId) (dI : Nat → Nat → Nat) (g : Nat → Nat) (sz : Nat) (h0 : Nat) (h1 : Nat) (h2 : Nat) (h3 : Nat) (v0 : Value) (v1 : Value) (v2 : Value) (v3 : Value) (v4 : Value) (v5 : Value) (v6 : Value) (v7 : Value) (v8 : Value) (v9 : Value) (v10 : Value) (v11 : Value) (v12 : Value) (v13 : Value) (v14 : Value) (v15 : Value) (cc0 : ClassId) (f0 : Nat → Int32) (hf0 : sb_Fit f0) (v16 : Value) : Met l yX9_textOf wbX9_textOf ({ frames := 6, cells := 2, slots := 4, locals := 151 }) (va_Pc [.ref h0, .ref h1] (fun U => U.heap.size = sz ∧ va_P (dC, dI) vwCl [(h0, .inr (16, [v0, v1, v2, v3, v4, v5, v6, v7, .ref h2, v8, v9, v10, v11, v12, v13, v14])), (h2, .inr (1, [.ref h3, .int 0, v15, .int 0])), (h3, .inl (cc0, 16, .inl f0)), (h1, .inr (11, [v16, .int 0]))] U.heap ∧ va_K (dC, dI) vwCl [(cc0, .byte)] U ∧ va_D (fun _ => True) [(h0, .inr (16, [v0, v1, v2, v3, v4, v5, v6, v7, .ref h2, v8, v9, v10, v11, v12, v13, v14])), (h2, .inr (1, [.ref h3, .int 0, v15, .int 0])), (h3, .inl (cc0, 16, .inl f0)), (h1, .inr (11, [v16, .int 0]))] ∧ ns_F g (va_A [(h0, .inr (16, [v0, v1, v2, v3, v4, v5, v6, v7, .ref h2, v8, v9, v10, v11, v12, v13, v14])), (h2, .inr (1, [.ref h3, .int 0, v15, .int 0])), (h3, .inl (cc0, 16, .inl f0)), (h1, .inr (11, [v16, .int 0]))] sz) U U.heap)) (va_Qr (fun _ : Unit => True) (fun _ r t => ∃ k0 : Nat, ∃ k1 : Nat, ∃ kc2 : ClassId, r = k0 ∧ va_P (dC, dI) vwCl [(h0, .inr (16, [v0, v1, v2, v3, v4, v5, v6, v7, .ref h2, v8, v9, v10, v11, v12, v13, v14])), (h1, .inr (11, [v16, .int 0])), (k0, .inr (0, [.ref k1, .int 0, .int 0, .int 0])), (h2, .inr (1, [.ref h3, .int 0, v15, .int 0])), (h3, .inl (cc0, 16, .inl f0)), (k1, .inl (kc2, 0, .inl (va_cpy (f0) (fun _ => 0) 0 0 0)))] t.heap ∧ va_K (dC, dI) vwCl [(cc0, .byte), (kc2, .byte)] t ∧ va_D (va_A [(h0, .inr (16, [v0, v1, v2, v3, v4, v5, v6, v7, .ref h2, v8, v9, v10, v11, v12, v13, v14])), (h2, .inr (1, [.ref h3, .int 0, v15, .int 0])), (h3, .inl (cc0, 16, .inl f0)), (h1, .inr (11, [v16, .int 0]))] sz) [(h0, .inr (16, [v0, v1, v2, v3, v4, v5, v6, v7, .ref h2, v8, v9, v10, v11, v12, v13, v14])), (h1, .inr (11, [v16, .int 0])), (k0, .inr (0, [.ref k1, .int 0, .int 0, .int 0])), (h2, .inr (1, [.ref h3, .int 0, v15, .int 0])), (h3, .inl (cc0, 16, .inl f0)), (k1, .inl (kc2, 0, .inl (va_cpy (f0) (fun _ => 0) 0 0 0)))]) (va_A [(h0, .inr (16, [v0, v1, v2, v3, v4, v5, v6, v7, .ref h2, v8, v9, v10, v11, v12, v13, v14])), (h2, .inr (1, [.ref h3, .int 0, v15, .int 0])), (h3, .inl (cc0, 16, .inl f0)), (h1, .inr (11, [v16, .int 0]))] sz)) 2 4 (va_A [(h0, .inr (16, [v0, v1, v2, v3, v4, v5, v6, v7, .ref h2, v8, v9, v10, v11, v12, v13, v14])), (h2, .inr (1, [.ref h3, .int 0, v15, .int 0])), (h3, .inl (cc0, 16, .inl f0)), (h1, .inr (11, [v16, .int 0]))] sz) := by
  refine Met.ofW (cc := cX9_textOf) (maxL := 3) (ret := (some (.object "java/lang/String"))) (by decide) rfl ?_
  intro p e s m args below meth c s₁ B hml hv
  obtain ⟨rfl, hsz, hP, hK, hD0, hF⟩ := hv
  have hx := B.exec
  have hb := B.bytes
  have hr := B.returns
  have hts := atoms_spec (ws := wbX9_textOf) B.pre
  have hta : ∀ w ∈ wsALL, w.before _ s = true := fun w h => hts w (List.mem_cons_of_mem _ h)
  have hown : s.vm.findClass RX9 = some m.cls := findClass_of_methodNamed B.named
  have hlocks := B.notSynchronized
  subst hsz
  have hD := hD0.self (sz := s.heap.size)
  generalize hAe : va_A [(h0, .inr (16, [v0, v1, v2, v3, v4, v5, v6, v7, .ref h2, v8, v9, v10, v11, v12, v13, v14])), (h2, .inr (1, [.ref h3, .int 0, v15, .int 0])), (h3, .inl (cc0, 16, .inl f0)), (h1, .inr (11, [v16, .int 0]))] s.heap.size = A at hD hF ⊢
  have hA : ∀ q : Nat, s.heap.size ≤ q → A q := fun q h => by rw [← hAe]; exact Or.inr h
  have hS : va_S A s.heap s.heap [] := va_S.rf
  have hP : va_P (dC, dI) vwCl [(h0, .inr (16, [v0, v1, v2, v3, v4, v5, v6, v7, .ref h2, v8, v9, v10, v11, v12, v13, v14])), (h2, .inr (1, [.ref h3, .int 0, v15, .int 0])), (h3, .inl (cc0, 16, .inl f0)), (h1, .inr (11, [v16, .int 0]))] s.heap := hP
  have hl := lv_entry ([.ref h0, .ref h1]) (n := 3) (Nat.le_of_ble_eq_true rfl)
  rw [lg_entry_eq]
  generalize (lg_sl ([.ref h0, .ref h1]) ++ List.replicate (3 - (lg_sl ([.ref h0, .ref h1])).length) Slot.unset).toArray = ls at hl ⊢
  have hl : lv_has ls 3 [(0, .ref h0), (1, .ref h1)] := hl
  refine lv_aload_n hx hb dX9_textOf_0 rfl (lv_at hl 0 rfl) ?_
  refine va_get (D := (dC, dI)) (ci := 16) (v := .ref h2) (C := RX9) (T := TX9) (N := 16) hx hb hta naX9 hown hK hP 0 rfl rfl 8 (by decide) (hta _ wm148) (fun _ h9 => h9) rfl dX9_textOf_1 ?_
  refine lv_iconst (v := 0) hx hb dX9_textOf_4 (by decide) ?_
  have hPc := hP.sub (ws' := [(h2, .inr (1, [.ref h3, .int 0, v15, .int 0])), (h3, .inl (cc0, 16, .inl f0))]) [1, 2] rfl
  have hDc := hD.sub (ws' := [(h2, .inr (1, [.ref h3, .int 0, v15, .int 0])), (h3, .inl (cc0, 16, .inl f0))]) [1, 2] (by decide) rfl
  have hKc := hK.sub (tys' := [(cc0, .byte)]) [0] rfl
  have hFc := va_free (wc := [(h2, .inr (1, [.ref h3, .int 0, v15, .int 0])), (h3, .inl (cc0, 16, .inl f0))]) hD hS hA [1, 2] rfl
  refine va_callv (va_runV (As := [.int 0]) (rest := []) ⟨hx, hb, hml, hown, hts⟩ (kJ4_setLength_d00df l dC dI g s.heap.size h2 h3 v15 cc0 f0 hf0 ) (cwV 1 hts (ns_gp (List.forall_mem_cons.mpr ⟨wm901, (List.forall_mem_cons.mpr ⟨wm902, (List.forall_mem_cons.mpr ⟨wm903, (List.forall_mem_cons.mpr ⟨wm137, (fun _ h9 => nomatch h9)⟩)⟩)⟩)⟩) wm900) rfl rfl rfl (by decide +kernel) ⟨Nat.le_of_ble_eq_true rfl, Nat.le_of_ble_eq_true rfl⟩) ⟨fun a U gg mk q => by obtain ⟨q0, q1, qP, qK, qD, qF⟩ := q; exact ⟨q0, q1, qP, va_K.moved (u := U) (U := U.calling gg mk a) (Vm.Alike.refl U.vm) qK, qD, ns_same qF⟩, va_recv hK hP (ci := 1) (q0 := 1) rfl rfl, fun U hU hW => ⟨rfl, by rw [hU], by rw [hU]; exact hPc, va_K.moved hW.alike hKc, hDc.weaken (fun _ _ _ _ => trivial), ns_call hF hS hFc hU hW⟩⟩ rfl rfl hl.1 rfl (lv_room (Nat.le_of_ble_eq_true rfl)) dX9_textOf_5 ⟨Nat.le_of_ble_eq_true rfl, Nat.le_of_ble_eq_true rfl⟩) hS (fun q _ h => hFc q h) hFc (fun u t H1 locs ht hvm hw hB hz1 hk1 hS => ?_)
  obtain ⟨hP1, hK1, hD1⟩ := hB
  rw [ht] at hP1
  have hK1 := va_K.moved hvm.symm hK1
  obtain ⟨hP, hD⟩ := va_join (wr := [(h0, .inr (16, [v0, v1, v2, v3, v4, v5, v6, v7, .ref h2, v8, v9, v10, v11, v12, v13, v14])), (h1, .inr (11, [v16, .int 0]))]) (w1 := [(h2, .inr (1, [.ref h3, .int 0, v15, .int 0])), (h3, .inl (cc0, 16, .inl f0))]) hP hD [1, 2] [0, 3] rfl rfl (by decide) (by decide) hk1 hFc hP1 hD1
  have hK := (hK.sub (tys' := []) [] rfl).app hK1
  generalize H1 = H at hP hS ⊢
  have hP : va_P (dC, dI) vwCl [(h0, .inr (16, [v0, v1, v2, v3, v4, v5, v6, v7, .ref h2, v8, v9, v10, v11, v12, v13, v14])), (h1, .inr (11, [v16, .int 0])), (h2, .inr (1, [.ref h3, .int 0, v15, .int 0])), (h3, .inl (cc0, 16, .inl f0))] H := hP
  have hD : va_D A [(h0, .inr (16, [v0, v1, v2, v3, v4, v5, v6, v7, .ref h2, v8, v9, v10, v11, v12, v13, v14])), (h1, .inr (11, [v16, .int 0])), (h2, .inr (1, [.ref h3, .int 0, v15, .int 0])), (h3, .inl (cc0, 16, .inl f0))] := hD
  have hK : va_K (dC, dI) vwCl [(cc0, .byte)] s := hK
  refine W.widen (k := 0) (n := 0) (Nat.le_of_ble_eq_true rfl) (Nat.le_of_ble_eq_true rfl) ?_
  refine lv_iconst (v := 0) hx hb dX9_textOf_8 (by decide) ?_
  refine lv_istore_n (lv' := [(2, .int 0), (0, .ref h0), (1, .ref h1)]) hx hb dX9_textOf_9 rfl hl (by decide) rfl (fun ls hl => ?_)
  refine lv_iload_n hx hb dX9_textOf_10 rfl (lv_at hl 0 rfl) ?_
  refine lv_aload_n hx hb dX9_textOf_11 rfl (lv_at hl 2 rfl) ?_
  have hPc := hP.sub (ws' := [(h1, .inr (11, [v16, .int 0]))]) [1] rfl
  have hDc := hD.sub (ws' := [(h1, .inr (11, [v16, .int 0]))]) [1] (by decide) rfl
  have hKc := hK.sub (tys' := []) [] rfl
  have hFc := va_free (wc := [(h1, .inr (11, [v16, .int 0]))]) hD hS hA [1] rfl
  refine va_calli (va_runV (As := []) (rest := [.int 0]) ⟨hx, hb, hml, hown, hts⟩ (kX4_size l dC dI g H.size h1 v16 ) (cwV 0 hts (ns_gp (List.forall_mem_cons.mpr ⟨wm549, (List.forall_mem_cons.mpr ⟨wm249, (List.forall_mem_cons.mpr ⟨wm250, (List.forall_mem_cons.mpr ⟨wm12, (fun _ h9 => nomatch h9)⟩)⟩)⟩)⟩) wm247) rfl rfl rfl (by decide +kernel) ⟨Nat.le_of_ble_eq_true rfl, Nat.le_of_ble_eq_true rfl⟩) ⟨fun a U gg mk q => by obtain ⟨q0, q1, qP, qK, qD, qF⟩ := q; exact ⟨q0, q1, qP, va_K.moved (u := U) (U := U.calling gg mk a) (Vm.Alike.refl U.vm) qK, qD, ns_same qF⟩, va_recv hK hP (ci := 11) (q0 := 1) rfl rfl, fun U hU hW => ⟨rfl, by rw [hU], by rw [hU]; exact hPc, va_K.moved hW.alike hKc, hDc.weaken (fun _ _ _ _ => trivial), ns_call hF hS hFc hU hW⟩⟩ rfl rfl hl.1 rfl (lv_room (Nat.le_of_ble_eq_true rfl)) dX9_textOf_12 ⟨Nat.le_of_ble_eq_true rfl, Nat.le_of_ble_eq_true rfl⟩) hS (fun q _ h => hFc q h) hFc (fun r9 u t H1 locs ht hvm hw hB hz1 hk1 hS => ?_)
  obtain rfl := hw.symm
  obtain ⟨hP1, hK1, hD1⟩ := hB
  rw [ht] at hP1
  have hK1 := va_K.moved hvm.symm hK1
  obtain ⟨hP, hD⟩ := va_join (wr := [(h0, .inr (16, [v0, v1, v2, v3, v4, v5, v6, v7, .ref h2, v8, v9, v10, v11, v12, v13, v14])), (h2, .inr (1, [.ref h3, .int 0, v15, .int 0])), (h3, .inl (cc0, 16, .inl f0))]) (w1 := [(h1, .inr (11, [v16, .int 0]))]) hP hD [1] [0, 2, 3] rfl rfl (by decide) (by decide) hk1 hFc hP1 hD1
  have hK := (hK.sub (tys' := [(cc0, .byte)]) [0] rfl).app hK1
  generalize H1 = H at hP hS ⊢
  have hP : va_P (dC, dI) vwCl [(h0, .inr (16, [v0, v1, v2, v3, v4, v5, v6, v7, .ref h2, v8, v9, v10, v11, v12, v13, v14])), (h2, .inr (1, [.ref h3, .int 0, v15, .int 0])), (h3, .inl (cc0, 16, .inl f0)), (h1, .inr (11, [v16, .int 0]))] H := hP
  have hD : va_D A [(h0, .inr (16, [v0, v1, v2, v3, v4, v5, v6, v7, .ref h2, v8, v9, v10, v11, v12, v13, v14])), (h2, .inr (1, [.ref h3, .int 0, v15, .int 0])), (h3, .inl (cc0, 16, .inl f0)), (h1, .inr (11, [v16, .int 0]))] := hD
  have hK : va_K (dC, dI) vwCl [(cc0, .byte)] s := hK
  refine W.widen (k := 0) (n := 0) (Nat.le_of_ble_eq_true rfl) (Nat.le_of_ble_eq_true rfl) ?_
  refine lv_icmp_ge (tgt := 38) hx hb dX9_textOf_15 (by decide) (fun c1 => ?_) (fun c1 => absurd (by decide) c1)
  refine lv_aload_n hx hb dX9_textOf_38 rfl (lv_at hl 1 rfl) ?_
  refine va_get (D := (dC, dI)) (ci := 16) (v := .ref h2) (C := RX9) (T := TX9) (N := 16) hx hb hta naX9 hown hK hP 0 rfl rfl 8 (by decide) (hta _ wm148) (fun _ h9 => h9) rfl dX9_textOf_39 ?_
  have hPc := hP.sub (ws' := [(h2, .inr (1, [.ref h3, .int 0, v15, .int 0])), (h3, .inl (cc0, 16, .inl f0))]) [1, 2] rfl
  have hDc := hD.sub (ws' := [(h2, .inr (1, [.ref h3, .int 0, v15, .int 0])), (h3, .inl (cc0, 16, .inl f0))]) [1, 2] (by decide) rfl
  have hKc := hK.sub (tys' := [(cc0, .byte)]) [0] rfl
  have hFc := va_free (wc := [(h2, .inr (1, [.ref h3, .int 0, v15, .int 0])), (h3, .inl (cc0, 16, .inl f0))]) hD hS hA [1, 2] rfl
  refine va_callr (va_runV (As := []) (rest := []) ⟨hx, hb, hml, hown, hts⟩ (kJ4_toString_0e30d_10 l dC dI g H.size h2 h3 v15 cc0 f0 hf0 ) (cwV 0 hts (ns_gp (List.forall_mem_cons.mpr ⟨wm904, (List.forall_mem_cons.mpr ⟨wm401, (List.forall_mem_cons.mpr ⟨wm402, (List.forall_mem_cons.mpr ⟨wm137, (fun _ h9 => nomatch h9)⟩)⟩)⟩)⟩) wm360) rfl rfl rfl (by decide +kernel) ⟨Nat.le_of_ble_eq_true rfl, Nat.le_of_ble_eq_true rfl⟩) ⟨fun a U gg mk q => by obtain ⟨q0, q1, qP, qK, qD, qF⟩ := q; exact ⟨q0, q1, qP, va_K.moved (u := U) (U := U.calling gg mk a) (Vm.Alike.refl U.vm) qK, qD, ns_same qF⟩, va_recv hK hP (ci := 1) (q0 := 1) rfl rfl, fun U hU hW => ⟨rfl, by rw [hU], by rw [hU]; exact hPc, va_K.moved hW.alike hKc, hDc.weaken (fun _ _ _ _ => trivial), ns_call hF hS hFc hU hW⟩⟩ rfl rfl hl.1 rfl (lv_room (Nat.le_of_ble_eq_true rfl)) dX9_textOf_42 ⟨Nat.le_of_ble_eq_true rfl, Nat.le_of_ble_eq_true rfl⟩) hS (fun q _ h => hFc q h) hFc (fun u r9 t H1 locs ht hvm hw hB hz1 hk1 hS => ?_)
  obtain ⟨q2, q3, cy4, hr9, hP1, hK1, hD1⟩ := hB
  obtain rfl := hr9.symm
  rw [ht] at hP1
  have hK1 := va_K.moved hvm.symm hK1
  obtain ⟨hP, hD⟩ := va_join (wr := [(h0, .inr (16, [v0, v1, v2, v3, v4, v5, v6, v7, .ref h2, v8, v9, v10, v11, v12, v13, v14])), (h1, .inr (11, [v16, .int 0]))]) (w1 := [(q2, .inr (0, [.ref q3, .int 0, .int 0, .int 0])), (h2, .inr (1, [.ref h3, .int 0, v15, .int 0])), (h3, .inl (cc0, 16, .inl f0)), (q3, .inl (cy4, 0, .inl (va_cpy (f0) (fun _ => 0) 0 0 0)))]) hP hD [1, 2] [0, 3] rfl rfl (by decide) (by decide) hk1 hFc hP1 hD1
  have hK := (hK.sub (tys' := []) [] rfl).app hK1
  generalize H1 = H at hP hS ⊢
  have hP : va_P (dC, dI) vwCl [(h0, .inr (16, [v0, v1, v2, v3, v4, v5, v6, v7, .ref h2, v8, v9, v10, v11, v12, v13, v14])), (h1, .inr (11, [v16, .int 0])), (q2, .inr (0, [.ref q3, .int 0, .int 0, .int 0])), (h2, .inr (1, [.ref h3, .int 0, v15, .int 0])), (h3, .inl (cc0, 16, .inl f0)), (q3, .inl (cy4, 0, .inl (va_cpy (f0) (fun _ => 0) 0 0 0)))] H := hP
  have hD : va_D A [(h0, .inr (16, [v0, v1, v2, v3, v4, v5, v6, v7, .ref h2, v8, v9, v10, v11, v12, v13, v14])), (h1, .inr (11, [v16, .int 0])), (q2, .inr (0, [.ref q3, .int 0, .int 0, .int 0])), (h2, .inr (1, [.ref h3, .int 0, v15, .int 0])), (h3, .inl (cc0, 16, .inl f0)), (q3, .inl (cy4, 0, .inl (va_cpy (f0) (fun _ => 0) 0 0 0)))] := hD
  have hK : va_K (dC, dI) vwCl [(cc0, .byte), (cy4, .byte)] s := hK
  refine W.widen (k := 2) (n := 4) (Nat.le_of_ble_eq_true rfl) (Nat.le_of_ble_eq_true rfl) ?_
  have hP9 := hP.sub (ws' := [(h0, .inr (16, [v0, v1, v2, v3, v4, v5, v6, v7, .ref h2, v8, v9, v10, v11, v12, v13, v14])), (h1, .inr (11, [v16, .int 0])), (q2, .inr (0, [.ref q3, .int 0, .int 0, .int 0])), (h2, .inr (1, [.ref h3, .int 0, v15, .int 0])), (h3, .inl (cc0, 16, .inl f0)), (q3, .inl (cy4, 0, .inl (va_cpy (f0) (fun _ => 0) 0 0 0)))]) [0, 1, 2, 3, 4, 5] rfl
  have hD9 := hD.sub (ws' := [(h0, .inr (16, [v0, v1, v2, v3, v4, v5, v6, v7, .ref h2, v8, v9, v10, v11, v12, v13, v14])), (h1, .inr (11, [v16, .int 0])), (q2, .inr (0, [.ref q3, .int 0, .int 0, .int 0])), (h2, .inr (1, [.ref h3, .int 0, v15, .int 0])), (h3, .inl (cc0, 16, .inl f0)), (q3, .inl (cy4, 0, .inl (va_cpy (f0) (fun _ => 0) 0 0 0)))]) [0, 1, 2, 3, 4, 5] (by decide) rfl
  have hK9 := hK.sub (tys' := [(cc0, .byte), (cy4, .byte)]) [0, 1] rfl
  refine W.widen (k := 2) (n := 4) (Nat.le_of_ble_eq_true rfl) (Nat.le_of_ble_eq_true rfl) ?_
  exact W.aret (v := .ref q2) hx hb hr (by first | exact Or.inl ⟨_, rfl⟩ | exact Or.inr ⟨_, rfl⟩) (Or.inr ⟨_, rfl⟩) (fun t ht hW => ⟨⟨(), _, rfl, trivial, q2, q3, cy4, rfl, by rw [ht]; exact hP9, va_K.moved hW.alike hK9, hD9⟩, hS.F ht⟩) hS.2.2 dX9_textOf_45

set_option maxHeartbeats 4000000 in
set_option maxRecDepth 100000 in
theorem kX16_word_17 (l : Launch) (dC : Nat → ClassId) (dI : Nat → Nat → Nat) (g : Nat → Nat) (sz : Nat) (h0 : Nat) (x0 : Int32) (h1 : Nat) (v0 : Value) (v1 : Value) (v2 : Value) (v3 : Value) (v4 : Value) (v5 : Value) (v6 : Value) (ex0 : (0 : Int) ≤ x0.toInt ∧ x0.toInt ≤ (25 : Int)) : Met l yX16_word wbX16_word ({ frames := 6, cells := 7, slots := 46, locals := 151 }) (va_Pc [.ref h0, .int x0, .int 5] (fun U => U.heap.size = sz ∧ va_P (dC, dI) vwCl [(h0, .inr (23, [v0, .ref h1, v1, v2, v3, v4, v5, v6, .int 0])), (h1, .inr (6, [.int 0, .ref (g 0), .int 0]))] U.heap ∧ va_K (dC, dI) vwCl [] U ∧ va_D (fun _ => True) [(h0, .inr (23, [v0, .ref h1, v1, v2, v3, v4, v5, v6, .int 0])), (h1, .inr (6, [.int 0, .ref (g 0), .int 0]))] ∧ ns_F g (va_A [(h0, .inr (23, [v0, .ref h1, v1, v2, v3, v4, v5, v6, .int 0])), (h1, .inr (6, [.int 0, .ref (g 0), .int 0]))] sz) U U.heap)) (va_Qi (fun (r : Int32) (_ : Unit) => r = 0) (fun _ t => ∃ k0 : Nat, ∃ k1 : Nat, ∃ kc2 : ClassId, ∃ k3 : Nat, ∃ k4 : Nat, ∃ k5 : Nat, ∃ kc6 : ClassId, ∃ k7 : Nat, ∃ k8 : Nat, ∃ kc9 : ClassId, va_P (dC, dI) vwCl [(k4, .inr (0, [.ref k5, .int 0, .int 0, .int 0])), (k0, .inr (1, [.ref k1, .int 0, .int 0, .int 5])), (k1, .inl (kc2, 16, .inl (upd ((upd ((upd ((upd ((upd ((fun _ => 0)) 0 (vp_nar .byte (97 + x0).toInt8.toInt32))) 1 (vp_nar .byte (97 + x0).toInt8.toInt32))) 2 (vp_nar .byte (97 + x0).toInt8.toInt32))) 3 (vp_nar .byte (97 + x0).toInt8.toInt32))) 4 (vp_nar .byte (97 + x0).toInt8.toInt32)))), (k5, .inl (kc6, 5, .inl (va_cpy ((upd ((upd ((upd ((upd ((upd ((fun _ => 0)) 0 (vp_nar .byte (97 + x0).toInt8.toInt32))) 1 (vp_nar .byte (97 + x0).toInt8.toInt32))) 2 (vp_nar .byte (97 + x0).toInt8.toInt32))) 3 (vp_nar .byte (97 + x0).toInt8.toInt32))) 4 (vp_nar .byte (97 + x0).toInt8.toInt32))) (fun _ => 0) 0 0 5))), (k7, .inr (6, [.int 0, .ref (g 0), .int 0])), (h0, .inr (23, [.int 0, .ref h1, v1, v2, v3, v4, v5, v6, .int 1])), (k3, .inr (18, [.int 0, .ref k4, .int 0, .ref k7])), (k8, .inl (kc9, 10, .inr (.inr (.inr (.inr (va_up (fun _ => none) 0 (some k3))))))), (h1, .inr (6, [.int 1, .ref k8, .int 1]))] t.heap ∧ va_K (dC, dI) vwCl [(kc2, .byte), (kc6, .byte), (kc9, .object "java/lang/Object")] t ∧ va_D (va_A [(h0, .inr (23, [v0, .ref h1, v1, v2, v3, v4, v5, v6, .int 0])), (h1, .inr (6, [.int 0, .ref (g 0), .int 0]))] sz) [(k4, .inr (0, [.ref k5, .int 0, .int 0, .int 0])), (k0, .inr (1, [.ref k1, .int 0, .int 0, .int 5])), (k1, .inl (kc2, 16, .inl (upd ((upd ((upd ((upd ((upd ((fun _ => 0)) 0 (vp_nar .byte (97 + x0).toInt8.toInt32))) 1 (vp_nar .byte (97 + x0).toInt8.toInt32))) 2 (vp_nar .byte (97 + x0).toInt8.toInt32))) 3 (vp_nar .byte (97 + x0).toInt8.toInt32))) 4 (vp_nar .byte (97 + x0).toInt8.toInt32)))), (k5, .inl (kc6, 5, .inl (va_cpy ((upd ((upd ((upd ((upd ((upd ((fun _ => 0)) 0 (vp_nar .byte (97 + x0).toInt8.toInt32))) 1 (vp_nar .byte (97 + x0).toInt8.toInt32))) 2 (vp_nar .byte (97 + x0).toInt8.toInt32))) 3 (vp_nar .byte (97 + x0).toInt8.toInt32))) 4 (vp_nar .byte (97 + x0).toInt8.toInt32))) (fun _ => 0) 0 0 5))), (k7, .inr (6, [.int 0, .ref (g 0), .int 0])), (h0, .inr (23, [.int 0, .ref h1, v1, v2, v3, v4, v5, v6, .int 1])), (k3, .inr (18, [.int 0, .ref k4, .int 0, .ref k7])), (k8, .inl (kc9, 10, .inr (.inr (.inr (.inr (va_up (fun _ => none) 0 (some k3))))))), (h1, .inr (6, [.int 1, .ref k8, .int 1]))]) (va_A [(h0, .inr (23, [v0, .ref h1, v1, v2, v3, v4, v5, v6, .int 0])), (h1, .inr (6, [.int 0, .ref (g 0), .int 0]))] sz)) 7 46 (va_A [(h0, .inr (23, [v0, .ref h1, v1, v2, v3, v4, v5, v6, .int 0])), (h1, .inr (6, [.int 0, .ref (g 0), .int 0]))] sz) := by
  refine Met.ofW (cc := cX16_word) (maxL := 5) (ret := (some .int)) (by decide) rfl ?_
  intro p e s m args below meth c s₁ B hml hv
  obtain ⟨rfl, hsz, hP, hK, hD0, hF⟩ := hv
  have hx := B.exec
  have hb := B.bytes
  have hr := B.returns
  have hts := atoms_spec (ws := wbX16_word) B.pre
  have hta : ∀ w ∈ wsALL, w.before _ s = true := fun w h => hts w (List.mem_cons_of_mem _ h)
  have hown : s.vm.findClass RX16 = some m.cls := findClass_of_methodNamed B.named
  have hlocks := B.notSynchronized
  subst hsz
  have hD := hD0.self (sz := s.heap.size)
  generalize hAe : va_A [(h0, .inr (23, [v0, .ref h1, v1, v2, v3, v4, v5, v6, .int 0])), (h1, .inr (6, [.int 0, .ref (g 0), .int 0]))] s.heap.size = A at hD hF ⊢
  have hA : ∀ q : Nat, s.heap.size ≤ q → A q := fun q h => by rw [← hAe]; exact Or.inr h
  have hS : va_S A s.heap s.heap [] := va_S.rf
  have hP : va_P (dC, dI) vwCl [(h0, .inr (23, [v0, .ref h1, v1, v2, v3, v4, v5, v6, .int 0])), (h1, .inr (6, [.int 0, .ref (g 0), .int 0]))] s.heap := hP
  have hl := lv_entry ([.ref h0, .int x0, .int 5]) (n := 5) (Nat.le_of_ble_eq_true rfl)
  rw [lg_entry_eq]
  generalize (lg_sl ([.ref h0, .int x0, .int 5]) ++ List.replicate (5 - (lg_sl ([.ref h0, .int x0, .int 5])).length) Slot.unset).toArray = ls at hl ⊢
  have hl : lv_has ls 5 [(0, .ref h0), (1, .int x0), (2, .int 5)] := hl
  refine lv_aload_n hx hb dX16_word_0 rfl (lv_at hl 0 rfl) ?_
  refine lv_iload_n hx hb dX16_word_1 rfl (lv_at hl 1 rfl) ?_
  refine lv_iconst (v := 0) hx hb dX16_word_2 (by decide) ?_
  refine lv_bipush (v := 25) hx hb dX16_word_3 (by decide) ?_
  have hPc := hP.sub (ws' := []) [] rfl
  have hDc := hD.sub (ws' := []) [] (by decide) rfl
  have hKc := hK.sub (tys' := []) [] rfl
  have hFc := va_free (wc := []) hD hS hA [] rfl
  refine va_calli (va_runS (As := [.int x0, .int 0, .int 25]) (rest := [.ref h0]) ⟨hx, hb, hml, hown, hts⟩ (kX16_isIn_2 l dC dI g s.heap.size x0 ⟨by omega, by omega⟩) (va_cwS 3 hts (ns_gp (List.forall_mem_cons.mpr ⟨wm240, (List.forall_mem_cons.mpr ⟨wm241, (List.forall_mem_cons.mpr ⟨wm192, (fun _ h9 => nomatch h9)⟩)⟩)⟩) wm233) rfl rfl rfl (by decide +kernel) ⟨Nat.le_of_ble_eq_true rfl, Nat.le_of_ble_eq_true rfl⟩) ⟨fun a U gg mk q => by obtain ⟨q0, q1, qP, qK, qD, qF⟩ := q; exact ⟨q0, q1, qP, va_K.moved (u := U) (U := U.calling gg mk a) (Vm.Alike.refl U.vm) qK, qD, ns_same qF⟩, fun U hU hW => ⟨rfl, by rw [hU], by rw [hU]; exact hPc, va_K.moved hW.alike hKc, hDc.weaken (fun _ _ _ _ => trivial), ns_call hF hS hFc hU hW⟩⟩ rfl rfl hl.1 rfl (lv_room (Nat.le_of_ble_eq_true rfl)) dX16_word_5 ⟨Nat.le_of_ble_eq_true rfl, Nat.le_of_ble_eq_true rfl⟩) hS (fun q _ h => hFc q h) hFc (fun r9 u t H1 locs ht hvm hw hB hz1 hk1 hS => ?_)
  obtain rfl := hw.symm
  obtain ⟨hP1, hK1, hD1⟩ := hB
  rw [ht] at hP1
  have hK1 := va_K.moved hvm.symm hK1
  obtain ⟨hP, hD⟩ := va_join (wr := [(h0, .inr (23, [v0, .ref h1, v1, v2, v3, v4, v5, v6, .int 0])), (h1, .inr (6, [.int 0, .ref (g 0), .int 0]))]) (w1 := []) hP hD [] [0, 1] rfl rfl (by decide) (by decide) hk1 hFc hP1 hD1
  have hK := (hK.sub (tys' := []) [] rfl).app hK1
  generalize H1 = H at hP hS ⊢
  have hP : va_P (dC, dI) vwCl [(h0, .inr (23, [v0, .ref h1, v1, v2, v3, v4, v5, v6, .int 0])), (h1, .inr (6, [.int 0, .ref (g 0), .int 0]))] H := hP
  have hD : va_D A [(h0, .inr (23, [v0, .ref h1, v1, v2, v3, v4, v5, v6, .int 0])), (h1, .inr (6, [.int 0, .ref (g 0), .int 0]))] := hD
  have hK : va_K (dC, dI) vwCl [] s := hK
  refine W.widen (k := 0) (n := 0) (Nat.le_of_ble_eq_true rfl) (Nat.le_of_ble_eq_true rfl) ?_
  refine lv_if_eq (tgt := 21) hx hb dX16_word_8 (by decide) (fun c1 => absurd c1 (by decide)) (fun c1 => ?_)
  refine lv_iload_n hx hb dX16_word_11 rfl (lv_at hl 2 rfl) ?_
  refine lv_iconst (v := 1) hx hb dX16_word_12 (by decide) ?_
  refine lv_bipush (v := 9) hx hb dX16_word_13 (by decide) ?_
  have hPc := hP.sub (ws' := []) [] rfl
  have hDc := hD.sub (ws' := []) [] (by decide) rfl
  have hKc := hK.sub (tys' := []) [] rfl
  have hFc := va_free (wc := []) hD hS hA [] rfl
  refine va_calli (va_runS (As := [.int 5, .int 1, .int 9]) (rest := [.ref h0]) ⟨hx, hb, hml, hown, hts⟩ (kX16_isIn_8 l dC dI g H.size  ) (va_cwS 3 hts (ns_gp (List.forall_mem_cons.mpr ⟨wm240, (List.forall_mem_cons.mpr ⟨wm241, (List.forall_mem_cons.mpr ⟨wm192, (fun _ h9 => nomatch h9)⟩)⟩)⟩) wm233) rfl rfl rfl (by decide +kernel) ⟨Nat.le_of_ble_eq_true rfl, Nat.le_of_ble_eq_true rfl⟩) ⟨fun a U gg mk q => by obtain ⟨q0, q1, qP, qK, qD, qF⟩ := q; exact ⟨q0, q1, qP, va_K.moved (u := U) (U := U.calling gg mk a) (Vm.Alike.refl U.vm) qK, qD, ns_same qF⟩, fun U hU hW => ⟨rfl, by rw [hU], by rw [hU]; exact hPc, va_K.moved hW.alike hKc, hDc.weaken (fun _ _ _ _ => trivial), ns_call hF hS hFc hU hW⟩⟩ rfl rfl hl.1 rfl (lv_room (Nat.le_of_ble_eq_true rfl)) dX16_word_15 ⟨Nat.le_of_ble_eq_true rfl, Nat.le_of_ble_eq_true rfl⟩) hS (fun q _ h => hFc q h) hFc (fun r9 u t H1 locs ht hvm hw hB hz1 hk1 hS => ?_)
  obtain rfl := hw.symm
  obtain ⟨hP1, hK1, hD1⟩ := hB
  rw [ht] at hP1
  have hK1 := va_K.moved hvm.symm hK1
  obtain ⟨hP, hD⟩ := va_join (wr := [(h0, .inr (23, [v0, .ref h1, v1, v2, v3, v4, v5, v6, .int 0])), (h1, .inr (6, [.int 0, .ref (g 0), .int 0]))]) (w1 := []) hP hD [] [0, 1] rfl rfl (by decide) (by decide) hk1 hFc hP1 hD1
  have hK := (hK.sub (tys' := []) [] rfl).app hK1
  generalize H1 = H at hP hS ⊢
  have hP : va_P (dC, dI) vwCl [(h0, .inr (23, [v0, .ref h1, v1, v2, v3, v4, v5, v6, .int 0])), (h1, .inr (6, [.int 0, .ref (g 0), .int 0]))] H := hP
  have hD : va_D A [(h0, .inr (23, [v0, .ref h1, v1, v2, v3, v4, v5, v6, .int 0])), (h1, .inr (6, [.int 0, .ref (g 0), .int 0]))] := hD
  have hK : va_K (dC, dI) vwCl [] s := hK
  refine W.widen (k := 0) (n := 0) (Nat.le_of_ble_eq_true rfl) (Nat.le_of_ble_eq_true rfl) ?_
  refine lv_if_ne (tgt := 25) hx hb dX16_word_18 (by decide) (fun c2 => ?_) (fun c2 => absurd c2 (by decide))
  refine lv_iconst (v := 0) hx hb dX16_word_25 (by decide) ?_
  refine lv_iconst (v := 1) hx hb dX16_word_26 (by decide) ?_
  have hPc := hP.sub (ws' := [(h0, .inr (23, [v0, .ref h1, v1, v2, v3, v4, v5, v6, .int 0]))]) [0] rfl
  have hDc := hD.sub (ws' := [(h0, .inr (23, [v0, .ref h1, v1, v2, v3, v4, v5, v6, .int 0]))]) [0] (by decide) rfl
  have hKc := hK.sub (tys' := []) [] rfl
  have hFc := va_free (wc := [(h0, .inr (23, [v0, .ref h1, v1, v2, v3, v4, v5, v6, .int 0]))]) hD hS hA [0] rfl
  refine va_calli (va_runV (As := [.int 0, .int 1]) (rest := []) ⟨hx, hb, hml, hown, hts⟩ (kX16_start_2 l dC dI g H.size h0 v0 (.ref h1) v1 v2 v3 v4 v5 v6 (.int 0) ) (cwV 2 hts (ns_gp (List.forall_mem_cons.mpr ⟨wm242, (List.forall_mem_cons.mpr ⟨wm243, (List.forall_mem_cons.mpr ⟨wm244, (List.forall_mem_cons.mpr ⟨wm192, (fun _ h9 => nomatch h9)⟩)⟩)⟩)⟩) wm239) rfl rfl rfl (by decide +kernel) ⟨Nat.le_of_ble_eq_true rfl, Nat.le_of_ble_eq_true rfl⟩) ⟨fun a U gg mk q => by obtain ⟨q0, q1, qP, qK, qD, qF⟩ := q; exact ⟨q0, q1, qP, va_K.moved (u := U) (U := U.calling gg mk a) (Vm.Alike.refl U.vm) qK, qD, ns_same qF⟩, va_recv hK hP (ci := 23) (q0 := 0) rfl rfl, fun U hU hW => ⟨rfl, by rw [hU], by rw [hU]; exact hPc, va_K.moved hW.alike hKc, hDc.weaken (fun _ _ _ _ => trivial), ns_call hF hS hFc hU hW⟩⟩ rfl rfl hl.1 rfl (lv_room (Nat.le_of_ble_eq_true rfl)) dX16_word_27 ⟨Nat.le_of_ble_eq_true rfl, Nat.le_of_ble_eq_true rfl⟩) hS (fun q _ h => hFc q h) hFc (fun r9 u t H1 locs ht hvm hw hB hz1 hk1 hS => ?_)
  obtain rfl := hw.symm
  obtain ⟨hP1, hK1, hD1⟩ := hB
  rw [ht] at hP1
  have hK1 := va_K.moved hvm.symm hK1
  obtain ⟨hP, hD⟩ := va_join (wr := [(h1, .inr (6, [.int 0, .ref (g 0), .int 0]))]) (w1 := [(h0, .inr (23, [.int 0, .ref h1, v1, v2, v3, v4, v5, v6, .int 0]))]) hP hD [0] [1] rfl rfl (by decide) (by decide) hk1 hFc hP1 hD1
  have hK := (hK.sub (tys' := []) [] rfl).app hK1
  generalize H1 = H at hP hS ⊢
  have hP : va_P (dC, dI) vwCl [(h1, .inr (6, [.int 0, .ref (g 0), .int 0])), (h0, .inr (23, [.int 0, .ref h1, v1, v2, v3, v4, v5, v6, .int 0]))] H := hP
  have hD : va_D A [(h1, .inr (6, [.int 0, .ref (g 0), .int 0])), (h0, .inr (23, [.int 0, .ref h1, v1, v2, v3, v4, v5, v6, .int 0]))] := hD
  have hK : va_K (dC, dI) vwCl [] s := hK
  refine W.widen (k := 0) (n := 0) (Nat.le_of_ble_eq_true rfl) (Nat.le_of_ble_eq_true rfl) ?_
  refine lv_if_ne (tgt := 45) hx hb dX16_word_30 (by decide) (fun c3 => absurd (by decide) c3) (fun c3 => ?_)
  refine lv_aload_n hx hb dX16_word_33 rfl (lv_at hl 0 rfl) ?_
  refine lv_aload_n hx hb dX16_word_34 rfl (lv_at hl 0 rfl) ?_
  have hPc := hP.sub (ws' := [(h0, .inr (23, [.int 0, .ref h1, v1, v2, v3, v4, v5, v6, .int 0])), (h1, .inr (6, [.int 0, .ref (g 0), .int 0]))]) [1, 0] rfl
  have hDc := hD.sub (ws' := [(h0, .inr (23, [.int 0, .ref h1, v1, v2, v3, v4, v5, v6, .int 0])), (h1, .inr (6, [.int 0, .ref (g 0), .int 0]))]) [1, 0] (by decide) rfl
  have hKc := hK.sub (tys' := []) [] rfl
  have hFc := va_free (wc := [(h0, .inr (23, [.int 0, .ref h1, v1, v2, v3, v4, v5, v6, .int 0])), (h1, .inr (6, [.int 0, .ref (g 0), .int 0]))]) hD hS hA [1, 0] rfl
  refine va_calli (va_runV (As := []) (rest := [.ref h0]) ⟨hx, hb, hml, hown, hts⟩ (kX16_isFull l dC dI g H.size h0 h1 (.int 0) v1 v2 v3 v4 v5 v6 (.int 0) (.int 0) (.ref (g 0)) ) (cwV 0 hts (ns_gp (List.forall_mem_cons.mpr ⟨wm393, (List.forall_mem_cons.mpr ⟨wm394, (List.forall_mem_cons.mpr ⟨wm395, (List.forall_mem_cons.mpr ⟨wm192, (fun _ h9 => nomatch h9)⟩)⟩)⟩)⟩) wm288) rfl rfl rfl (by decide +kernel) ⟨Nat.le_of_ble_eq_true rfl, Nat.le_of_ble_eq_true rfl⟩) ⟨fun a U gg mk q => by obtain ⟨q0, q1, qP, qK, qD, qF⟩ := q; exact ⟨q0, q1, qP, va_K.moved (u := U) (U := U.calling gg mk a) (Vm.Alike.refl U.vm) qK, qD, ns_same qF⟩, va_recv hK hP (ci := 23) (q0 := 1) rfl rfl, fun U hU hW => ⟨rfl, by rw [hU], by rw [hU]; exact hPc, va_K.moved hW.alike hKc, hDc.weaken (fun _ _ _ _ => trivial), ns_call hF hS hFc hU hW⟩⟩ rfl rfl hl.1 rfl (lv_room (Nat.le_of_ble_eq_true rfl)) dX16_word_35 ⟨Nat.le_of_ble_eq_true rfl, Nat.le_of_ble_eq_true rfl⟩) hS (fun q _ h => hFc q h) hFc (fun r9 u t H1 locs ht hvm hw hB hz1 hk1 hS => ?_)
  obtain rfl := hw.symm
  obtain ⟨hP1, hK1, hD1⟩ := hB
  rw [ht] at hP1
  have hK1 := va_K.moved hvm.symm hK1
  obtain ⟨hP, hD⟩ := va_join (wr := []) (w1 := [(h0, .inr (23, [.int 0, .ref h1, v1, v2, v3, v4, v5, v6, .int 0])), (h1, .inr (6, [.int 0, .ref (g 0), .int 0]))]) hP hD [1, 0] [] rfl rfl (by decide) (by decide) hk1 hFc hP1 hD1
  have hK := (hK.sub (tys' := []) [] rfl).app hK1
  generalize H1 = H at hP hS ⊢
  have hP : va_P (dC, dI) vwCl [(h0, .inr (23, [.int 0, .ref h1, v1, v2, v3, v4, v5, v6, .int 0])), (h1, .inr (6, [.int 0, .ref (g 0), .int 0]))] H := hP
  have hD : va_D A [(h0, .inr (23, [.int 0, .ref h1, v1, v2, v3, v4, v5, v6, .int 0])), (h1, .inr (6, [.int 0, .ref (g 0), .int 0]))] := hD
  have hK : va_K (dC, dI) vwCl [] s := hK
  refine W.widen (k := 0) (n := 0) (Nat.le_of_ble_eq_true rfl) (Nat.le_of_ble_eq_true rfl) ?_
  refine lv_iconst (v := 2) hx hb dX16_word_38 (by decide) ?_
  have hPc := hP.sub (ws' := [(h0, .inr (23, [.int 0, .ref h1, v1, v2, v3, v4, v5, v6, .int 0]))]) [0] rfl
  have hDc := hD.sub (ws' := [(h0, .inr (23, [.int 0, .ref h1, v1, v2, v3, v4, v5, v6, .int 0]))]) [0] (by decide) rfl
  have hKc := hK.sub (tys' := []) [] rfl
  have hFc := va_free (wc := [(h0, .inr (23, [.int 0, .ref h1, v1, v2, v3, v4, v5, v6, .int 0]))]) hD hS hA [0] rfl
  refine va_calli (va_runV (As := [.int 0, .int 2]) (rest := []) ⟨hx, hb, hml, hown, hts⟩ (kX16_refuse_3 l dC dI g H.size h0 (.ref h1) v1 v2 v3 v4 v5 v6 (.int 0) ) (cwV 2 hts (ns_gp (List.forall_mem_cons.mpr ⟨wm236, (List.forall_mem_cons.mpr ⟨wm237, (List.forall_mem_cons.mpr ⟨wm238, (List.forall_mem_cons.mpr ⟨wm192, (fun _ h9 => nomatch h9)⟩)⟩)⟩)⟩) wm235) rfl rfl rfl (by decide +kernel) ⟨Nat.le_of_ble_eq_true rfl, Nat.le_of_ble_eq_true rfl⟩) ⟨fun a U gg mk q => by obtain ⟨q0, q1, qP, qK, qD, qF⟩ := q; exact ⟨q0, q1, qP, va_K.moved (u := U) (U := U.calling gg mk a) (Vm.Alike.refl U.vm) qK, qD, ns_same qF⟩, va_recv hK hP (ci := 23) (q0 := 0) rfl rfl, fun U hU hW => ⟨rfl, by rw [hU], by rw [hU]; exact hPc, va_K.moved hW.alike hKc, hDc.weaken (fun _ _ _ _ => trivial), ns_call hF hS hFc hU hW⟩⟩ rfl rfl hl.1 rfl (lv_room (Nat.le_of_ble_eq_true rfl)) dX16_word_39 ⟨Nat.le_of_ble_eq_true rfl, Nat.le_of_ble_eq_true rfl⟩) hS (fun q _ h => hFc q h) hFc (fun r9 u t H1 locs ht hvm hw hB hz1 hk1 hS => ?_)
  obtain rfl := hw.symm
  obtain ⟨hP1, hK1, hD1⟩ := hB
  rw [ht] at hP1
  have hK1 := va_K.moved hvm.symm hK1
  obtain ⟨hP, hD⟩ := va_join (wr := [(h1, .inr (6, [.int 0, .ref (g 0), .int 0]))]) (w1 := [(h0, .inr (23, [.int 0, .ref h1, v1, v2, v3, v4, v5, v6, .int 0]))]) hP hD [0] [1] rfl rfl (by decide) (by decide) hk1 hFc hP1 hD1
  have hK := (hK.sub (tys' := []) [] rfl).app hK1
  generalize H1 = H at hP hS ⊢
  have hP : va_P (dC, dI) vwCl [(h1, .inr (6, [.int 0, .ref (g 0), .int 0])), (h0, .inr (23, [.int 0, .ref h1, v1, v2, v3, v4, v5, v6, .int 0]))] H := hP
  have hD : va_D A [(h1, .inr (6, [.int 0, .ref (g 0), .int 0])), (h0, .inr (23, [.int 0, .ref h1, v1, v2, v3, v4, v5, v6, .int 0]))] := hD
  have hK : va_K (dC, dI) vwCl [] s := hK
  refine W.widen (k := 0) (n := 0) (Nat.le_of_ble_eq_true rfl) (Nat.le_of_ble_eq_true rfl) ?_
  refine lv_if_eq (tgt := 47) hx hb dX16_word_42 (by decide) (fun c4 => ?_) (fun c4 => absurd (by decide) c4)
  refine va_new (ci := 1) (fs := [.null, .int 0, .int 0, .int 0]) (C := RJ4) (T := TJ4) (N := 4) hx hb hta naJ4 tyJ4 tyJ4_ok hown (hta _ wm289) (hta _ wm136) (hta _ wm137) hK hP hD hS hA rfl (fun j hj => by rcases (show j = 0 ∨ j = 1 ∨ j = 2 ∨ j = 3 by omega) with rfl | rfl | rfl | rfl <;> rfl) (Nat.le_of_ble_eq_true rfl) (Nat.le_of_ble_eq_true rfl) dX16_word_47 (fun q5 H hP hD hS => ?_)
  have hP : va_P (dC, dI) vwCl [(h1, .inr (6, [.int 0, .ref (g 0), .int 0])), (h0, .inr (23, [.int 0, .ref h1, v1, v2, v3, v4, v5, v6, .int 0])), (q5, .inr (1, [.null, .int 0, .int 0, .int 0]))] H := hP
  have hD : va_D A [(h1, .inr (6, [.int 0, .ref (g 0), .int 0])), (h0, .inr (23, [.int 0, .ref h1, v1, v2, v3, v4, v5, v6, .int 0])), (q5, .inr (1, [.null, .int 0, .int 0, .int 0]))] := hD
  refine W.widen (k := 1) (n := 4) (Nat.le_of_ble_eq_true rfl) (Nat.le_of_ble_eq_true rfl) ?_
  refine lv_dup hx hb dX16_word_50 rfl ?_
  have hPc := hP.sub (ws' := [(q5, .inr (1, [.null, .int 0, .int 0, .int 0]))]) [2] rfl
  have hDc := hD.sub (ws' := [(q5, .inr (1, [.null, .int 0, .int 0, .int 0]))]) [2] (by decide) rfl
  have hKc := hK.sub (tys' := []) [] rfl
  have hFc := va_free (wc := [(q5, .inr (1, [.null, .int 0, .int 0, .int 0]))]) hD hS hA [2] rfl
  refine va_callv (va_runI (As := []) (rest := [.ref q5]) ⟨hx, hb, hml, hown, hts⟩ (kJ4_init_da8c8 l dC dI g H.size q5 .null (.int 0) (.int 0) (.int 0) ) (cwI 0 hts (ns_g0 wm147) rfl rfl rfl (hta _ wm137) (hta _ wm396) (hta _ wm185) rfl (by decide +kernel) ⟨Nat.le_of_ble_eq_true rfl, Nat.le_of_ble_eq_true rfl⟩) ⟨fun a U gg mk q => by obtain ⟨q0, q1, qP, qK, qD, qF⟩ := q; exact ⟨q0, q1, qP, va_K.moved (u := U) (U := U.calling gg mk a) (Vm.Alike.refl U.vm) qK, qD, ns_same qF⟩, fun U hU hW => ⟨rfl, by rw [hU], by rw [hU]; exact hPc, va_K.moved hW.alike hKc, hDc.weaken (fun _ _ _ _ => trivial), ns_call hF hS hFc hU hW⟩⟩ rfl rfl hl.1 rfl (lv_room (Nat.le_of_ble_eq_true rfl)) dX16_word_51 ⟨Nat.le_of_ble_eq_true rfl, Nat.le_of_ble_eq_true rfl⟩) hS (fun q _ h => hFc q h) hFc (fun u t H1 locs ht hvm hw hB hz1 hk1 hS => ?_)
  obtain ⟨q6, cy7, hP1, hK1, hD1⟩ := hB
  rw [ht] at hP1
  have hK1 := va_K.moved hvm.symm hK1
  obtain ⟨hP, hD⟩ := va_join (wr := [(h1, .inr (6, [.int 0, .ref (g 0), .int 0])), (h0, .inr (23, [.int 0, .ref h1, v1, v2, v3, v4, v5, v6, .int 0]))]) (w1 := [(q5, .inr (1, [.ref q6, .int 0, .int 0, .int 0])), (q6, .inl (cy7, 16, .inl (fun _ => 0)))]) hP hD [2] [0, 1] rfl rfl (by decide) (by decide) hk1 hFc hP1 hD1
  have hK := (hK.sub (tys' := []) [] rfl).app hK1
  generalize H1 = H at hP hS ⊢
  have hP : va_P (dC, dI) vwCl [(h1, .inr (6, [.int 0, .ref (g 0), .int 0])), (h0, .inr (23, [.int 0, .ref h1, v1, v2, v3, v4, v5, v6, .int 0])), (q5, .inr (1, [.ref q6, .int 0, .int 0, .int 0])), (q6, .inl (cy7, 16, .inl (fun _ => 0)))] H := hP
  have hD : va_D A [(h1, .inr (6, [.int 0, .ref (g 0), .int 0])), (h0, .inr (23, [.int 0, .ref h1, v1, v2, v3, v4, v5, v6, .int 0])), (q5, .inr (1, [.ref q6, .int 0, .int 0, .int 0])), (q6, .inl (cy7, 16, .inl (fun _ => 0)))] := hD
  have hK : va_K (dC, dI) vwCl [(cy7, .byte)] s := hK
  refine W.widen (k := 2) (n := 20) (Nat.le_of_ble_eq_true rfl) (Nat.le_of_ble_eq_true rfl) ?_
  refine lv_astore_n (lv' := [(3, .ref q5), (0, .ref h0), (1, .int x0), (2, .int 5)]) hx hb dX16_word_54 rfl hl (by decide) rfl (fun ls hl => ?_)
  refine lv_iconst (v := 0) hx hb dX16_word_55 (by decide) ?_
  refine lv_istore (lv' := [(4, .int 0), (3, .ref q5), (0, .ref h0), (1, .int x0), (2, .int 5)]) hx hb dX16_word_56 hl (by decide) rfl (fun ls hl => ?_)
  refine lv_iload hx hb dX16_word_58 (lv_at hl 0 rfl) ?_
  refine lv_iload_n hx hb dX16_word_60 rfl (lv_at hl 4 rfl) ?_
  refine lv_icmp_ge (tgt := 80) hx hb dX16_word_61 (by decide) (fun c8 => absurd c8 (by decide)) (fun c8 => ?_)
  refine lv_aload_n hx hb dX16_word_64 rfl (lv_at hl 1 rfl) ?_
  refine lv_bipush (v := 97) hx hb dX16_word_65 (by decide) ?_
  refine lv_iload_n hx hb dX16_word_67 rfl (lv_at hl 3 rfl) ?_
  refine lv_iadd hx hb dX16_word_68 ?_
  have r9 : (97 + x0).toInt = (97 : Int) + x0.toInt := fb_addI (show (-2147483648 : Int) ≤ (97 : Int) + x0.toInt by omega) (show (97 : Int) + x0.toInt < (2147483648 : Int) by omega)
  refine lv_i2c (v := (97 + x0)) hx hb dX16_word_69 (ns_i2c (show (0 : Int) ≤ (97 + x0).toInt by omega) (by omega)) ?_
  have hPc := hP.sub (ws' := [(q5, .inr (1, [.ref q6, .int 0, .int 0, .int 0])), (q6, .inl (cy7, 16, .inl (fun _ => 0)))]) [2, 3] rfl
  have hDc := hD.sub (ws' := [(q5, .inr (1, [.ref q6, .int 0, .int 0, .int 0])), (q6, .inl (cy7, 16, .inl (fun _ => 0)))]) [2, 3] (by decide) rfl
  have hKc := hK.sub (tys' := [(cy7, .byte)]) [0] rfl
  have hFc := va_free (wc := [(q5, .inr (1, [.ref q6, .int 0, .int 0, .int 0])), (q6, .inl (cy7, 16, .inl (fun _ => 0)))]) hD hS hA [2, 3] rfl
  refine va_callr (va_runV (As := [.int (97 + x0)]) (rest := []) ⟨hx, hb, hml, hown, hts⟩ (kJ4_append_cf468 l dC dI g H.size q5 (97 + x0) q6 (.int 0) cy7 (fun _ => 0) sb_fit0 ⟨by omega, by omega⟩) (cwV 1 hts (ns_gp (List.forall_mem_cons.mpr ⟨wm397, (List.forall_mem_cons.mpr ⟨wm398, (List.forall_mem_cons.mpr ⟨wm399, (List.forall_mem_cons.mpr ⟨wm137, (fun _ h9 => nomatch h9)⟩)⟩)⟩)⟩) wm310) rfl rfl rfl (by decide +kernel) ⟨Nat.le_of_ble_eq_true rfl, Nat.le_of_ble_eq_true rfl⟩) ⟨fun a U gg mk q => by obtain ⟨q0, q1, qP, qK, qD, qF⟩ := q; exact ⟨q0, q1, qP, va_K.moved (u := U) (U := U.calling gg mk a) (Vm.Alike.refl U.vm) qK, qD, ns_same qF⟩, va_recv hK hP (ci := 1) (q0 := 2) rfl rfl, fun U hU hW => ⟨rfl, by rw [hU], by rw [hU]; exact hPc, va_K.moved hW.alike hKc, hDc.weaken (fun _ _ _ _ => trivial), ns_call hF hS hFc hU hW⟩⟩ rfl rfl hl.1 rfl (lv_room (Nat.le_of_ble_eq_true rfl)) dX16_word_70 ⟨Nat.le_of_ble_eq_true rfl, Nat.le_of_ble_eq_true rfl⟩) hS (fun q _ h => hFc q h) hFc (fun u r9 t H1 locs ht hvm hw hB hz1 hk1 hS => ?_)
  obtain ⟨hr9, hP1, hK1, hD1⟩ := hB
  obtain rfl := hr9.symm
  rw [ht] at hP1
  have hK1 := va_K.moved hvm.symm hK1
  obtain ⟨hP, hD⟩ := va_join (wr := [(h1, .inr (6, [.int 0, .ref (g 0), .int 0])), (h0, .inr (23, [.int 0, .ref h1, v1, v2, v3, v4, v5, v6, .int 0]))]) (w1 := [(q6, .inl (cy7, 16, .inl (upd ((fun _ => 0)) 0 (vp_nar .byte (97 + x0).toInt8.toInt32)))), (q5, .inr (1, [.ref q6, .int 0, .int 0, .int 1]))]) hP hD [2, 3] [0, 1] rfl rfl (by decide) (by decide) hk1 hFc hP1 hD1
  have hK := (hK.sub (tys' := []) [] rfl).app hK1
  generalize H1 = H at hP hS ⊢
  have hP : va_P (dC, dI) vwCl [(h1, .inr (6, [.int 0, .ref (g 0), .int 0])), (h0, .inr (23, [.int 0, .ref h1, v1, v2, v3, v4, v5, v6, .int 0])), (q6, .inl (cy7, 16, .inl (upd ((fun _ => 0)) 0 (vp_nar .byte (97 + x0).toInt8.toInt32)))), (q5, .inr (1, [.ref q6, .int 0, .int 0, .int 1]))] H := hP
  have hD : va_D A [(h1, .inr (6, [.int 0, .ref (g 0), .int 0])), (h0, .inr (23, [.int 0, .ref h1, v1, v2, v3, v4, v5, v6, .int 0])), (q6, .inl (cy7, 16, .inl (upd ((fun _ => 0)) 0 (vp_nar .byte (97 + x0).toInt8.toInt32)))), (q5, .inr (1, [.ref q6, .int 0, .int 0, .int 1]))] := hD
  have hK : va_K (dC, dI) vwCl [(cy7, .byte)] s := hK
  refine W.widen (k := 2) (n := 20) (Nat.le_of_ble_eq_true rfl) (Nat.le_of_ble_eq_true rfl) ?_
  refine lv_pop hx hb dX16_word_73 rfl ?_
  refine lv_iinc (v := 1) (lv' := [(4, .int 1), (3, .ref q5), (0, .ref h0), (1, .int x0), (2, .int 5)]) hx hb dX16_word_74 hl (k := 0) rfl (by decide) (by decide) rfl (fun ls hl => ?_)
  refine lv_goto (tgt := 58) hx hb dX16_word_77 (by decide) ?_
  refine lv_iload hx hb dX16_word_58 (lv_at hl 0 rfl) ?_
  refine lv_iload_n hx hb dX16_word_60 rfl (lv_at hl 4 rfl) ?_
  refine lv_icmp_ge (tgt := 80) hx hb dX16_word_61 (by decide) (fun c10 => absurd c10 (by decide)) (fun c10 => ?_)
  refine lv_aload_n hx hb dX16_word_64 rfl (lv_at hl 1 rfl) ?_
  refine lv_bipush (v := 97) hx hb dX16_word_65 (by decide) ?_
  refine lv_iload_n hx hb dX16_word_67 rfl (lv_at hl 3 rfl) ?_
  refine lv_iadd hx hb dX16_word_68 ?_
  have r11 : (97 + x0).toInt = (97 : Int) + x0.toInt := fb_addI (show (-2147483648 : Int) ≤ (97 : Int) + x0.toInt by omega) (show (97 : Int) + x0.toInt < (2147483648 : Int) by omega)
  refine lv_i2c (v := (97 + x0)) hx hb dX16_word_69 (ns_i2c (show (0 : Int) ≤ (97 + x0).toInt by omega) (by omega)) ?_
  have hPc := hP.sub (ws' := [(q5, .inr (1, [.ref q6, .int 0, .int 0, .int 1])), (q6, .inl (cy7, 16, .inl (upd ((fun _ => 0)) 0 (vp_nar .byte (97 + x0).toInt8.toInt32))))]) [3, 2] rfl
  have hDc := hD.sub (ws' := [(q5, .inr (1, [.ref q6, .int 0, .int 0, .int 1])), (q6, .inl (cy7, 16, .inl (upd ((fun _ => 0)) 0 (vp_nar .byte (97 + x0).toInt8.toInt32))))]) [3, 2] (by decide) rfl
  have hKc := hK.sub (tys' := [(cy7, .byte)]) [0] rfl
  have hFc := va_free (wc := [(q5, .inr (1, [.ref q6, .int 0, .int 0, .int 1])), (q6, .inl (cy7, 16, .inl (upd ((fun _ => 0)) 0 (vp_nar .byte (97 + x0).toInt8.toInt32))))]) hD hS hA [3, 2] rfl
  refine va_callr (va_runV (As := [.int (97 + x0)]) (rest := []) ⟨hx, hb, hml, hown, hts⟩ (kJ4_append_cf468_2 l dC dI g H.size q5 (97 + x0) q6 (.int 0) cy7 (upd ((fun _ => 0)) 0 (vp_nar .byte (97 + x0).toInt8.toInt32)) (sb_fitU sb_fit0 (pk_fb _)) ⟨by omega, by omega⟩) (cwV 1 hts (ns_gp (List.forall_mem_cons.mpr ⟨wm397, (List.forall_mem_cons.mpr ⟨wm398, (List.forall_mem_cons.mpr ⟨wm399, (List.forall_mem_cons.mpr ⟨wm137, (fun _ h9 => nomatch h9)⟩)⟩)⟩)⟩) wm310) rfl rfl rfl (by decide +kernel) ⟨Nat.le_of_ble_eq_true rfl, Nat.le_of_ble_eq_true rfl⟩) ⟨fun a U gg mk q => by obtain ⟨q0, q1, qP, qK, qD, qF⟩ := q; exact ⟨q0, q1, qP, va_K.moved (u := U) (U := U.calling gg mk a) (Vm.Alike.refl U.vm) qK, qD, ns_same qF⟩, va_recv hK hP (ci := 1) (q0 := 3) rfl rfl, fun U hU hW => ⟨rfl, by rw [hU], by rw [hU]; exact hPc, va_K.moved hW.alike hKc, hDc.weaken (fun _ _ _ _ => trivial), ns_call hF hS hFc hU hW⟩⟩ rfl rfl hl.1 rfl (lv_room (Nat.le_of_ble_eq_true rfl)) dX16_word_70 ⟨Nat.le_of_ble_eq_true rfl, Nat.le_of_ble_eq_true rfl⟩) hS (fun q _ h => hFc q h) hFc (fun u r9 t H1 locs ht hvm hw hB hz1 hk1 hS => ?_)
  obtain ⟨hr9, hP1, hK1, hD1⟩ := hB
  obtain rfl := hr9.symm
  rw [ht] at hP1
  have hK1 := va_K.moved hvm.symm hK1
  obtain ⟨hP, hD⟩ := va_join (wr := [(h1, .inr (6, [.int 0, .ref (g 0), .int 0])), (h0, .inr (23, [.int 0, .ref h1, v1, v2, v3, v4, v5, v6, .int 0]))]) (w1 := [(q6, .inl (cy7, 16, .inl (upd ((upd ((fun _ => 0)) 0 (vp_nar .byte (97 + x0).toInt8.toInt32))) 1 (vp_nar .byte (97 + x0).toInt8.toInt32)))), (q5, .inr (1, [.ref q6, .int 0, .int 0, .int 2]))]) hP hD [3, 2] [0, 1] rfl rfl (by decide) (by decide) hk1 hFc hP1 hD1
  have hK := (hK.sub (tys' := []) [] rfl).app hK1
  generalize H1 = H at hP hS ⊢
  have hP : va_P (dC, dI) vwCl [(h1, .inr (6, [.int 0, .ref (g 0), .int 0])), (h0, .inr (23, [.int 0, .ref h1, v1, v2, v3, v4, v5, v6, .int 0])), (q6, .inl (cy7, 16, .inl (upd ((upd ((fun _ => 0)) 0 (vp_nar .byte (97 + x0).toInt8.toInt32))) 1 (vp_nar .byte (97 + x0).toInt8.toInt32)))), (q5, .inr (1, [.ref q6, .int 0, .int 0, .int 2]))] H := hP
  have hD : va_D A [(h1, .inr (6, [.int 0, .ref (g 0), .int 0])), (h0, .inr (23, [.int 0, .ref h1, v1, v2, v3, v4, v5, v6, .int 0])), (q6, .inl (cy7, 16, .inl (upd ((upd ((fun _ => 0)) 0 (vp_nar .byte (97 + x0).toInt8.toInt32))) 1 (vp_nar .byte (97 + x0).toInt8.toInt32)))), (q5, .inr (1, [.ref q6, .int 0, .int 0, .int 2]))] := hD
  have hK : va_K (dC, dI) vwCl [(cy7, .byte)] s := hK
  refine W.widen (k := 2) (n := 20) (Nat.le_of_ble_eq_true rfl) (Nat.le_of_ble_eq_true rfl) ?_
  refine lv_pop hx hb dX16_word_73 rfl ?_
  refine lv_iinc (v := 2) (lv' := [(4, .int 2), (3, .ref q5), (0, .ref h0), (1, .int x0), (2, .int 5)]) hx hb dX16_word_74 hl (k := 0) rfl (by decide) (by decide) rfl (fun ls hl => ?_)
  refine lv_goto (tgt := 58) hx hb dX16_word_77 (by decide) ?_
  refine lv_iload hx hb dX16_word_58 (lv_at hl 0 rfl) ?_
  refine lv_iload_n hx hb dX16_word_60 rfl (lv_at hl 4 rfl) ?_
  refine lv_icmp_ge (tgt := 80) hx hb dX16_word_61 (by decide) (fun c12 => absurd c12 (by decide)) (fun c12 => ?_)
  refine lv_aload_n hx hb dX16_word_64 rfl (lv_at hl 1 rfl) ?_
  refine lv_bipush (v := 97) hx hb dX16_word_65 (by decide) ?_
  refine lv_iload_n hx hb dX16_word_67 rfl (lv_at hl 3 rfl) ?_
  refine lv_iadd hx hb dX16_word_68 ?_
  have r13 : (97 + x0).toInt = (97 : Int) + x0.toInt := fb_addI (show (-2147483648 : Int) ≤ (97 : Int) + x0.toInt by omega) (show (97 : Int) + x0.toInt < (2147483648 : Int) by omega)
  refine lv_i2c (v := (97 + x0)) hx hb dX16_word_69 (ns_i2c (show (0 : Int) ≤ (97 + x0).toInt by omega) (by omega)) ?_
  have hPc := hP.sub (ws' := [(q5, .inr (1, [.ref q6, .int 0, .int 0, .int 2])), (q6, .inl (cy7, 16, .inl (upd ((upd ((fun _ => 0)) 0 (vp_nar .byte (97 + x0).toInt8.toInt32))) 1 (vp_nar .byte (97 + x0).toInt8.toInt32))))]) [3, 2] rfl
  have hDc := hD.sub (ws' := [(q5, .inr (1, [.ref q6, .int 0, .int 0, .int 2])), (q6, .inl (cy7, 16, .inl (upd ((upd ((fun _ => 0)) 0 (vp_nar .byte (97 + x0).toInt8.toInt32))) 1 (vp_nar .byte (97 + x0).toInt8.toInt32))))]) [3, 2] (by decide) rfl
  have hKc := hK.sub (tys' := [(cy7, .byte)]) [0] rfl
  have hFc := va_free (wc := [(q5, .inr (1, [.ref q6, .int 0, .int 0, .int 2])), (q6, .inl (cy7, 16, .inl (upd ((upd ((fun _ => 0)) 0 (vp_nar .byte (97 + x0).toInt8.toInt32))) 1 (vp_nar .byte (97 + x0).toInt8.toInt32))))]) hD hS hA [3, 2] rfl
  refine va_callr (va_runV (As := [.int (97 + x0)]) (rest := []) ⟨hx, hb, hml, hown, hts⟩ (kJ4_append_cf468_3 l dC dI g H.size q5 (97 + x0) q6 (.int 0) cy7 (upd ((upd ((fun _ => 0)) 0 (vp_nar .byte (97 + x0).toInt8.toInt32))) 1 (vp_nar .byte (97 + x0).toInt8.toInt32)) (sb_fitU (sb_fitU sb_fit0 (pk_fb _)) (pk_fb _)) ⟨by omega, by omega⟩) (cwV 1 hts (ns_gp (List.forall_mem_cons.mpr ⟨wm397, (List.forall_mem_cons.mpr ⟨wm398, (List.forall_mem_cons.mpr ⟨wm399, (List.forall_mem_cons.mpr ⟨wm137, (fun _ h9 => nomatch h9)⟩)⟩)⟩)⟩) wm310) rfl rfl rfl (by decide +kernel) ⟨Nat.le_of_ble_eq_true rfl, Nat.le_of_ble_eq_true rfl⟩) ⟨fun a U gg mk q => by obtain ⟨q0, q1, qP, qK, qD, qF⟩ := q; exact ⟨q0, q1, qP, va_K.moved (u := U) (U := U.calling gg mk a) (Vm.Alike.refl U.vm) qK, qD, ns_same qF⟩, va_recv hK hP (ci := 1) (q0 := 3) rfl rfl, fun U hU hW => ⟨rfl, by rw [hU], by rw [hU]; exact hPc, va_K.moved hW.alike hKc, hDc.weaken (fun _ _ _ _ => trivial), ns_call hF hS hFc hU hW⟩⟩ rfl rfl hl.1 rfl (lv_room (Nat.le_of_ble_eq_true rfl)) dX16_word_70 ⟨Nat.le_of_ble_eq_true rfl, Nat.le_of_ble_eq_true rfl⟩) hS (fun q _ h => hFc q h) hFc (fun u r9 t H1 locs ht hvm hw hB hz1 hk1 hS => ?_)
  obtain ⟨hr9, hP1, hK1, hD1⟩ := hB
  obtain rfl := hr9.symm
  rw [ht] at hP1
  have hK1 := va_K.moved hvm.symm hK1
  obtain ⟨hP, hD⟩ := va_join (wr := [(h1, .inr (6, [.int 0, .ref (g 0), .int 0])), (h0, .inr (23, [.int 0, .ref h1, v1, v2, v3, v4, v5, v6, .int 0]))]) (w1 := [(q6, .inl (cy7, 16, .inl (upd ((upd ((upd ((fun _ => 0)) 0 (vp_nar .byte (97 + x0).toInt8.toInt32))) 1 (vp_nar .byte (97 + x0).toInt8.toInt32))) 2 (vp_nar .byte (97 + x0).toInt8.toInt32)))), (q5, .inr (1, [.ref q6, .int 0, .int 0, .int 3]))]) hP hD [3, 2] [0, 1] rfl rfl (by decide) (by decide) hk1 hFc hP1 hD1
  have hK := (hK.sub (tys' := []) [] rfl).app hK1
  generalize H1 = H at hP hS ⊢
  have hP : va_P (dC, dI) vwCl [(h1, .inr (6, [.int 0, .ref (g 0), .int 0])), (h0, .inr (23, [.int 0, .ref h1, v1, v2, v3, v4, v5, v6, .int 0])), (q6, .inl (cy7, 16, .inl (upd ((upd ((upd ((fun _ => 0)) 0 (vp_nar .byte (97 + x0).toInt8.toInt32))) 1 (vp_nar .byte (97 + x0).toInt8.toInt32))) 2 (vp_nar .byte (97 + x0).toInt8.toInt32)))), (q5, .inr (1, [.ref q6, .int 0, .int 0, .int 3]))] H := hP
  have hD : va_D A [(h1, .inr (6, [.int 0, .ref (g 0), .int 0])), (h0, .inr (23, [.int 0, .ref h1, v1, v2, v3, v4, v5, v6, .int 0])), (q6, .inl (cy7, 16, .inl (upd ((upd ((upd ((fun _ => 0)) 0 (vp_nar .byte (97 + x0).toInt8.toInt32))) 1 (vp_nar .byte (97 + x0).toInt8.toInt32))) 2 (vp_nar .byte (97 + x0).toInt8.toInt32)))), (q5, .inr (1, [.ref q6, .int 0, .int 0, .int 3]))] := hD
  have hK : va_K (dC, dI) vwCl [(cy7, .byte)] s := hK
  refine W.widen (k := 2) (n := 20) (Nat.le_of_ble_eq_true rfl) (Nat.le_of_ble_eq_true rfl) ?_
  refine lv_pop hx hb dX16_word_73 rfl ?_
  refine lv_iinc (v := 3) (lv' := [(4, .int 3), (3, .ref q5), (0, .ref h0), (1, .int x0), (2, .int 5)]) hx hb dX16_word_74 hl (k := 0) rfl (by decide) (by decide) rfl (fun ls hl => ?_)
  refine lv_goto (tgt := 58) hx hb dX16_word_77 (by decide) ?_
  refine lv_iload hx hb dX16_word_58 (lv_at hl 0 rfl) ?_
  refine lv_iload_n hx hb dX16_word_60 rfl (lv_at hl 4 rfl) ?_
  refine lv_icmp_ge (tgt := 80) hx hb dX16_word_61 (by decide) (fun c14 => absurd c14 (by decide)) (fun c14 => ?_)
  refine lv_aload_n hx hb dX16_word_64 rfl (lv_at hl 1 rfl) ?_
  refine lv_bipush (v := 97) hx hb dX16_word_65 (by decide) ?_
  refine lv_iload_n hx hb dX16_word_67 rfl (lv_at hl 3 rfl) ?_
  refine lv_iadd hx hb dX16_word_68 ?_
  have r15 : (97 + x0).toInt = (97 : Int) + x0.toInt := fb_addI (show (-2147483648 : Int) ≤ (97 : Int) + x0.toInt by omega) (show (97 : Int) + x0.toInt < (2147483648 : Int) by omega)
  refine lv_i2c (v := (97 + x0)) hx hb dX16_word_69 (ns_i2c (show (0 : Int) ≤ (97 + x0).toInt by omega) (by omega)) ?_
  have hPc := hP.sub (ws' := [(q5, .inr (1, [.ref q6, .int 0, .int 0, .int 3])), (q6, .inl (cy7, 16, .inl (upd ((upd ((upd ((fun _ => 0)) 0 (vp_nar .byte (97 + x0).toInt8.toInt32))) 1 (vp_nar .byte (97 + x0).toInt8.toInt32))) 2 (vp_nar .byte (97 + x0).toInt8.toInt32))))]) [3, 2] rfl
  have hDc := hD.sub (ws' := [(q5, .inr (1, [.ref q6, .int 0, .int 0, .int 3])), (q6, .inl (cy7, 16, .inl (upd ((upd ((upd ((fun _ => 0)) 0 (vp_nar .byte (97 + x0).toInt8.toInt32))) 1 (vp_nar .byte (97 + x0).toInt8.toInt32))) 2 (vp_nar .byte (97 + x0).toInt8.toInt32))))]) [3, 2] (by decide) rfl
  have hKc := hK.sub (tys' := [(cy7, .byte)]) [0] rfl
  have hFc := va_free (wc := [(q5, .inr (1, [.ref q6, .int 0, .int 0, .int 3])), (q6, .inl (cy7, 16, .inl (upd ((upd ((upd ((fun _ => 0)) 0 (vp_nar .byte (97 + x0).toInt8.toInt32))) 1 (vp_nar .byte (97 + x0).toInt8.toInt32))) 2 (vp_nar .byte (97 + x0).toInt8.toInt32))))]) hD hS hA [3, 2] rfl
  refine va_callr (va_runV (As := [.int (97 + x0)]) (rest := []) ⟨hx, hb, hml, hown, hts⟩ (kJ4_append_cf468_4 l dC dI g H.size q5 (97 + x0) q6 (.int 0) cy7 (upd ((upd ((upd ((fun _ => 0)) 0 (vp_nar .byte (97 + x0).toInt8.toInt32))) 1 (vp_nar .byte (97 + x0).toInt8.toInt32))) 2 (vp_nar .byte (97 + x0).toInt8.toInt32)) (sb_fitU (sb_fitU (sb_fitU sb_fit0 (pk_fb _)) (pk_fb _)) (pk_fb _)) ⟨by omega, by omega⟩) (cwV 1 hts (ns_gp (List.forall_mem_cons.mpr ⟨wm397, (List.forall_mem_cons.mpr ⟨wm398, (List.forall_mem_cons.mpr ⟨wm399, (List.forall_mem_cons.mpr ⟨wm137, (fun _ h9 => nomatch h9)⟩)⟩)⟩)⟩) wm310) rfl rfl rfl (by decide +kernel) ⟨Nat.le_of_ble_eq_true rfl, Nat.le_of_ble_eq_true rfl⟩) ⟨fun a U gg mk q => by obtain ⟨q0, q1, qP, qK, qD, qF⟩ := q; exact ⟨q0, q1, qP, va_K.moved (u := U) (U := U.calling gg mk a) (Vm.Alike.refl U.vm) qK, qD, ns_same qF⟩, va_recv hK hP (ci := 1) (q0 := 3) rfl rfl, fun U hU hW => ⟨rfl, by rw [hU], by rw [hU]; exact hPc, va_K.moved hW.alike hKc, hDc.weaken (fun _ _ _ _ => trivial), ns_call hF hS hFc hU hW⟩⟩ rfl rfl hl.1 rfl (lv_room (Nat.le_of_ble_eq_true rfl)) dX16_word_70 ⟨Nat.le_of_ble_eq_true rfl, Nat.le_of_ble_eq_true rfl⟩) hS (fun q _ h => hFc q h) hFc (fun u r9 t H1 locs ht hvm hw hB hz1 hk1 hS => ?_)
  obtain ⟨hr9, hP1, hK1, hD1⟩ := hB
  obtain rfl := hr9.symm
  rw [ht] at hP1
  have hK1 := va_K.moved hvm.symm hK1
  obtain ⟨hP, hD⟩ := va_join (wr := [(h1, .inr (6, [.int 0, .ref (g 0), .int 0])), (h0, .inr (23, [.int 0, .ref h1, v1, v2, v3, v4, v5, v6, .int 0]))]) (w1 := [(q6, .inl (cy7, 16, .inl (upd ((upd ((upd ((upd ((fun _ => 0)) 0 (vp_nar .byte (97 + x0).toInt8.toInt32))) 1 (vp_nar .byte (97 + x0).toInt8.toInt32))) 2 (vp_nar .byte (97 + x0).toInt8.toInt32))) 3 (vp_nar .byte (97 + x0).toInt8.toInt32)))), (q5, .inr (1, [.ref q6, .int 0, .int 0, .int 4]))]) hP hD [3, 2] [0, 1] rfl rfl (by decide) (by decide) hk1 hFc hP1 hD1
  have hK := (hK.sub (tys' := []) [] rfl).app hK1
  generalize H1 = H at hP hS ⊢
  have hP : va_P (dC, dI) vwCl [(h1, .inr (6, [.int 0, .ref (g 0), .int 0])), (h0, .inr (23, [.int 0, .ref h1, v1, v2, v3, v4, v5, v6, .int 0])), (q6, .inl (cy7, 16, .inl (upd ((upd ((upd ((upd ((fun _ => 0)) 0 (vp_nar .byte (97 + x0).toInt8.toInt32))) 1 (vp_nar .byte (97 + x0).toInt8.toInt32))) 2 (vp_nar .byte (97 + x0).toInt8.toInt32))) 3 (vp_nar .byte (97 + x0).toInt8.toInt32)))), (q5, .inr (1, [.ref q6, .int 0, .int 0, .int 4]))] H := hP
  have hD : va_D A [(h1, .inr (6, [.int 0, .ref (g 0), .int 0])), (h0, .inr (23, [.int 0, .ref h1, v1, v2, v3, v4, v5, v6, .int 0])), (q6, .inl (cy7, 16, .inl (upd ((upd ((upd ((upd ((fun _ => 0)) 0 (vp_nar .byte (97 + x0).toInt8.toInt32))) 1 (vp_nar .byte (97 + x0).toInt8.toInt32))) 2 (vp_nar .byte (97 + x0).toInt8.toInt32))) 3 (vp_nar .byte (97 + x0).toInt8.toInt32)))), (q5, .inr (1, [.ref q6, .int 0, .int 0, .int 4]))] := hD
  have hK : va_K (dC, dI) vwCl [(cy7, .byte)] s := hK
  refine W.widen (k := 2) (n := 20) (Nat.le_of_ble_eq_true rfl) (Nat.le_of_ble_eq_true rfl) ?_
  refine lv_pop hx hb dX16_word_73 rfl ?_
  refine lv_iinc (v := 4) (lv' := [(4, .int 4), (3, .ref q5), (0, .ref h0), (1, .int x0), (2, .int 5)]) hx hb dX16_word_74 hl (k := 0) rfl (by decide) (by decide) rfl (fun ls hl => ?_)
  refine lv_goto (tgt := 58) hx hb dX16_word_77 (by decide) ?_
  refine lv_iload hx hb dX16_word_58 (lv_at hl 0 rfl) ?_
  refine lv_iload_n hx hb dX16_word_60 rfl (lv_at hl 4 rfl) ?_
  refine lv_icmp_ge (tgt := 80) hx hb dX16_word_61 (by decide) (fun c16 => absurd c16 (by decide)) (fun c16 => ?_)
  refine lv_aload_n hx hb dX16_word_64 rfl (lv_at hl 1 rfl) ?_
  refine lv_bipush (v := 97) hx hb dX16_word_65 (by decide) ?_
  refine lv_iload_n hx hb dX16_word_67 rfl (lv_at hl 3 rfl) ?_
  refine lv_iadd hx hb dX16_word_68 ?_
  have r17 : (97 + x0).toInt = (97 : Int) + x0.toInt := fb_addI (show (-2147483648 : Int) ≤ (97 : Int) + x0.toInt by omega) (show (97 : Int) + x0.toInt < (2147483648 : Int) by omega)
  refine lv_i2c (v := (97 + x0)) hx hb dX16_word_69 (ns_i2c (show (0 : Int) ≤ (97 + x0).toInt by omega) (by omega)) ?_
  have hPc := hP.sub (ws' := [(q5, .inr (1, [.ref q6, .int 0, .int 0, .int 4])), (q6, .inl (cy7, 16, .inl (upd ((upd ((upd ((upd ((fun _ => 0)) 0 (vp_nar .byte (97 + x0).toInt8.toInt32))) 1 (vp_nar .byte (97 + x0).toInt8.toInt32))) 2 (vp_nar .byte (97 + x0).toInt8.toInt32))) 3 (vp_nar .byte (97 + x0).toInt8.toInt32))))]) [3, 2] rfl
  have hDc := hD.sub (ws' := [(q5, .inr (1, [.ref q6, .int 0, .int 0, .int 4])), (q6, .inl (cy7, 16, .inl (upd ((upd ((upd ((upd ((fun _ => 0)) 0 (vp_nar .byte (97 + x0).toInt8.toInt32))) 1 (vp_nar .byte (97 + x0).toInt8.toInt32))) 2 (vp_nar .byte (97 + x0).toInt8.toInt32))) 3 (vp_nar .byte (97 + x0).toInt8.toInt32))))]) [3, 2] (by decide) rfl
  have hKc := hK.sub (tys' := [(cy7, .byte)]) [0] rfl
  have hFc := va_free (wc := [(q5, .inr (1, [.ref q6, .int 0, .int 0, .int 4])), (q6, .inl (cy7, 16, .inl (upd ((upd ((upd ((upd ((fun _ => 0)) 0 (vp_nar .byte (97 + x0).toInt8.toInt32))) 1 (vp_nar .byte (97 + x0).toInt8.toInt32))) 2 (vp_nar .byte (97 + x0).toInt8.toInt32))) 3 (vp_nar .byte (97 + x0).toInt8.toInt32))))]) hD hS hA [3, 2] rfl
  refine va_callr (va_runV (As := [.int (97 + x0)]) (rest := []) ⟨hx, hb, hml, hown, hts⟩ (kJ4_append_cf468_5 l dC dI g H.size q5 (97 + x0) q6 (.int 0) cy7 (upd ((upd ((upd ((upd ((fun _ => 0)) 0 (vp_nar .byte (97 + x0).toInt8.toInt32))) 1 (vp_nar .byte (97 + x0).toInt8.toInt32))) 2 (vp_nar .byte (97 + x0).toInt8.toInt32))) 3 (vp_nar .byte (97 + x0).toInt8.toInt32)) (sb_fitU (sb_fitU (sb_fitU (sb_fitU sb_fit0 (pk_fb _)) (pk_fb _)) (pk_fb _)) (pk_fb _)) ⟨by omega, by omega⟩) (cwV 1 hts (ns_gp (List.forall_mem_cons.mpr ⟨wm397, (List.forall_mem_cons.mpr ⟨wm398, (List.forall_mem_cons.mpr ⟨wm399, (List.forall_mem_cons.mpr ⟨wm137, (fun _ h9 => nomatch h9)⟩)⟩)⟩)⟩) wm310) rfl rfl rfl (by decide +kernel) ⟨Nat.le_of_ble_eq_true rfl, Nat.le_of_ble_eq_true rfl⟩) ⟨fun a U gg mk q => by obtain ⟨q0, q1, qP, qK, qD, qF⟩ := q; exact ⟨q0, q1, qP, va_K.moved (u := U) (U := U.calling gg mk a) (Vm.Alike.refl U.vm) qK, qD, ns_same qF⟩, va_recv hK hP (ci := 1) (q0 := 3) rfl rfl, fun U hU hW => ⟨rfl, by rw [hU], by rw [hU]; exact hPc, va_K.moved hW.alike hKc, hDc.weaken (fun _ _ _ _ => trivial), ns_call hF hS hFc hU hW⟩⟩ rfl rfl hl.1 rfl (lv_room (Nat.le_of_ble_eq_true rfl)) dX16_word_70 ⟨Nat.le_of_ble_eq_true rfl, Nat.le_of_ble_eq_true rfl⟩) hS (fun q _ h => hFc q h) hFc (fun u r9 t H1 locs ht hvm hw hB hz1 hk1 hS => ?_)
  obtain ⟨hr9, hP1, hK1, hD1⟩ := hB
  obtain rfl := hr9.symm
  rw [ht] at hP1
  have hK1 := va_K.moved hvm.symm hK1
  obtain ⟨hP, hD⟩ := va_join (wr := [(h1, .inr (6, [.int 0, .ref (g 0), .int 0])), (h0, .inr (23, [.int 0, .ref h1, v1, v2, v3, v4, v5, v6, .int 0]))]) (w1 := [(q6, .inl (cy7, 16, .inl (upd ((upd ((upd ((upd ((upd ((fun _ => 0)) 0 (vp_nar .byte (97 + x0).toInt8.toInt32))) 1 (vp_nar .byte (97 + x0).toInt8.toInt32))) 2 (vp_nar .byte (97 + x0).toInt8.toInt32))) 3 (vp_nar .byte (97 + x0).toInt8.toInt32))) 4 (vp_nar .byte (97 + x0).toInt8.toInt32)))), (q5, .inr (1, [.ref q6, .int 0, .int 0, .int 5]))]) hP hD [3, 2] [0, 1] rfl rfl (by decide) (by decide) hk1 hFc hP1 hD1
  have hK := (hK.sub (tys' := []) [] rfl).app hK1
  generalize H1 = H at hP hS ⊢
  have hP : va_P (dC, dI) vwCl [(h1, .inr (6, [.int 0, .ref (g 0), .int 0])), (h0, .inr (23, [.int 0, .ref h1, v1, v2, v3, v4, v5, v6, .int 0])), (q6, .inl (cy7, 16, .inl (upd ((upd ((upd ((upd ((upd ((fun _ => 0)) 0 (vp_nar .byte (97 + x0).toInt8.toInt32))) 1 (vp_nar .byte (97 + x0).toInt8.toInt32))) 2 (vp_nar .byte (97 + x0).toInt8.toInt32))) 3 (vp_nar .byte (97 + x0).toInt8.toInt32))) 4 (vp_nar .byte (97 + x0).toInt8.toInt32)))), (q5, .inr (1, [.ref q6, .int 0, .int 0, .int 5]))] H := hP
  have hD : va_D A [(h1, .inr (6, [.int 0, .ref (g 0), .int 0])), (h0, .inr (23, [.int 0, .ref h1, v1, v2, v3, v4, v5, v6, .int 0])), (q6, .inl (cy7, 16, .inl (upd ((upd ((upd ((upd ((upd ((fun _ => 0)) 0 (vp_nar .byte (97 + x0).toInt8.toInt32))) 1 (vp_nar .byte (97 + x0).toInt8.toInt32))) 2 (vp_nar .byte (97 + x0).toInt8.toInt32))) 3 (vp_nar .byte (97 + x0).toInt8.toInt32))) 4 (vp_nar .byte (97 + x0).toInt8.toInt32)))), (q5, .inr (1, [.ref q6, .int 0, .int 0, .int 5]))] := hD
  have hK : va_K (dC, dI) vwCl [(cy7, .byte)] s := hK
  refine W.widen (k := 2) (n := 20) (Nat.le_of_ble_eq_true rfl) (Nat.le_of_ble_eq_true rfl) ?_
  refine lv_pop hx hb dX16_word_73 rfl ?_
  refine lv_iinc (v := 5) (lv' := [(4, .int 5), (3, .ref q5), (0, .ref h0), (1, .int x0), (2, .int 5)]) hx hb dX16_word_74 hl (k := 0) rfl (by decide) (by decide) rfl (fun ls hl => ?_)
  refine lv_goto (tgt := 58) hx hb dX16_word_77 (by decide) ?_
  refine lv_iload hx hb dX16_word_58 (lv_at hl 0 rfl) ?_
  refine lv_iload_n hx hb dX16_word_60 rfl (lv_at hl 4 rfl) ?_
  refine lv_icmp_ge (tgt := 80) hx hb dX16_word_61 (by decide) (fun c18 => ?_) (fun c18 => absurd (by decide) c18)
  refine lv_aload_n hx hb dX16_word_80 rfl (lv_at hl 2 rfl) ?_
  refine va_new (ci := 18) (fs := [.int 0, .null, .int 0, .null]) (C := RX11) (T := TX11) (N := 4) hx hb hta naX11 tyX11 tyX11_ok hown (hta _ wm311) (hta _ wm312) (hta _ wm313) hK hP hD hS hA rfl (fun j hj => by rcases (show j = 0 ∨ j = 1 ∨ j = 2 ∨ j = 3 by omega) with rfl | rfl | rfl | rfl <;> rfl) (Nat.le_of_ble_eq_true rfl) (Nat.le_of_ble_eq_true rfl) dX16_word_81 (fun q19 H hP hD hS => ?_)
  have hP : va_P (dC, dI) vwCl [(h1, .inr (6, [.int 0, .ref (g 0), .int 0])), (h0, .inr (23, [.int 0, .ref h1, v1, v2, v3, v4, v5, v6, .int 0])), (q6, .inl (cy7, 16, .inl (upd ((upd ((upd ((upd ((upd ((fun _ => 0)) 0 (vp_nar .byte (97 + x0).toInt8.toInt32))) 1 (vp_nar .byte (97 + x0).toInt8.toInt32))) 2 (vp_nar .byte (97 + x0).toInt8.toInt32))) 3 (vp_nar .byte (97 + x0).toInt8.toInt32))) 4 (vp_nar .byte (97 + x0).toInt8.toInt32)))), (q5, .inr (1, [.ref q6, .int 0, .int 0, .int 5])), (q19, .inr (18, [.int 0, .null, .int 0, .null]))] H := hP
  have hD : va_D A [(h1, .inr (6, [.int 0, .ref (g 0), .int 0])), (h0, .inr (23, [.int 0, .ref h1, v1, v2, v3, v4, v5, v6, .int 0])), (q6, .inl (cy7, 16, .inl (upd ((upd ((upd ((upd ((upd ((fun _ => 0)) 0 (vp_nar .byte (97 + x0).toInt8.toInt32))) 1 (vp_nar .byte (97 + x0).toInt8.toInt32))) 2 (vp_nar .byte (97 + x0).toInt8.toInt32))) 3 (vp_nar .byte (97 + x0).toInt8.toInt32))) 4 (vp_nar .byte (97 + x0).toInt8.toInt32)))), (q5, .inr (1, [.ref q6, .int 0, .int 0, .int 5])), (q19, .inr (18, [.int 0, .null, .int 0, .null]))] := hD
  refine W.widen (k := 3) (n := 24) (Nat.le_of_ble_eq_true rfl) (Nat.le_of_ble_eq_true rfl) ?_
  refine lv_dup hx hb dX16_word_84 rfl ?_
  refine lv_iconst (v := 0) hx hb dX16_word_85 (by decide) ?_
  refine lv_aload_n hx hb dX16_word_86 rfl (lv_at hl 1 rfl) ?_
  have hPc := hP.sub (ws' := [(q5, .inr (1, [.ref q6, .int 0, .int 0, .int 5])), (q6, .inl (cy7, 16, .inl (upd ((upd ((upd ((upd ((upd ((fun _ => 0)) 0 (vp_nar .byte (97 + x0).toInt8.toInt32))) 1 (vp_nar .byte (97 + x0).toInt8.toInt32))) 2 (vp_nar .byte (97 + x0).toInt8.toInt32))) 3 (vp_nar .byte (97 + x0).toInt8.toInt32))) 4 (vp_nar .byte (97 + x0).toInt8.toInt32))))]) [3, 2] rfl
  have hDc := hD.sub (ws' := [(q5, .inr (1, [.ref q6, .int 0, .int 0, .int 5])), (q6, .inl (cy7, 16, .inl (upd ((upd ((upd ((upd ((upd ((fun _ => 0)) 0 (vp_nar .byte (97 + x0).toInt8.toInt32))) 1 (vp_nar .byte (97 + x0).toInt8.toInt32))) 2 (vp_nar .byte (97 + x0).toInt8.toInt32))) 3 (vp_nar .byte (97 + x0).toInt8.toInt32))) 4 (vp_nar .byte (97 + x0).toInt8.toInt32))))]) [3, 2] (by decide) rfl
  have hKc := hK.sub (tys' := [(cy7, .byte)]) [0] rfl
  have hFc := va_free (wc := [(q5, .inr (1, [.ref q6, .int 0, .int 0, .int 5])), (q6, .inl (cy7, 16, .inl (upd ((upd ((upd ((upd ((upd ((fun _ => 0)) 0 (vp_nar .byte (97 + x0).toInt8.toInt32))) 1 (vp_nar .byte (97 + x0).toInt8.toInt32))) 2 (vp_nar .byte (97 + x0).toInt8.toInt32))) 3 (vp_nar .byte (97 + x0).toInt8.toInt32))) 4 (vp_nar .byte (97 + x0).toInt8.toInt32))))]) hD hS hA [3, 2] rfl
  refine va_callr (va_runV (As := []) (rest := [.int 0, .ref q19, .ref q19, .ref h0]) ⟨hx, hb, hml, hown, hts⟩ (kJ4_toString_0e30d_5 l dC dI g H.size q5 q6 (.int 0) cy7 (upd ((upd ((upd ((upd ((upd ((fun _ => 0)) 0 (vp_nar .byte (97 + x0).toInt8.toInt32))) 1 (vp_nar .byte (97 + x0).toInt8.toInt32))) 2 (vp_nar .byte (97 + x0).toInt8.toInt32))) 3 (vp_nar .byte (97 + x0).toInt8.toInt32))) 4 (vp_nar .byte (97 + x0).toInt8.toInt32)) (sb_fitU (sb_fitU (sb_fitU (sb_fitU (sb_fitU sb_fit0 (pk_fb _)) (pk_fb _)) (pk_fb _)) (pk_fb _)) (pk_fb _)) ) (cwV 0 hts (ns_gp (List.forall_mem_cons.mpr ⟨wm400, (List.forall_mem_cons.mpr ⟨wm401, (List.forall_mem_cons.mpr ⟨wm402, (List.forall_mem_cons.mpr ⟨wm137, (fun _ h9 => nomatch h9)⟩)⟩)⟩)⟩) wm360) rfl rfl rfl (by decide +kernel) ⟨Nat.le_of_ble_eq_true rfl, Nat.le_of_ble_eq_true rfl⟩) ⟨fun a U gg mk q => by obtain ⟨q0, q1, qP, qK, qD, qF⟩ := q; exact ⟨q0, q1, qP, va_K.moved (u := U) (U := U.calling gg mk a) (Vm.Alike.refl U.vm) qK, qD, ns_same qF⟩, va_recv hK hP (ci := 1) (q0 := 3) rfl rfl, fun U hU hW => ⟨rfl, by rw [hU], by rw [hU]; exact hPc, va_K.moved hW.alike hKc, hDc.weaken (fun _ _ _ _ => trivial), ns_call hF hS hFc hU hW⟩⟩ rfl rfl hl.1 rfl (lv_room (Nat.le_of_ble_eq_true rfl)) dX16_word_87 ⟨Nat.le_of_ble_eq_true rfl, Nat.le_of_ble_eq_true rfl⟩) hS (fun q _ h => hFc q h) hFc (fun u r9 t H1 locs ht hvm hw hB hz1 hk1 hS => ?_)
  obtain ⟨q20, q21, cy22, hr9, hP1, hK1, hD1⟩ := hB
  obtain rfl := hr9.symm
  rw [ht] at hP1
  have hK1 := va_K.moved hvm.symm hK1
  obtain ⟨hP, hD⟩ := va_join (wr := [(h1, .inr (6, [.int 0, .ref (g 0), .int 0])), (h0, .inr (23, [.int 0, .ref h1, v1, v2, v3, v4, v5, v6, .int 0])), (q19, .inr (18, [.int 0, .null, .int 0, .null]))]) (w1 := [(q20, .inr (0, [.ref q21, .int 0, .int 0, .int 0])), (q5, .inr (1, [.ref q6, .int 0, .int 0, .int 5])), (q6, .inl (cy7, 16, .inl (upd ((upd ((upd ((upd ((upd ((fun _ => 0)) 0 (vp_nar .byte (97 + x0).toInt8.toInt32))) 1 (vp_nar .byte (97 + x0).toInt8.toInt32))) 2 (vp_nar .byte (97 + x0).toInt8.toInt32))) 3 (vp_nar .byte (97 + x0).toInt8.toInt32))) 4 (vp_nar .byte (97 + x0).toInt8.toInt32)))), (q21, .inl (cy22, 5, .inl (va_cpy ((upd ((upd ((upd ((upd ((upd ((fun _ => 0)) 0 (vp_nar .byte (97 + x0).toInt8.toInt32))) 1 (vp_nar .byte (97 + x0).toInt8.toInt32))) 2 (vp_nar .byte (97 + x0).toInt8.toInt32))) 3 (vp_nar .byte (97 + x0).toInt8.toInt32))) 4 (vp_nar .byte (97 + x0).toInt8.toInt32))) (fun _ => 0) 0 0 5)))]) hP hD [3, 2] [0, 1, 4] rfl rfl (by decide) (by decide) hk1 hFc hP1 hD1
  have hK := (hK.sub (tys' := []) [] rfl).app hK1
  generalize H1 = H at hP hS ⊢
  have hP : va_P (dC, dI) vwCl [(h1, .inr (6, [.int 0, .ref (g 0), .int 0])), (h0, .inr (23, [.int 0, .ref h1, v1, v2, v3, v4, v5, v6, .int 0])), (q19, .inr (18, [.int 0, .null, .int 0, .null])), (q20, .inr (0, [.ref q21, .int 0, .int 0, .int 0])), (q5, .inr (1, [.ref q6, .int 0, .int 0, .int 5])), (q6, .inl (cy7, 16, .inl (upd ((upd ((upd ((upd ((upd ((fun _ => 0)) 0 (vp_nar .byte (97 + x0).toInt8.toInt32))) 1 (vp_nar .byte (97 + x0).toInt8.toInt32))) 2 (vp_nar .byte (97 + x0).toInt8.toInt32))) 3 (vp_nar .byte (97 + x0).toInt8.toInt32))) 4 (vp_nar .byte (97 + x0).toInt8.toInt32)))), (q21, .inl (cy22, 5, .inl (va_cpy ((upd ((upd ((upd ((upd ((upd ((fun _ => 0)) 0 (vp_nar .byte (97 + x0).toInt8.toInt32))) 1 (vp_nar .byte (97 + x0).toInt8.toInt32))) 2 (vp_nar .byte (97 + x0).toInt8.toInt32))) 3 (vp_nar .byte (97 + x0).toInt8.toInt32))) 4 (vp_nar .byte (97 + x0).toInt8.toInt32))) (fun _ => 0) 0 0 5)))] H := hP
  have hD : va_D A [(h1, .inr (6, [.int 0, .ref (g 0), .int 0])), (h0, .inr (23, [.int 0, .ref h1, v1, v2, v3, v4, v5, v6, .int 0])), (q19, .inr (18, [.int 0, .null, .int 0, .null])), (q20, .inr (0, [.ref q21, .int 0, .int 0, .int 0])), (q5, .inr (1, [.ref q6, .int 0, .int 0, .int 5])), (q6, .inl (cy7, 16, .inl (upd ((upd ((upd ((upd ((upd ((fun _ => 0)) 0 (vp_nar .byte (97 + x0).toInt8.toInt32))) 1 (vp_nar .byte (97 + x0).toInt8.toInt32))) 2 (vp_nar .byte (97 + x0).toInt8.toInt32))) 3 (vp_nar .byte (97 + x0).toInt8.toInt32))) 4 (vp_nar .byte (97 + x0).toInt8.toInt32)))), (q21, .inl (cy22, 5, .inl (va_cpy ((upd ((upd ((upd ((upd ((upd ((fun _ => 0)) 0 (vp_nar .byte (97 + x0).toInt8.toInt32))) 1 (vp_nar .byte (97 + x0).toInt8.toInt32))) 2 (vp_nar .byte (97 + x0).toInt8.toInt32))) 3 (vp_nar .byte (97 + x0).toInt8.toInt32))) 4 (vp_nar .byte (97 + x0).toInt8.toInt32))) (fun _ => 0) 0 0 5)))] := hD
  have hK : va_K (dC, dI) vwCl [(cy7, .byte), (cy22, .byte)] s := hK
  refine W.widen (k := 5) (n := 33) (Nat.le_of_ble_eq_true rfl) (Nat.le_of_ble_eq_true rfl) ?_
  refine lv_iconst (v := 0) hx hb dX16_word_90 (by decide) ?_
  have hPc := hP.sub (ws' := [(q19, .inr (18, [.int 0, .null, .int 0, .null]))]) [2] rfl
  have hDc := hD.sub (ws' := [(q19, .inr (18, [.int 0, .null, .int 0, .null]))]) [2] (by decide) rfl
  have hKc := hK.sub (tys' := []) [] rfl
  have hFc := va_free (wc := [(q19, .inr (18, [.int 0, .null, .int 0, .null]))]) hD hS hA [2] rfl
  refine va_callv (va_runI (As := [.int 0, .ref q20, .int 0]) (rest := [.ref q19, .ref h0]) ⟨hx, hb, hml, hown, hts⟩ (kX11_init l dC dI g H.size q19 q20 (.int 0) .null (.int 0) .null ) (cwI 3 hts (ns_g0 wm368) rfl rfl rfl (hta _ wm313) (hta _ wm403) (hta _ wm404) rfl (by decide +kernel) ⟨Nat.le_of_ble_eq_true rfl, Nat.le_of_ble_eq_true rfl⟩) ⟨fun a U gg mk q => by obtain ⟨q0, q1, qP, qK, qD, qF⟩ := q; exact ⟨q0, q1, qP, va_K.moved (u := U) (U := U.calling gg mk a) (Vm.Alike.refl U.vm) qK, qD, ns_same qF⟩, fun U hU hW => ⟨rfl, by rw [hU], by rw [hU]; exact hPc, va_K.moved hW.alike hKc, hDc.weaken (fun _ _ _ _ => trivial), ns_call hF hS hFc hU hW⟩⟩ rfl rfl hl.1 rfl (lv_room (Nat.le_of_ble_eq_true rfl)) dX16_word_91 ⟨Nat.le_of_ble_eq_true rfl, Nat.le_of_ble_eq_true rfl⟩) hS (fun q _ h => hFc q h) hFc (fun u t H1 locs ht hvm hw hB hz1 hk1 hS => ?_)
  obtain ⟨q23, hP1, hK1, hD1⟩ := hB
  rw [ht] at hP1
  have hK1 := va_K.moved hvm.symm hK1
  obtain ⟨hP, hD⟩ := va_join (wr := [(h1, .inr (6, [.int 0, .ref (g 0), .int 0])), (h0, .inr (23, [.int 0, .ref h1, v1, v2, v3, v4, v5, v6, .int 0])), (q20, .inr (0, [.ref q21, .int 0, .int 0, .int 0])), (q5, .inr (1, [.ref q6, .int 0, .int 0, .int 5])), (q6, .inl (cy7, 16, .inl (upd ((upd ((upd ((upd ((upd ((fun _ => 0)) 0 (vp_nar .byte (97 + x0).toInt8.toInt32))) 1 (vp_nar .byte (97 + x0).toInt8.toInt32))) 2 (vp_nar .byte (97 + x0).toInt8.toInt32))) 3 (vp_nar .byte (97 + x0).toInt8.toInt32))) 4 (vp_nar .byte (97 + x0).toInt8.toInt32)))), (q21, .inl (cy22, 5, .inl (va_cpy ((upd ((upd ((upd ((upd ((upd ((fun _ => 0)) 0 (vp_nar .byte (97 + x0).toInt8.toInt32))) 1 (vp_nar .byte (97 + x0).toInt8.toInt32))) 2 (vp_nar .byte (97 + x0).toInt8.toInt32))) 3 (vp_nar .byte (97 + x0).toInt8.toInt32))) 4 (vp_nar .byte (97 + x0).toInt8.toInt32))) (fun _ => 0) 0 0 5)))]) (w1 := [(q19, .inr (18, [.int 0, .ref q20, .int 0, .ref q23])), (q23, .inr (6, [.int 0, .ref (g 0), .int 0]))]) hP hD [2] [0, 1, 3, 4, 5, 6] rfl rfl (by decide) (by decide) hk1 hFc hP1 hD1
  have hK := (hK.sub (tys' := [(cy7, .byte), (cy22, .byte)]) [0, 1] rfl).app hK1
  generalize H1 = H at hP hS ⊢
  have hP : va_P (dC, dI) vwCl [(h1, .inr (6, [.int 0, .ref (g 0), .int 0])), (h0, .inr (23, [.int 0, .ref h1, v1, v2, v3, v4, v5, v6, .int 0])), (q20, .inr (0, [.ref q21, .int 0, .int 0, .int 0])), (q5, .inr (1, [.ref q6, .int 0, .int 0, .int 5])), (q6, .inl (cy7, 16, .inl (upd ((upd ((upd ((upd ((upd ((fun _ => 0)) 0 (vp_nar .byte (97 + x0).toInt8.toInt32))) 1 (vp_nar .byte (97 + x0).toInt8.toInt32))) 2 (vp_nar .byte (97 + x0).toInt8.toInt32))) 3 (vp_nar .byte (97 + x0).toInt8.toInt32))) 4 (vp_nar .byte (97 + x0).toInt8.toInt32)))), (q21, .inl (cy22, 5, .inl (va_cpy ((upd ((upd ((upd ((upd ((upd ((fun _ => 0)) 0 (vp_nar .byte (97 + x0).toInt8.toInt32))) 1 (vp_nar .byte (97 + x0).toInt8.toInt32))) 2 (vp_nar .byte (97 + x0).toInt8.toInt32))) 3 (vp_nar .byte (97 + x0).toInt8.toInt32))) 4 (vp_nar .byte (97 + x0).toInt8.toInt32))) (fun _ => 0) 0 0 5))), (q19, .inr (18, [.int 0, .ref q20, .int 0, .ref q23])), (q23, .inr (6, [.int 0, .ref (g 0), .int 0]))] H := hP
  have hD : va_D A [(h1, .inr (6, [.int 0, .ref (g 0), .int 0])), (h0, .inr (23, [.int 0, .ref h1, v1, v2, v3, v4, v5, v6, .int 0])), (q20, .inr (0, [.ref q21, .int 0, .int 0, .int 0])), (q5, .inr (1, [.ref q6, .int 0, .int 0, .int 5])), (q6, .inl (cy7, 16, .inl (upd ((upd ((upd ((upd ((upd ((fun _ => 0)) 0 (vp_nar .byte (97 + x0).toInt8.toInt32))) 1 (vp_nar .byte (97 + x0).toInt8.toInt32))) 2 (vp_nar .byte (97 + x0).toInt8.toInt32))) 3 (vp_nar .byte (97 + x0).toInt8.toInt32))) 4 (vp_nar .byte (97 + x0).toInt8.toInt32)))), (q21, .inl (cy22, 5, .inl (va_cpy ((upd ((upd ((upd ((upd ((upd ((fun _ => 0)) 0 (vp_nar .byte (97 + x0).toInt8.toInt32))) 1 (vp_nar .byte (97 + x0).toInt8.toInt32))) 2 (vp_nar .byte (97 + x0).toInt8.toInt32))) 3 (vp_nar .byte (97 + x0).toInt8.toInt32))) 4 (vp_nar .byte (97 + x0).toInt8.toInt32))) (fun _ => 0) 0 0 5))), (q19, .inr (18, [.int 0, .ref q20, .int 0, .ref q23])), (q23, .inr (6, [.int 0, .ref (g 0), .int 0]))] := hD
  have hK : va_K (dC, dI) vwCl [(cy7, .byte), (cy22, .byte)] s := hK
  refine W.widen (k := 6) (n := 36) (Nat.le_of_ble_eq_true rfl) (Nat.le_of_ble_eq_true rfl) ?_
  have hPc := hP.sub (ws' := [(h0, .inr (23, [.int 0, .ref h1, v1, v2, v3, v4, v5, v6, .int 0])), (h1, .inr (6, [.int 0, .ref (g 0), .int 0])), (q19, .inr (18, [.int 0, .ref q20, .int 0, .ref q23]))]) [1, 0, 6] rfl
  have hDc := hD.sub (ws' := [(h0, .inr (23, [.int 0, .ref h1, v1, v2, v3, v4, v5, v6, .int 0])), (h1, .inr (6, [.int 0, .ref (g 0), .int 0])), (q19, .inr (18, [.int 0, .ref q20, .int 0, .ref q23]))]) [1, 0, 6] (by decide) rfl
  have hKc := hK.sub (tys' := []) [] rfl
  have hFc := va_free (wc := [(h0, .inr (23, [.int 0, .ref h1, v1, v2, v3, v4, v5, v6, .int 0])), (h1, .inr (6, [.int 0, .ref (g 0), .int 0])), (q19, .inr (18, [.int 0, .ref q20, .int 0, .ref q23]))]) hD hS hA [1, 0, 6] rfl
  refine va_calli (va_runV (As := [.ref q19]) (rest := []) ⟨hx, hb, hml, hown, hts⟩ (kX16_made l dC dI g H.size h0 q19 h1 (.int 0) v1 v2 v3 v4 v5 v6 (.int 0) (.ref q20) (.int 0) (.ref q23) ) (cwV 1 hts (ns_gp (List.forall_mem_cons.mpr ⟨wm405, (List.forall_mem_cons.mpr ⟨wm406, (List.forall_mem_cons.mpr ⟨wm407, (List.forall_mem_cons.mpr ⟨wm192, (fun _ h9 => nomatch h9)⟩)⟩)⟩)⟩) wm392) rfl rfl rfl (by decide +kernel) ⟨Nat.le_of_ble_eq_true rfl, Nat.le_of_ble_eq_true rfl⟩) ⟨fun a U gg mk q => by obtain ⟨q0, q1, qP, qK, qD, qF⟩ := q; exact ⟨q0, q1, qP, va_K.moved (u := U) (U := U.calling gg mk a) (Vm.Alike.refl U.vm) qK, qD, ns_same qF⟩, va_recv hK hP (ci := 23) (q0 := 1) rfl rfl, fun U hU hW => ⟨rfl, by rw [hU], by rw [hU]; exact hPc, va_K.moved hW.alike hKc, hDc.weaken (fun _ _ _ _ => trivial), ns_call hF hS hFc hU hW⟩⟩ rfl rfl hl.1 rfl (lv_room (Nat.le_of_ble_eq_true rfl)) dX16_word_94 ⟨Nat.le_of_ble_eq_true rfl, Nat.le_of_ble_eq_true rfl⟩) hS (fun q _ h => hFc q h) hFc (fun r9 u t H1 locs ht hvm hw hB hz1 hk1 hS => ?_)
  obtain rfl := hw.symm
  obtain ⟨q24, cy25, hP1, hK1, hD1⟩ := hB
  rw [ht] at hP1
  have hK1 := va_K.moved hvm.symm hK1
  obtain ⟨hP, hD⟩ := va_join (wr := [(q20, .inr (0, [.ref q21, .int 0, .int 0, .int 0])), (q5, .inr (1, [.ref q6, .int 0, .int 0, .int 5])), (q6, .inl (cy7, 16, .inl (upd ((upd ((upd ((upd ((upd ((fun _ => 0)) 0 (vp_nar .byte (97 + x0).toInt8.toInt32))) 1 (vp_nar .byte (97 + x0).toInt8.toInt32))) 2 (vp_nar .byte (97 + x0).toInt8.toInt32))) 3 (vp_nar .byte (97 + x0).toInt8.toInt32))) 4 (vp_nar .byte (97 + x0).toInt8.toInt32)))), (q21, .inl (cy22, 5, .inl (va_cpy ((upd ((upd ((upd ((upd ((upd ((fun _ => 0)) 0 (vp_nar .byte (97 + x0).toInt8.toInt32))) 1 (vp_nar .byte (97 + x0).toInt8.toInt32))) 2 (vp_nar .byte (97 + x0).toInt8.toInt32))) 3 (vp_nar .byte (97 + x0).toInt8.toInt32))) 4 (vp_nar .byte (97 + x0).toInt8.toInt32))) (fun _ => 0) 0 0 5))), (q23, .inr (6, [.int 0, .ref (g 0), .int 0]))]) (w1 := [(h0, .inr (23, [.int 0, .ref h1, v1, v2, v3, v4, v5, v6, .int 1])), (q19, .inr (18, [.int 0, .ref q20, .int 0, .ref q23])), (q24, .inl (cy25, 10, .inr (.inr (.inr (.inr (va_up (fun _ => none) 0 (some q19))))))), (h1, .inr (6, [.int 1, .ref q24, .int 1]))]) hP hD [1, 0, 6] [2, 3, 4, 5, 7] rfl rfl (by decide) (by decide) hk1 hFc hP1 hD1
  have hK := (hK.sub (tys' := [(cy7, .byte), (cy22, .byte)]) [0, 1] rfl).app hK1
  generalize H1 = H at hP hS ⊢
  have hP : va_P (dC, dI) vwCl [(q20, .inr (0, [.ref q21, .int 0, .int 0, .int 0])), (q5, .inr (1, [.ref q6, .int 0, .int 0, .int 5])), (q6, .inl (cy7, 16, .inl (upd ((upd ((upd ((upd ((upd ((fun _ => 0)) 0 (vp_nar .byte (97 + x0).toInt8.toInt32))) 1 (vp_nar .byte (97 + x0).toInt8.toInt32))) 2 (vp_nar .byte (97 + x0).toInt8.toInt32))) 3 (vp_nar .byte (97 + x0).toInt8.toInt32))) 4 (vp_nar .byte (97 + x0).toInt8.toInt32)))), (q21, .inl (cy22, 5, .inl (va_cpy ((upd ((upd ((upd ((upd ((upd ((fun _ => 0)) 0 (vp_nar .byte (97 + x0).toInt8.toInt32))) 1 (vp_nar .byte (97 + x0).toInt8.toInt32))) 2 (vp_nar .byte (97 + x0).toInt8.toInt32))) 3 (vp_nar .byte (97 + x0).toInt8.toInt32))) 4 (vp_nar .byte (97 + x0).toInt8.toInt32))) (fun _ => 0) 0 0 5))), (q23, .inr (6, [.int 0, .ref (g 0), .int 0])), (h0, .inr (23, [.int 0, .ref h1, v1, v2, v3, v4, v5, v6, .int 1])), (q19, .inr (18, [.int 0, .ref q20, .int 0, .ref q23])), (q24, .inl (cy25, 10, .inr (.inr (.inr (.inr (va_up (fun _ => none) 0 (some q19))))))), (h1, .inr (6, [.int 1, .ref q24, .int 1]))] H := hP
  have hD : va_D A [(q20, .inr (0, [.ref q21, .int 0, .int 0, .int 0])), (q5, .inr (1, [.ref q6, .int 0, .int 0, .int 5])), (q6, .inl (cy7, 16, .inl (upd ((upd ((upd ((upd ((upd ((fun _ => 0)) 0 (vp_nar .byte (97 + x0).toInt8.toInt32))) 1 (vp_nar .byte (97 + x0).toInt8.toInt32))) 2 (vp_nar .byte (97 + x0).toInt8.toInt32))) 3 (vp_nar .byte (97 + x0).toInt8.toInt32))) 4 (vp_nar .byte (97 + x0).toInt8.toInt32)))), (q21, .inl (cy22, 5, .inl (va_cpy ((upd ((upd ((upd ((upd ((upd ((fun _ => 0)) 0 (vp_nar .byte (97 + x0).toInt8.toInt32))) 1 (vp_nar .byte (97 + x0).toInt8.toInt32))) 2 (vp_nar .byte (97 + x0).toInt8.toInt32))) 3 (vp_nar .byte (97 + x0).toInt8.toInt32))) 4 (vp_nar .byte (97 + x0).toInt8.toInt32))) (fun _ => 0) 0 0 5))), (q23, .inr (6, [.int 0, .ref (g 0), .int 0])), (h0, .inr (23, [.int 0, .ref h1, v1, v2, v3, v4, v5, v6, .int 1])), (q19, .inr (18, [.int 0, .ref q20, .int 0, .ref q23])), (q24, .inl (cy25, 10, .inr (.inr (.inr (.inr (va_up (fun _ => none) 0 (some q19))))))), (h1, .inr (6, [.int 1, .ref q24, .int 1]))] := hD
  have hK : va_K (dC, dI) vwCl [(cy7, .byte), (cy22, .byte), (cy25, .object "java/lang/Object")] s := hK
  refine W.widen (k := 7) (n := 46) (Nat.le_of_ble_eq_true rfl) (Nat.le_of_ble_eq_true rfl) ?_
  have hP9 := hP.sub (ws' := [(q20, .inr (0, [.ref q21, .int 0, .int 0, .int 0])), (q5, .inr (1, [.ref q6, .int 0, .int 0, .int 5])), (q6, .inl (cy7, 16, .inl (upd ((upd ((upd ((upd ((upd ((fun _ => 0)) 0 (vp_nar .byte (97 + x0).toInt8.toInt32))) 1 (vp_nar .byte (97 + x0).toInt8.toInt32))) 2 (vp_nar .byte (97 + x0).toInt8.toInt32))) 3 (vp_nar .byte (97 + x0).toInt8.toInt32))) 4 (vp_nar .byte (97 + x0).toInt8.toInt32)))), (q21, .inl (cy22, 5, .inl (va_cpy ((upd ((upd ((upd ((upd ((upd ((fun _ => 0)) 0 (vp_nar .byte (97 + x0).toInt8.toInt32))) 1 (vp_nar .byte (97 + x0).toInt8.toInt32))) 2 (vp_nar .byte (97 + x0).toInt8.toInt32))) 3 (vp_nar .byte (97 + x0).toInt8.toInt32))) 4 (vp_nar .byte (97 + x0).toInt8.toInt32))) (fun _ => 0) 0 0 5))), (q23, .inr (6, [.int 0, .ref (g 0), .int 0])), (h0, .inr (23, [.int 0, .ref h1, v1, v2, v3, v4, v5, v6, .int 1])), (q19, .inr (18, [.int 0, .ref q20, .int 0, .ref q23])), (q24, .inl (cy25, 10, .inr (.inr (.inr (.inr (va_up (fun _ => none) 0 (some q19))))))), (h1, .inr (6, [.int 1, .ref q24, .int 1]))]) [0, 1, 2, 3, 4, 5, 6, 7, 8] rfl
  have hD9 := hD.sub (ws' := [(q20, .inr (0, [.ref q21, .int 0, .int 0, .int 0])), (q5, .inr (1, [.ref q6, .int 0, .int 0, .int 5])), (q6, .inl (cy7, 16, .inl (upd ((upd ((upd ((upd ((upd ((fun _ => 0)) 0 (vp_nar .byte (97 + x0).toInt8.toInt32))) 1 (vp_nar .byte (97 + x0).toInt8.toInt32))) 2 (vp_nar .byte (97 + x0).toInt8.toInt32))) 3 (vp_nar .byte (97 + x0).toInt8.toInt32))) 4 (vp_nar .byte (97 + x0).toInt8.toInt32)))), (q21, .inl (cy22, 5, .inl (va_cpy ((upd ((upd ((upd ((upd ((upd ((fun _ => 0)) 0 (vp_nar .byte (97 + x0).toInt8.toInt32))) 1 (vp_nar .byte (97 + x0).toInt8.toInt32))) 2 (vp_nar .byte (97 + x0).toInt8.toInt32))) 3 (vp_nar .byte (97 + x0).toInt8.toInt32))) 4 (vp_nar .byte (97 + x0).toInt8.toInt32))) (fun _ => 0) 0 0 5))), (q23, .inr (6, [.int 0, .ref (g 0), .int 0])), (h0, .inr (23, [.int 0, .ref h1, v1, v2, v3, v4, v5, v6, .int 1])), (q19, .inr (18, [.int 0, .ref q20, .int 0, .ref q23])), (q24, .inl (cy25, 10, .inr (.inr (.inr (.inr (va_up (fun _ => none) 0 (some q19))))))), (h1, .inr (6, [.int 1, .ref q24, .int 1]))]) [0, 1, 2, 3, 4, 5, 6, 7, 8] (by decide) rfl
  have hK9 := hK.sub (tys' := [(cy7, .byte), (cy22, .byte), (cy25, .object "java/lang/Object")]) [0, 1, 2] rfl
  refine W.widen (k := 7) (n := 46) (Nat.le_of_ble_eq_true rfl) (Nat.le_of_ble_eq_true rfl) ?_
  exact W.iret (v := 0) hx hb hr (fun t ht hW => ⟨⟨_, (), rfl, rfl, q5, q6, cy7, q19, q20, q21, cy22, q23, q24, cy25, by rw [ht]; exact hP9, va_K.moved hW.alike hK9, hD9⟩, hS.F ht⟩) hS.2.2 dX16_word_97
set_option maxHeartbeats 4000000 in
set_option maxRecDepth 100000 in
theorem kX16_said_6 (l : Launch) (dC : Nat → ClassId) (dI : Nat → Nat → Nat) (g : Nat → Nat) (sz : Nat) (h0 : Nat) (x0 : Int32) (h1 : Nat) (v0 : Value) (v1 : Value) (cc0 : ClassId) (f0 : Nat → Int32) (hf0 : sb_Fit f0) (ex0 : (0 : Int) ≤ x0.toInt ∧ x0.toInt ≤ (19 : Int)) : Met l yX16_said wbX16_said ({ frames := 6, cells := 4, slots := 26, locals := 151 }) (va_Pc [.ref h0, .int x0] (fun U => U.heap.size = sz ∧ va_P (dC, dI) vwCl [(h0, .inr (0, [.ref h1, .int 0, v0, v1])), (h1, .inl (cc0, 1, .inl f0))] U.heap ∧ va_K (dC, dI) vwCl [(cc0, .byte)] U ∧ va_D (fun _ => True) [(h0, .inr (0, [.ref h1, .int 0, v0, v1])), (h1, .inl (cc0, 1, .inl f0))] ∧ ns_F g (va_A [(h0, .inr (0, [.ref h1, .int 0, v0, v1])), (h1, .inl (cc0, 1, .inl f0))] sz) U U.heap)) (va_Qr (fun _ : Unit => True) (fun _ r t => ∃ k0 : Nat, ∃ k1 : Nat, ∃ kc2 : ClassId, ∃ k3 : Nat, ∃ k4 : Nat, ∃ kc5 : ClassId, r = k3 ∧ va_P (dC, dI) vwCl [(h1, .inl (cc0, 1, .inl f0)), (h0, .inr (0, [.ref h1, .int 0, v0, v1])), (k3, .inr (0, [.ref k4, .int 0, .int 0, .int 0])), (k0, .inr (1, [.ref k1, .int 0, .int 0, .int 2])), (k1, .inl (kc2, 16, .inl (upd ((va_cpy (f0) ((fun _ => 0)) 0 0 1)) 1 (vp_nar .byte (ns_ch x0).toInt8.toInt32)))), (k4, .inl (kc5, 2, .inl (va_cpy ((upd ((va_cpy (f0) ((fun _ => 0)) 0 0 1)) 1 (vp_nar .byte (ns_ch x0).toInt8.toInt32))) (fun _ => 0) 0 0 2)))] t.heap ∧ va_K (dC, dI) vwCl [(cc0, .byte), (kc2, .byte), (kc5, .byte)] t ∧ va_D (va_A [(h0, .inr (0, [.ref h1, .int 0, v0, v1])), (h1, .inl (cc0, 1, .inl f0))] sz) [(h1, .inl (cc0, 1, .inl f0)), (h0, .inr (0, [.ref h1, .int 0, v0, v1])), (k3, .inr (0, [.ref k4, .int 0, .int 0, .int 0])), (k0, .inr (1, [.ref k1, .int 0, .int 0, .int 2])), (k1, .inl (kc2, 16, .inl (upd ((va_cpy (f0) ((fun _ => 0)) 0 0 1)) 1 (vp_nar .byte (ns_ch x0).toInt8.toInt32)))), (k4, .inl (kc5, 2, .inl (va_cpy ((upd ((va_cpy (f0) ((fun _ => 0)) 0 0 1)) 1 (vp_nar .byte (ns_ch x0).toInt8.toInt32))) (fun _ => 0) 0 0 2)))]) (va_A [(h0, .inr (0, [.ref h1, .int 0, v0, v1])), (h1, .inl (cc0, 1, .inl f0))] sz)) 4 26 (va_A [(h0, .inr (0, [.ref h1, .int 0, v0, v1])), (h1, .inl (cc0, 1, .inl f0))] sz) := by
  refine Met.ofW (cc := cX16_said) (maxL := 2) (ret := (some (.object "java/lang/String"))) (by decide) rfl ?_
  intro p e s m args below meth c s₁ B hml hv
  obtain ⟨rfl, hsz, hP, hK, hD0, hF⟩ := hv
  have hx := B.exec
  have hb := B.bytes
  have hr := B.returns
  have hts := atoms_spec (ws := wbX16_said) B.pre
  have hta : ∀ w ∈ wsALL, w.before _ s = true := fun w h => hts w (List.mem_cons_of_mem _ h)
  have hown : s.vm.findClass RX16 = some m.cls := findClass_of_methodNamed B.named
  have hlocks := B.notSynchronized
  subst hsz
  have hD := hD0.self (sz := s.heap.size)
  generalize hAe : va_A [(h0, .inr (0, [.ref h1, .int 0, v0, v1])), (h1, .inl (cc0, 1, .inl f0))] s.heap.size = A at hD hF ⊢
  have hA : ∀ q : Nat, s.heap.size ≤ q → A q := fun q h => by rw [← hAe]; exact Or.inr h
  have hS : va_S A s.heap s.heap [] := va_S.rf
  have hP : va_P (dC, dI) vwCl [(h0, .inr (0, [.ref h1, .int 0, v0, v1])), (h1, .inl (cc0, 1, .inl f0))] s.heap := hP
  have hl := lv_entry ([.ref h0, .int x0]) (n := 2) (Nat.le_of_ble_eq_true rfl)
  rw [lg_entry_eq]
  generalize (lg_sl ([.ref h0, .int x0]) ++ List.replicate (2 - (lg_sl ([.ref h0, .int x0])).length) Slot.unset).toArray = ls at hl ⊢
  have hl : lv_has ls 2 [(0, .ref h0), (1, .int x0)] := hl
  refine lv_iload_n hx hb dX16_said_0 rfl (lv_at hl 1 rfl) ?_
  refine lv_iconst (v := (-1)) hx hb dX16_said_1 (by decide) ?_
  refine lv_icmp_ne (tgt := 7) hx hb dX16_said_2 (by decide) (fun c1 => ?_) (fun c1 => absurd c1 (fun z => absurd (show x0.toInt = (-1 : Int) from congrArg Int32.toInt z) (by omega)))
  refine lv_iload_n hx hb dX16_said_7 rfl (lv_at hl 1 rfl) ?_
  refine lv_bipush (v := 20) hx hb dX16_said_8 (by decide) ?_
  refine lv_icmp_ge (tgt := 37) hx hb dX16_said_10 (by decide) (fun c2 => absurd c2 (fun z => absurd (show (20 : Int) ≤ x0.toInt from Int32.le_iff_toInt_le.mp z) (by omega))) (fun c2 => ?_)
  refine va_new (ci := 1) (fs := [.null, .int 0, .int 0, .int 0]) (C := RJ4) (T := TJ4) (N := 4) hx hb hta naJ4 tyJ4 tyJ4_ok hown (hta _ wm289) (hta _ wm136) (hta _ wm137) hK hP hD hS hA rfl (fun j hj => by rcases (show j = 0 ∨ j = 1 ∨ j = 2 ∨ j = 3 by omega) with rfl | rfl | rfl | rfl <;> rfl) (Nat.le_of_ble_eq_true rfl) (Nat.le_of_ble_eq_true rfl) dX16_said_13 (fun q3 H hP hD hS => ?_)
  have hP : va_P (dC, dI) vwCl [(h0, .inr (0, [.ref h1, .int 0, v0, v1])), (h1, .inl (cc0, 1, .inl f0)), (q3, .inr (1, [.null, .int 0, .int 0, .int 0]))] H := hP
  have hD : va_D A [(h0, .inr (0, [.ref h1, .int 0, v0, v1])), (h1, .inl (cc0, 1, .inl f0)), (q3, .inr (1, [.null, .int 0, .int 0, .int 0]))] := hD
  refine W.widen (k := 1) (n := 4) (Nat.le_of_ble_eq_true rfl) (Nat.le_of_ble_eq_true rfl) ?_
  refine lv_dup hx hb dX16_said_16 rfl ?_
  have hPc := hP.sub (ws' := [(q3, .inr (1, [.null, .int 0, .int 0, .int 0]))]) [2] rfl
  have hDc := hD.sub (ws' := [(q3, .inr (1, [.null, .int 0, .int 0, .int 0]))]) [2] (by decide) rfl
  have hKc := hK.sub (tys' := []) [] rfl
  have hFc := va_free (wc := [(q3, .inr (1, [.null, .int 0, .int 0, .int 0]))]) hD hS hA [2] rfl
  refine va_callv (va_runI (As := []) (rest := [.ref q3]) ⟨hx, hb, hml, hown, hts⟩ (kJ4_init_da8c8 l dC dI g H.size q3 .null (.int 0) (.int 0) (.int 0) ) (cwI 0 hts (ns_g0 wm147) rfl rfl rfl (hta _ wm137) (hta _ wm396) (hta _ wm185) rfl (by decide +kernel) ⟨Nat.le_of_ble_eq_true rfl, Nat.le_of_ble_eq_true rfl⟩) ⟨fun a U gg mk q => by obtain ⟨q0, q1, qP, qK, qD, qF⟩ := q; exact ⟨q0, q1, qP, va_K.moved (u := U) (U := U.calling gg mk a) (Vm.Alike.refl U.vm) qK, qD, ns_same qF⟩, fun U hU hW => ⟨rfl, by rw [hU], by rw [hU]; exact hPc, va_K.moved hW.alike hKc, hDc.weaken (fun _ _ _ _ => trivial), ns_call hF hS hFc hU hW⟩⟩ rfl rfl hl.1 rfl (lv_room (Nat.le_of_ble_eq_true rfl)) dX16_said_17 ⟨Nat.le_of_ble_eq_true rfl, Nat.le_of_ble_eq_true rfl⟩) hS (fun q _ h => hFc q h) hFc (fun u t H1 locs ht hvm hw hB hz1 hk1 hS => ?_)
  obtain ⟨q4, cy5, hP1, hK1, hD1⟩ := hB
  rw [ht] at hP1
  have hK1 := va_K.moved hvm.symm hK1
  obtain ⟨hP, hD⟩ := va_join (wr := [(h0, .inr (0, [.ref h1, .int 0, v0, v1])), (h1, .inl (cc0, 1, .inl f0))]) (w1 := [(q3, .inr (1, [.ref q4, .int 0, .int 0, .int 0])), (q4, .inl (cy5, 16, .inl (fun _ => 0)))]) hP hD [2] [0, 1] rfl rfl (by decide) (by decide) hk1 hFc hP1 hD1
  have hK := (hK.sub (tys' := [(cc0, .byte)]) [0] rfl).app hK1
  generalize H1 = H at hP hS ⊢
  have hP : va_P (dC, dI) vwCl [(h0, .inr (0, [.ref h1, .int 0, v0, v1])), (h1, .inl (cc0, 1, .inl f0)), (q3, .inr (1, [.ref q4, .int 0, .int 0, .int 0])), (q4, .inl (cy5, 16, .inl (fun _ => 0)))] H := hP
  have hD : va_D A [(h0, .inr (0, [.ref h1, .int 0, v0, v1])), (h1, .inl (cc0, 1, .inl f0)), (q3, .inr (1, [.ref q4, .int 0, .int 0, .int 0])), (q4, .inl (cy5, 16, .inl (fun _ => 0)))] := hD
  have hK : va_K (dC, dI) vwCl [(cc0, .byte), (cy5, .byte)] s := hK
  refine W.widen (k := 2) (n := 20) (Nat.le_of_ble_eq_true rfl) (Nat.le_of_ble_eq_true rfl) ?_
  refine lv_aload_n hx hb dX16_said_20 rfl (lv_at hl 0 rfl) ?_
  have hPc := hP.sub (ws' := [(q3, .inr (1, [.ref q4, .int 0, .int 0, .int 0])), (h0, .inr (0, [.ref h1, .int 0, v0, v1])), (h1, .inl (cc0, 1, .inl f0)), (q4, .inl (cy5, 16, .inl (fun _ => 0)))]) [2, 0, 1, 3] rfl
  have hDc := hD.sub (ws' := [(q3, .inr (1, [.ref q4, .int 0, .int 0, .int 0])), (h0, .inr (0, [.ref h1, .int 0, v0, v1])), (h1, .inl (cc0, 1, .inl f0)), (q4, .inl (cy5, 16, .inl (fun _ => 0)))]) [2, 0, 1, 3] (by decide) rfl
  have hKc := hK.sub (tys' := [(cc0, .byte), (cy5, .byte)]) [0, 1] rfl
  have hFc := va_free (wc := [(q3, .inr (1, [.ref q4, .int 0, .int 0, .int 0])), (h0, .inr (0, [.ref h1, .int 0, v0, v1])), (h1, .inl (cc0, 1, .inl f0)), (q4, .inl (cy5, 16, .inl (fun _ => 0)))]) hD hS hA [2, 0, 1, 3] rfl
  refine va_callr (va_runV (As := [.ref h0]) (rest := []) ⟨hx, hb, hml, hown, hts⟩ (kJ4_append_15ec4_2 l dC dI g H.size q3 h0 h1 q4 (.int 0) v0 v1 cc0 f0 hf0 cy5 (fun _ => 0) sb_fit0 ) (cwV 1 hts (ns_gp (List.forall_mem_cons.mpr ⟨wm627, (List.forall_mem_cons.mpr ⟨wm628, (List.forall_mem_cons.mpr ⟨wm629, (List.forall_mem_cons.mpr ⟨wm137, (fun _ h9 => nomatch h9)⟩)⟩)⟩)⟩) wm626) rfl rfl rfl (by decide +kernel) ⟨Nat.le_of_ble_eq_true rfl, Nat.le_of_ble_eq_true rfl⟩) ⟨fun a U gg mk q => by obtain ⟨q0, q1, qP, qK, qD, qF⟩ := q; exact ⟨q0, q1, qP, va_K.moved (u := U) (U := U.calling gg mk a) (Vm.Alike.refl U.vm) qK, qD, ns_same qF⟩, va_recv hK hP (ci := 1) (q0 := 2) rfl rfl, fun U hU hW => ⟨rfl, by rw [hU], by rw [hU]; exact hPc, va_K.moved hW.alike hKc, hDc.weaken (fun _ _ _ _ => trivial), ns_call hF hS hFc hU hW⟩⟩ rfl rfl hl.1 rfl (lv_room (Nat.le_of_ble_eq_true rfl)) dX16_said_21 ⟨Nat.le_of_ble_eq_true rfl, Nat.le_of_ble_eq_true rfl⟩) hS (fun q _ h => hFc q h) hFc (fun u r9 t H1 locs ht hvm hw hB hz1 hk1 hS => ?_)
  obtain ⟨hr9, hP1, hK1, hD1⟩ := hB
  obtain rfl := hr9.symm
  rw [ht] at hP1
  have hK1 := va_K.moved hvm.symm hK1
  obtain ⟨hP, hD⟩ := va_join (wr := []) (w1 := [(q3, .inr (1, [.ref q4, .int 0, .int 0, .int 1])), (h1, .inl (cc0, 1, .inl f0)), (q4, .inl (cy5, 16, .inl (va_cpy (f0) ((fun _ => 0)) 0 0 1))), (h0, .inr (0, [.ref h1, .int 0, v0, v1]))]) hP hD [2, 0, 1, 3] [] rfl rfl (by decide) (by decide) hk1 hFc hP1 hD1
  have hK := (hK.sub (tys' := []) [] rfl).app hK1
  generalize H1 = H at hP hS ⊢
  have hP : va_P (dC, dI) vwCl [(q3, .inr (1, [.ref q4, .int 0, .int 0, .int 1])), (h1, .inl (cc0, 1, .inl f0)), (q4, .inl (cy5, 16, .inl (va_cpy (f0) ((fun _ => 0)) 0 0 1))), (h0, .inr (0, [.ref h1, .int 0, v0, v1]))] H := hP
  have hD : va_D A [(q3, .inr (1, [.ref q4, .int 0, .int 0, .int 1])), (h1, .inl (cc0, 1, .inl f0)), (q4, .inl (cy5, 16, .inl (va_cpy (f0) ((fun _ => 0)) 0 0 1))), (h0, .inr (0, [.ref h1, .int 0, v0, v1]))] := hD
  have hK : va_K (dC, dI) vwCl [(cc0, .byte), (cy5, .byte)] s := hK
  refine W.widen (k := 2) (n := 20) (Nat.le_of_ble_eq_true rfl) (Nat.le_of_ble_eq_true rfl) ?_
  refine va_ldcS hx hb hown (ns_f35 hF) dX16_said_24 ?_
  refine lv_iload_n hx hb dX16_said_26 rfl (lv_at hl 1 rfl) ?_
  have hPc := hP.sub (ws' := []) [] rfl
  have hDc := hD.sub (ws' := []) [] (by decide) rfl
  have hKc := hK.sub (tys' := []) [] rfl
  have hFc := va_free (wc := []) hD hS hA [] rfl
  refine va_calli (va_runV (As := [.int x0]) (rest := [.ref q3]) ⟨hx, hb, hml, hown, hts⟩ (kJ0_charAt_5068e l dC dI g H.size x0 ⟨by omega, by omega⟩) (cwV 1 hts (ns_gp (List.forall_mem_cons.mpr ⟨wm630, (List.forall_mem_cons.mpr ⟨wm598, (List.forall_mem_cons.mpr ⟨wm599, (List.forall_mem_cons.mpr ⟨wm316, (fun _ h9 => nomatch h9)⟩)⟩)⟩)⟩) wm590) rfl rfl rfl (by decide +kernel) ⟨Nat.le_of_ble_eq_true rfl, Nat.le_of_ble_eq_true rfl⟩) ⟨fun a U gg mk q => by obtain ⟨q0, q1, qP, qK, qD, qF⟩ := q; exact ⟨q0, q1, qP, va_K.moved (u := U) (U := U.calling gg mk a) (Vm.Alike.refl U.vm) qK, qD, ns_same qF⟩, va_Orecv (ns_f46 hF) hS, fun U hU hW => ⟨rfl, by rw [hU], by rw [hU]; exact hPc, va_K.moved hW.alike hKc, hDc.weaken (fun _ _ _ _ => trivial), ns_call hF hS hFc hU hW⟩⟩ rfl rfl hl.1 rfl (lv_room (Nat.le_of_ble_eq_true rfl)) dX16_said_27 ⟨Nat.le_of_ble_eq_true rfl, Nat.le_of_ble_eq_true rfl⟩) hS (fun q _ h => hFc q h) hFc (fun r9 u t H1 locs ht hvm hw hB hz1 hk1 hS => ?_)
  obtain rfl := hw.symm
  obtain ⟨hP1, hK1, hD1⟩ := hB
  rw [ht] at hP1
  have hK1 := va_K.moved hvm.symm hK1
  obtain ⟨hP, hD⟩ := va_join (wr := [(q3, .inr (1, [.ref q4, .int 0, .int 0, .int 1])), (h1, .inl (cc0, 1, .inl f0)), (q4, .inl (cy5, 16, .inl (va_cpy (f0) ((fun _ => 0)) 0 0 1))), (h0, .inr (0, [.ref h1, .int 0, v0, v1]))]) (w1 := []) hP hD [] [0, 1, 2, 3] rfl rfl (by decide) (by decide) hk1 hFc hP1 hD1
  have hK := (hK.sub (tys' := [(cc0, .byte), (cy5, .byte)]) [0, 1] rfl).app hK1
  generalize H1 = H at hP hS ⊢
  have hP : va_P (dC, dI) vwCl [(q3, .inr (1, [.ref q4, .int 0, .int 0, .int 1])), (h1, .inl (cc0, 1, .inl f0)), (q4, .inl (cy5, 16, .inl (va_cpy (f0) ((fun _ => 0)) 0 0 1))), (h0, .inr (0, [.ref h1, .int 0, v0, v1]))] H := hP
  have hD : va_D A [(q3, .inr (1, [.ref q4, .int 0, .int 0, .int 1])), (h1, .inl (cc0, 1, .inl f0)), (q4, .inl (cy5, 16, .inl (va_cpy (f0) ((fun _ => 0)) 0 0 1))), (h0, .inr (0, [.ref h1, .int 0, v0, v1]))] := hD
  have hK : va_K (dC, dI) vwCl [(cc0, .byte), (cy5, .byte)] s := hK
  refine W.widen (k := 2) (n := 20) (Nat.le_of_ble_eq_true rfl) (Nat.le_of_ble_eq_true rfl) ?_
  have r6 := ns_ch_rng x0
  have hPc := hP.sub (ws' := [(q3, .inr (1, [.ref q4, .int 0, .int 0, .int 1])), (q4, .inl (cy5, 16, .inl (va_cpy (f0) ((fun _ => 0)) 0 0 1)))]) [0, 2] rfl
  have hDc := hD.sub (ws' := [(q3, .inr (1, [.ref q4, .int 0, .int 0, .int 1])), (q4, .inl (cy5, 16, .inl (va_cpy (f0) ((fun _ => 0)) 0 0 1)))]) [0, 2] (by decide) rfl
  have hKc := hK.sub (tys' := [(cy5, .byte)]) [1] rfl
  have hFc := va_free (wc := [(q3, .inr (1, [.ref q4, .int 0, .int 0, .int 1])), (q4, .inl (cy5, 16, .inl (va_cpy (f0) ((fun _ => 0)) 0 0 1)))]) hD hS hA [0, 2] rfl
  refine va_callr (va_runV (As := [.int (ns_ch x0)]) (rest := []) ⟨hx, hb, hml, hown, hts⟩ (kJ4_append_cf468_11 l dC dI g H.size q3 (ns_ch x0) q4 (.int 0) cy5 (va_cpy (f0) ((fun _ => 0)) 0 0 1) (sb_fitC hf0 sb_fit0) ⟨by omega, by omega⟩) (cwV 1 hts (ns_gp (List.forall_mem_cons.mpr ⟨wm397, (List.forall_mem_cons.mpr ⟨wm398, (List.forall_mem_cons.mpr ⟨wm399, (List.forall_mem_cons.mpr ⟨wm137, (fun _ h9 => nomatch h9)⟩)⟩)⟩)⟩) wm310) rfl rfl rfl (by decide +kernel) ⟨Nat.le_of_ble_eq_true rfl, Nat.le_of_ble_eq_true rfl⟩) ⟨fun a U gg mk q => by obtain ⟨q0, q1, qP, qK, qD, qF⟩ := q; exact ⟨q0, q1, qP, va_K.moved (u := U) (U := U.calling gg mk a) (Vm.Alike.refl U.vm) qK, qD, ns_same qF⟩, va_recv hK hP (ci := 1) (q0 := 0) rfl rfl, fun U hU hW => ⟨rfl, by rw [hU], by rw [hU]; exact hPc, va_K.moved hW.alike hKc, hDc.weaken (fun _ _ _ _ => trivial), ns_call hF hS hFc hU hW⟩⟩ rfl rfl hl.1 rfl (lv_room (Nat.le_of_ble_eq_true rfl)) dX16_said_30 ⟨Nat.le_of_ble_eq_true rfl, Nat.le_of_ble_eq_true rfl⟩) hS (fun q _ h => hFc q h) hFc (fun u r9 t H1 locs ht hvm hw hB hz1 hk1 hS => ?_)
  obtain ⟨hr9, hP1, hK1, hD1⟩ := hB
  obtain rfl := hr9.symm
  rw [ht] at hP1
  have hK1 := va_K.moved hvm.symm hK1
  obtain ⟨hP, hD⟩ := va_join (wr := [(h1, .inl (cc0, 1, .inl f0)), (h0, .inr (0, [.ref h1, .int 0, v0, v1]))]) (w1 := [(q4, .inl (cy5, 16, .inl (upd ((va_cpy (f0) ((fun _ => 0)) 0 0 1)) 1 (vp_nar .byte (ns_ch x0).toInt8.toInt32)))), (q3, .inr (1, [.ref q4, .int 0, .int 0, .int 2]))]) hP hD [0, 2] [1, 3] rfl rfl (by decide) (by decide) hk1 hFc hP1 hD1
  have hK := (hK.sub (tys' := [(cc0, .byte)]) [0] rfl).app hK1
  generalize H1 = H at hP hS ⊢
  have hP : va_P (dC, dI) vwCl [(h1, .inl (cc0, 1, .inl f0)), (h0, .inr (0, [.ref h1, .int 0, v0, v1])), (q4, .inl (cy5, 16, .inl (upd ((va_cpy (f0) ((fun _ => 0)) 0 0 1)) 1 (vp_nar .byte (ns_ch x0).toInt8.toInt32)))), (q3, .inr (1, [.ref q4, .int 0, .int 0, .int 2]))] H := hP
  have hD : va_D A [(h1, .inl (cc0, 1, .inl f0)), (h0, .inr (0, [.ref h1, .int 0, v0, v1])), (q4, .inl (cy5, 16, .inl (upd ((va_cpy (f0) ((fun _ => 0)) 0 0 1)) 1 (vp_nar .byte (ns_ch x0).toInt8.toInt32)))), (q3, .inr (1, [.ref q4, .int 0, .int 0, .int 2]))] := hD
  have hK : va_K (dC, dI) vwCl [(cc0, .byte), (cy5, .byte)] s := hK
  refine W.widen (k := 2) (n := 20) (Nat.le_of_ble_eq_true rfl) (Nat.le_of_ble_eq_true rfl) ?_
  have hPc := hP.sub (ws' := [(q3, .inr (1, [.ref q4, .int 0, .int 0, .int 2])), (q4, .inl (cy5, 16, .inl (upd ((va_cpy (f0) ((fun _ => 0)) 0 0 1)) 1 (vp_nar .byte (ns_ch x0).toInt8.toInt32))))]) [3, 2] rfl
  have hDc := hD.sub (ws' := [(q3, .inr (1, [.ref q4, .int 0, .int 0, .int 2])), (q4, .inl (cy5, 16, .inl (upd ((va_cpy (f0) ((fun _ => 0)) 0 0 1)) 1 (vp_nar .byte (ns_ch x0).toInt8.toInt32))))]) [3, 2] (by decide) rfl
  have hKc := hK.sub (tys' := [(cy5, .byte)]) [1] rfl
  have hFc := va_free (wc := [(q3, .inr (1, [.ref q4, .int 0, .int 0, .int 2])), (q4, .inl (cy5, 16, .inl (upd ((va_cpy (f0) ((fun _ => 0)) 0 0 1)) 1 (vp_nar .byte (ns_ch x0).toInt8.toInt32))))]) hD hS hA [3, 2] rfl
  refine va_callr (va_runV (As := []) (rest := []) ⟨hx, hb, hml, hown, hts⟩ (kJ4_toString_0e30d_2 l dC dI g H.size q3 q4 (.int 0) cy5 (upd ((va_cpy (f0) ((fun _ => 0)) 0 0 1)) 1 (vp_nar .byte (ns_ch x0).toInt8.toInt32)) (sb_fitU (sb_fitC hf0 sb_fit0) (pk_fb _)) ) (cwV 0 hts (ns_gp (List.forall_mem_cons.mpr ⟨wm400, (List.forall_mem_cons.mpr ⟨wm401, (List.forall_mem_cons.mpr ⟨wm402, (List.forall_mem_cons.mpr ⟨wm137, (fun _ h9 => nomatch h9)⟩)⟩)⟩)⟩) wm360) rfl rfl rfl (by decide +kernel) ⟨Nat.le_of_ble_eq_true rfl, Nat.le_of_ble_eq_true rfl⟩) ⟨fun a U gg mk q => by obtain ⟨q0, q1, qP, qK, qD, qF⟩ := q; exact ⟨q0, q1, qP, va_K.moved (u := U) (U := U.calling gg mk a) (Vm.Alike.refl U.vm) qK, qD, ns_same qF⟩, va_recv hK hP (ci := 1) (q0 := 3) rfl rfl, fun U hU hW => ⟨rfl, by rw [hU], by rw [hU]; exact hPc, va_K.moved hW.alike hKc, hDc.weaken (fun _ _ _ _ => trivial), ns_call hF hS hFc hU hW⟩⟩ rfl rfl hl.1 rfl (lv_room (Nat.le_of_ble_eq_true rfl)) dX16_said_33 ⟨Nat.le_of_ble_eq_true rfl, Nat.le_of_ble_eq_true rfl⟩) hS (fun q _ h => hFc q h) hFc (fun u r9 t H1 locs ht hvm hw hB hz1 hk1 hS => ?_)
  obtain ⟨q7, q8, cy9, hr9, hP1, hK1, hD1⟩ := hB
  obtain rfl := hr9.symm
  rw [ht] at hP1
  have hK1 := va_K.moved hvm.symm hK1
  obtain ⟨hP, hD⟩ := va_join (wr := [(h1, .inl (cc0, 1, .inl f0)), (h0, .inr (0, [.ref h1, .int 0, v0, v1]))]) (w1 := [(q7, .inr (0, [.ref q8, .int 0, .int 0, .int 0])), (q3, .inr (1, [.ref q4, .int 0, .int 0, .int 2])), (q4, .inl (cy5, 16, .inl (upd ((va_cpy (f0) ((fun _ => 0)) 0 0 1)) 1 (vp_nar .byte (ns_ch x0).toInt8.toInt32)))), (q8, .inl (cy9, 2, .inl (va_cpy ((upd ((va_cpy (f0) ((fun _ => 0)) 0 0 1)) 1 (vp_nar .byte (ns_ch x0).toInt8.toInt32))) (fun _ => 0) 0 0 2)))]) hP hD [3, 2] [0, 1] rfl rfl (by decide) (by decide) hk1 hFc hP1 hD1
  have hK := (hK.sub (tys' := [(cc0, .byte)]) [0] rfl).app hK1
  generalize H1 = H at hP hS ⊢
  have hP : va_P (dC, dI) vwCl [(h1, .inl (cc0, 1, .inl f0)), (h0, .inr (0, [.ref h1, .int 0, v0, v1])), (q7, .inr (0, [.ref q8, .int 0, .int 0, .int 0])), (q3, .inr (1, [.ref q4, .int 0, .int 0, .int 2])), (q4, .inl (cy5, 16, .inl (upd ((va_cpy (f0) ((fun _ => 0)) 0 0 1)) 1 (vp_nar .byte (ns_ch x0).toInt8.toInt32)))), (q8, .inl (cy9, 2, .inl (va_cpy ((upd ((va_cpy (f0) ((fun _ => 0)) 0 0 1)) 1 (vp_nar .byte (ns_ch x0).toInt8.toInt32))) (fun _ => 0) 0 0 2)))] H := hP
  have hD : va_D A [(h1, .inl (cc0, 1, .inl f0)), (h0, .inr (0, [.ref h1, .int 0, v0, v1])), (q7, .inr (0, [.ref q8, .int 0, .int 0, .int 0])), (q3, .inr (1, [.ref q4, .int 0, .int 0, .int 2])), (q4, .inl (cy5, 16, .inl (upd ((va_cpy (f0) ((fun _ => 0)) 0 0 1)) 1 (vp_nar .byte (ns_ch x0).toInt8.toInt32)))), (q8, .inl (cy9, 2, .inl (va_cpy ((upd ((va_cpy (f0) ((fun _ => 0)) 0 0 1)) 1 (vp_nar .byte (ns_ch x0).toInt8.toInt32))) (fun _ => 0) 0 0 2)))] := hD
  have hK : va_K (dC, dI) vwCl [(cc0, .byte), (cy5, .byte), (cy9, .byte)] s := hK
  refine W.widen (k := 4) (n := 26) (Nat.le_of_ble_eq_true rfl) (Nat.le_of_ble_eq_true rfl) ?_
  have hP9 := hP.sub (ws' := [(h1, .inl (cc0, 1, .inl f0)), (h0, .inr (0, [.ref h1, .int 0, v0, v1])), (q7, .inr (0, [.ref q8, .int 0, .int 0, .int 0])), (q3, .inr (1, [.ref q4, .int 0, .int 0, .int 2])), (q4, .inl (cy5, 16, .inl (upd ((va_cpy (f0) ((fun _ => 0)) 0 0 1)) 1 (vp_nar .byte (ns_ch x0).toInt8.toInt32)))), (q8, .inl (cy9, 2, .inl (va_cpy ((upd ((va_cpy (f0) ((fun _ => 0)) 0 0 1)) 1 (vp_nar .byte (ns_ch x0).toInt8.toInt32))) (fun _ => 0) 0 0 2)))]) [0, 1, 2, 3, 4, 5] rfl
  have hD9 := hD.sub (ws' := [(h1, .inl (cc0, 1, .inl f0)), (h0, .inr (0, [.ref h1, .int 0, v0, v1])), (q7, .inr (0, [.ref q8, .int 0, .int 0, .int 0])), (q3, .inr (1, [.ref q4, .int 0, .int 0, .int 2])), (q4, .inl (cy5, 16, .inl (upd ((va_cpy (f0) ((fun _ => 0)) 0 0 1)) 1 (vp_nar .byte (ns_ch x0).toInt8.toInt32)))), (q8, .inl (cy9, 2, .inl (va_cpy ((upd ((va_cpy (f0) ((fun _ => 0)) 0 0 1)) 1 (vp_nar .byte (ns_ch x0).toInt8.toInt32))) (fun _ => 0) 0 0 2)))]) [0, 1, 2, 3, 4, 5] (by decide) rfl
  have hK9 := hK.sub (tys' := [(cc0, .byte), (cy5, .byte), (cy9, .byte)]) [0, 1, 2] rfl
  refine W.widen (k := 4) (n := 26) (Nat.le_of_ble_eq_true rfl) (Nat.le_of_ble_eq_true rfl) ?_
  exact W.aret (v := .ref q7) hx hb hr (by first | exact Or.inl ⟨_, rfl⟩ | exact Or.inr ⟨_, rfl⟩) (Or.inr ⟨_, rfl⟩) (fun t ht hW => ⟨⟨(), _, rfl, trivial, q3, q4, cy5, q7, q8, cy9, rfl, by rw [ht]; exact hP9, va_K.moved hW.alike hK9, hD9⟩, hS.F ht⟩) hS.2.2 dX16_said_36

set_option maxHeartbeats 4000000 in
set_option maxRecDepth 100000 in
theorem kX16_word_16 (l : Launch) (dC : Nat → ClassId) (dI : Nat → Nat → Nat) (g : Nat → Nat) (sz : Nat) (h0 : Nat) (x0 : Int32) (h1 : Nat) (v0 : Value) (v1 : Value) (v2 : Value) (v3 : Value) (v4 : Value) (v5 : Value) (v6 : Value) (ex0 : (0 : Int) ≤ x0.toInt ∧ x0.toInt ≤ (25 : Int)) : Met l yX16_word wbX16_word ({ frames := 6, cells := 7, slots := 45, locals := 151 }) (va_Pc [.ref h0, .int x0, .int 4] (fun U => U.heap.size = sz ∧ va_P (dC, dI) vwCl [(h0, .inr (23, [v0, .ref h1, v1, v2, v3, v4, v5, v6, .int 0])), (h1, .inr (6, [.int 0, .ref (g 0), .int 0]))] U.heap ∧ va_K (dC, dI) vwCl [] U ∧ va_D (fun _ => True) [(h0, .inr (23, [v0, .ref h1, v1, v2, v3, v4, v5, v6, .int 0])), (h1, .inr (6, [.int 0, .ref (g 0), .int 0]))] ∧ ns_F g (va_A [(h0, .inr (23, [v0, .ref h1, v1, v2, v3, v4, v5, v6, .int 0])), (h1, .inr (6, [.int 0, .ref (g 0), .int 0]))] sz) U U.heap)) (va_Qi (fun (r : Int32) (_ : Unit) => r = 0) (fun _ t => ∃ k0 : Nat, ∃ k1 : Nat, ∃ kc2 : ClassId, ∃ k3 : Nat, ∃ k4 : Nat, ∃ k5 : Nat, ∃ kc6 : ClassId, ∃ k7 : Nat, ∃ k8 : Nat, ∃ kc9 : ClassId, va_P (dC, dI) vwCl [(k4, .inr (0, [.ref k5, .int 0, .int 0, .int 0])), (k0, .inr (1, [.ref k1, .int 0, .int 0, .int 4])), (k1, .inl (kc2, 16, .inl (upd ((upd ((upd ((upd ((fun _ => 0)) 0 (vp_nar .byte (97 + x0).toInt8.toInt32))) 1 (vp_nar .byte (97 + x0).toInt8.toInt32))) 2 (vp_nar .byte (97 + x0).toInt8.toInt32))) 3 (vp_nar .byte (97 + x0).toInt8.toInt32)))), (k5, .inl (kc6, 4, .inl (va_cpy ((upd ((upd ((upd ((upd ((fun _ => 0)) 0 (vp_nar .byte (97 + x0).toInt8.toInt32))) 1 (vp_nar .byte (97 + x0).toInt8.toInt32))) 2 (vp_nar .byte (97 + x0).toInt8.toInt32))) 3 (vp_nar .byte (97 + x0).toInt8.toInt32))) (fun _ => 0) 0 0 4))), (k7, .inr (6, [.int 0, .ref (g 0), .int 0])), (h0, .inr (23, [.int 0, .ref h1, v1, v2, v3, v4, v5, v6, .int 1])), (k3, .inr (18, [.int 0, .ref k4, .int 0, .ref k7])), (k8, .inl (kc9, 10, .inr (.inr (.inr (.inr (va_up (fun _ => none) 0 (some k3))))))), (h1, .inr (6, [.int 1, .ref k8, .int 1]))] t.heap ∧ va_K (dC, dI) vwCl [(kc2, .byte), (kc6, .byte), (kc9, .object "java/lang/Object")] t ∧ va_D (va_A [(h0, .inr (23, [v0, .ref h1, v1, v2, v3, v4, v5, v6, .int 0])), (h1, .inr (6, [.int 0, .ref (g 0), .int 0]))] sz) [(k4, .inr (0, [.ref k5, .int 0, .int 0, .int 0])), (k0, .inr (1, [.ref k1, .int 0, .int 0, .int 4])), (k1, .inl (kc2, 16, .inl (upd ((upd ((upd ((upd ((fun _ => 0)) 0 (vp_nar .byte (97 + x0).toInt8.toInt32))) 1 (vp_nar .byte (97 + x0).toInt8.toInt32))) 2 (vp_nar .byte (97 + x0).toInt8.toInt32))) 3 (vp_nar .byte (97 + x0).toInt8.toInt32)))), (k5, .inl (kc6, 4, .inl (va_cpy ((upd ((upd ((upd ((upd ((fun _ => 0)) 0 (vp_nar .byte (97 + x0).toInt8.toInt32))) 1 (vp_nar .byte (97 + x0).toInt8.toInt32))) 2 (vp_nar .byte (97 + x0).toInt8.toInt32))) 3 (vp_nar .byte (97 + x0).toInt8.toInt32))) (fun _ => 0) 0 0 4))), (k7, .inr (6, [.int 0, .ref (g 0), .int 0])), (h0, .inr (23, [.int 0, .ref h1, v1, v2, v3, v4, v5, v6, .int 1])), (k3, .inr (18, [.int 0, .ref k4, .int 0, .ref k7])), (k8, .inl (kc9, 10, .inr (.inr (.inr (.inr (va_up (fun _ => none) 0 (some k3))))))), (h1, .inr (6, [.int 1, .ref k8, .int 1]))]) (va_A [(h0, .inr (23, [v0, .ref h1, v1, v2, v3, v4, v5, v6, .int 0])), (h1, .inr (6, [.int 0, .ref (g 0), .int 0]))] sz)) 7 45 (va_A [(h0, .inr (23, [v0, .ref h1, v1, v2, v3, v4, v5, v6, .int 0])), (h1, .inr (6, [.int 0, .ref (g 0), .int 0]))] sz) := by
  refine Met.ofW (cc := cX16_word) (maxL := 5) (ret := (some .int)) (by decide) rfl ?_
  intro p e s m args below meth c s₁ B hml hv
  obtain ⟨rfl, hsz, hP, hK, hD0, hF⟩ := hv
  have hx := B.exec
  have hb := B.bytes
  have hr := B.returns
  have hts := atoms_spec (ws := wbX16_word) B.pre
  have hta : ∀ w ∈ wsALL, w.before _ s = true := fun w h => hts w (List.mem_cons_of_mem _ h)
  have hown : s.vm.findClass RX16 = some m.cls := findClass_of_methodNamed B.named
  have hlocks := B.notSynchronized
  subst hsz
  have hD := hD0.self (sz := s.heap.size)
  generalize hAe : va_A [(h0, .inr (23, [v0, .ref h1, v1, v2, v3, v4, v5, v6, .int 0])), (h1, .inr (6, [.int 0, .ref (g 0), .int 0]))] s.heap.size = A at hD hF ⊢
  have hA : ∀ q : Nat, s.heap.size ≤ q → A q := fun q h => by rw [← hAe]; exact Or.inr h
  have hS : va_S A s.heap s.heap [] := va_S.rf
  have hP : va_P (dC, dI) vwCl [(h0, .inr (23, [v0, .ref h1, v1, v2, v3, v4, v5, v6, .int 0])), (h1, .inr (6, [.int 0, .ref (g 0), .int 0]))] s.heap := hP
  have hl := lv_entry ([.ref h0, .int x0, .int 4]) (n := 5) (Nat.le_of_ble_eq_true rfl)
  rw [lg_entry_eq]
  generalize (lg_sl ([.ref h0, .int x0, .int 4]) ++ List.replicate (5 - (lg_sl ([.ref h0, .int x0, .int 4])).length) Slot.unset).toArray = ls at hl ⊢
  have hl : lv_has ls 5 [(0, .ref h0), (1, .int x0), (2, .int 4)] := hl
  refine lv_aload_n hx hb dX16_word_0 rfl (lv_at hl 0 rfl) ?_
  refine lv_iload_n hx hb dX16_word_1 rfl (lv_at hl 1 rfl) ?_
  refine lv_iconst (v := 0) hx hb dX16_word_2 (by decide) ?_
  refine lv_bipush (v := 25) hx hb dX16_word_3 (by decide) ?_
  have hPc := hP.sub (ws' := []) [] rfl
  have hDc := hD.sub (ws' := []) [] (by decide) rfl
  have hKc := hK.sub (tys' := []) [] rfl
  have hFc := va_free (wc := []) hD hS hA [] rfl
  refine va_calli (va_runS (As := [.int x0, .int 0, .int 25]) (rest := [.ref h0]) ⟨hx, hb, hml, hown, hts⟩ (kX16_isIn_2 l dC dI g s.heap.size x0 ⟨by omega, by omega⟩) (va_cwS 3 hts (ns_gp (List.forall_mem_cons.mpr ⟨wm240, (List.forall_mem_cons.mpr ⟨wm241, (List.forall_mem_cons.mpr ⟨wm192, (fun _ h9 => nomatch h9)⟩)⟩)⟩) wm233) rfl rfl rfl (by decide +kernel) ⟨Nat.le_of_ble_eq_true rfl, Nat.le_of_ble_eq_true rfl⟩) ⟨fun a U gg mk q => by obtain ⟨q0, q1, qP, qK, qD, qF⟩ := q; exact ⟨q0, q1, qP, va_K.moved (u := U) (U := U.calling gg mk a) (Vm.Alike.refl U.vm) qK, qD, ns_same qF⟩, fun U hU hW => ⟨rfl, by rw [hU], by rw [hU]; exact hPc, va_K.moved hW.alike hKc, hDc.weaken (fun _ _ _ _ => trivial), ns_call hF hS hFc hU hW⟩⟩ rfl rfl hl.1 rfl (lv_room (Nat.le_of_ble_eq_true rfl)) dX16_word_5 ⟨Nat.le_of_ble_eq_true rfl, Nat.le_of_ble_eq_true rfl⟩) hS (fun q _ h => hFc q h) hFc (fun r9 u t H1 locs ht hvm hw hB hz1 hk1 hS => ?_)
  obtain rfl := hw.symm
  obtain ⟨hP1, hK1, hD1⟩ := hB
  rw [ht] at hP1
  have hK1 := va_K.moved hvm.symm hK1
  obtain ⟨hP, hD⟩ := va_join (wr := [(h0, .inr (23, [v0, .ref h1, v1, v2, v3, v4, v5, v6, .int 0])), (h1, .inr (6, [.int 0, .ref (g 0), .int 0]))]) (w1 := []) hP hD [] [0, 1] rfl rfl (by decide) (by decide) hk1 hFc hP1 hD1
  have hK := (hK.sub (tys' := []) [] rfl).app hK1
  generalize H1 = H at hP hS ⊢
  have hP : va_P (dC, dI) vwCl [(h0, .inr (23, [v0, .ref h1, v1, v2, v3, v4, v5, v6, .int 0])), (h1, .inr (6, [.int 0, .ref (g 0), .int 0]))] H := hP
  have hD : va_D A [(h0, .inr (23, [v0, .ref h1, v1, v2, v3, v4, v5, v6, .int 0])), (h1, .inr (6, [.int 0, .ref (g 0), .int 0]))] := hD
  have hK : va_K (dC, dI) vwCl [] s := hK
  refine W.widen (k := 0) (n := 0) (Nat.le_of_ble_eq_true rfl) (Nat.le_of_ble_eq_true rfl) ?_
  refine lv_if_eq (tgt := 21) hx hb dX16_word_8 (by decide) (fun c1 => absurd c1 (by decide)) (fun c1 => ?_)
  refine lv_iload_n hx hb dX16_word_11 rfl (lv_at hl 2 rfl) ?_
  refine lv_iconst (v := 1) hx hb dX16_word_12 (by decide) ?_
  refine lv_bipush (v := 9) hx hb dX16_word_13 (by decide) ?_
  have hPc := hP.sub (ws' := []) [] rfl
  have hDc := hD.sub (ws' := []) [] (by decide) rfl
  have hKc := hK.sub (tys' := []) [] rfl
  have hFc := va_free (wc := []) hD hS hA [] rfl
  refine va_calli (va_runS (As := [.int 4, .int 1, .int 9]) (rest := [.ref h0]) ⟨hx, hb, hml, hown, hts⟩ (kX16_isIn_7 l dC dI g H.size  ) (va_cwS 3 hts (ns_gp (List.forall_mem_cons.mpr ⟨wm240, (List.forall_mem_cons.mpr ⟨wm241, (List.forall_mem_cons.mpr ⟨wm192, (fun _ h9 => nomatch h9)⟩)⟩)⟩) wm233) rfl rfl rfl (by decide +kernel) ⟨Nat.le_of_ble_eq_true rfl, Nat.le_of_ble_eq_true rfl⟩) ⟨fun a U gg mk q => by obtain ⟨q0, q1, qP, qK, qD, qF⟩ := q; exact ⟨q0, q1, qP, va_K.moved (u := U) (U := U.calling gg mk a) (Vm.Alike.refl U.vm) qK, qD, ns_same qF⟩, fun U hU hW => ⟨rfl, by rw [hU], by rw [hU]; exact hPc, va_K.moved hW.alike hKc, hDc.weaken (fun _ _ _ _ => trivial), ns_call hF hS hFc hU hW⟩⟩ rfl rfl hl.1 rfl (lv_room (Nat.le_of_ble_eq_true rfl)) dX16_word_15 ⟨Nat.le_of_ble_eq_true rfl, Nat.le_of_ble_eq_true rfl⟩) hS (fun q _ h => hFc q h) hFc (fun r9 u t H1 locs ht hvm hw hB hz1 hk1 hS => ?_)
  obtain rfl := hw.symm
  obtain ⟨hP1, hK1, hD1⟩ := hB
  rw [ht] at hP1
  have hK1 := va_K.moved hvm.symm hK1
  obtain ⟨hP, hD⟩ := va_join (wr := [(h0, .inr (23, [v0, .ref h1, v1, v2, v3, v4, v5, v6, .int 0])), (h1, .inr (6, [.int 0, .ref (g 0), .int 0]))]) (w1 := []) hP hD [] [0, 1] rfl rfl (by decide) (by decide) hk1 hFc hP1 hD1
  have hK := (hK.sub (tys' := []) [] rfl).app hK1
  generalize H1 = H at hP hS ⊢
  have hP : va_P (dC, dI) vwCl [(h0, .inr (23, [v0, .ref h1, v1, v2, v3, v4, v5, v6, .int 0])), (h1, .inr (6, [.int 0, .ref (g 0), .int 0]))] H := hP
  have hD : va_D A [(h0, .inr (23, [v0, .ref h1, v1, v2, v3, v4, v5, v6, .int 0])), (h1, .inr (6, [.int 0, .ref (g 0), .int 0]))] := hD
  have hK : va_K (dC, dI) vwCl [] s := hK
  refine W.widen (k := 0) (n := 0) (Nat.le_of_ble_eq_true rfl) (Nat.le_of_ble_eq_true rfl) ?_
  refine lv_if_ne (tgt := 25) hx hb dX16_word_18 (by decide) (fun c2 => ?_) (fun c2 => absurd c2 (by decide))
  refine lv_iconst (v := 0) hx hb dX16_word_25 (by decide) ?_
  refine lv_iconst (v := 1) hx hb dX16_word_26 (by decide) ?_
  have hPc := hP.sub (ws' := [(h0, .inr (23, [v0, .ref h1, v1, v2, v3, v4, v5, v6, .int 0]))]) [0] rfl
  have hDc := hD.sub (ws' := [(h0, .inr (23, [v0, .ref h1, v1, v2, v3, v4, v5, v6, .int 0]))]) [0] (by decide) rfl
  have hKc := hK.sub (tys' := []) [] rfl
  have hFc := va_free (wc := [(h0, .inr (23, [v0, .ref h1, v1, v2, v3, v4, v5, v6, .int 0]))]) hD hS hA [0] rfl
  refine va_calli (va_runV (As := [.int 0, .int 1]) (rest := []) ⟨hx, hb, hml, hown, hts⟩ (kX16_start_2 l dC dI g H.size h0 v0 (.ref h1) v1 v2 v3 v4 v5 v6 (.int 0) ) (cwV 2 hts (ns_gp (List.forall_mem_cons.mpr ⟨wm242, (List.forall_mem_cons.mpr ⟨wm243, (List.forall_mem_cons.mpr ⟨wm244, (List.forall_mem_cons.mpr ⟨wm192, (fun _ h9 => nomatch h9)⟩)⟩)⟩)⟩) wm239) rfl rfl rfl (by decide +kernel) ⟨Nat.le_of_ble_eq_true rfl, Nat.le_of_ble_eq_true rfl⟩) ⟨fun a U gg mk q => by obtain ⟨q0, q1, qP, qK, qD, qF⟩ := q; exact ⟨q0, q1, qP, va_K.moved (u := U) (U := U.calling gg mk a) (Vm.Alike.refl U.vm) qK, qD, ns_same qF⟩, va_recv hK hP (ci := 23) (q0 := 0) rfl rfl, fun U hU hW => ⟨rfl, by rw [hU], by rw [hU]; exact hPc, va_K.moved hW.alike hKc, hDc.weaken (fun _ _ _ _ => trivial), ns_call hF hS hFc hU hW⟩⟩ rfl rfl hl.1 rfl (lv_room (Nat.le_of_ble_eq_true rfl)) dX16_word_27 ⟨Nat.le_of_ble_eq_true rfl, Nat.le_of_ble_eq_true rfl⟩) hS (fun q _ h => hFc q h) hFc (fun r9 u t H1 locs ht hvm hw hB hz1 hk1 hS => ?_)
  obtain rfl := hw.symm
  obtain ⟨hP1, hK1, hD1⟩ := hB
  rw [ht] at hP1
  have hK1 := va_K.moved hvm.symm hK1
  obtain ⟨hP, hD⟩ := va_join (wr := [(h1, .inr (6, [.int 0, .ref (g 0), .int 0]))]) (w1 := [(h0, .inr (23, [.int 0, .ref h1, v1, v2, v3, v4, v5, v6, .int 0]))]) hP hD [0] [1] rfl rfl (by decide) (by decide) hk1 hFc hP1 hD1
  have hK := (hK.sub (tys' := []) [] rfl).app hK1
  generalize H1 = H at hP hS ⊢
  have hP : va_P (dC, dI) vwCl [(h1, .inr (6, [.int 0, .ref (g 0), .int 0])), (h0, .inr (23, [.int 0, .ref h1, v1, v2, v3, v4, v5, v6, .int 0]))] H := hP
  have hD : va_D A [(h1, .inr (6, [.int 0, .ref (g 0), .int 0])), (h0, .inr (23, [.int 0, .ref h1, v1, v2, v3, v4, v5, v6, .int 0]))] := hD
  have hK : va_K (dC, dI) vwCl [] s := hK
  refine W.widen (k := 0) (n := 0) (Nat.le_of_ble_eq_true rfl) (Nat.le_of_ble_eq_true rfl) ?_
  refine lv_if_ne (tgt := 45) hx hb dX16_word_30 (by decide) (fun c3 => absurd (by decide) c3) (fun c3 => ?_)
  refine lv_aload_n hx hb dX16_word_33 rfl (lv_at hl 0 rfl) ?_
  refine lv_aload_n hx hb dX16_word_34 rfl (lv_at hl 0 rfl) ?_
  have hPc := hP.sub (ws' := [(h0, .inr (23, [.int 0, .ref h1, v1, v2, v3, v4, v5, v6, .int 0])), (h1, .inr (6, [.int 0, .ref (g 0), .int 0]))]) [1, 0] rfl
  have hDc := hD.sub (ws' := [(h0, .inr (23, [.int 0, .ref h1, v1, v2, v3, v4, v5, v6, .int 0])), (h1, .inr (6, [.int 0, .ref (g 0), .int 0]))]) [1, 0] (by decide) rfl
  have hKc := hK.sub (tys' := []) [] rfl
  have hFc := va_free (wc := [(h0, .inr (23, [.int 0, .ref h1, v1, v2, v3, v4, v5, v6, .int 0])), (h1, .inr (6, [.int 0, .ref (g 0), .int 0]))]) hD hS hA [1, 0] rfl
  refine va_calli (va_runV (As := []) (rest := [.ref h0]) ⟨hx, hb, hml, hown, hts⟩ (kX16_isFull l dC dI g H.size h0 h1 (.int 0) v1 v2 v3 v4 v5 v6 (.int 0) (.int 0) (.ref (g 0)) ) (cwV 0 hts (ns_gp (List.forall_mem_cons.mpr ⟨wm393, (List.forall_mem_cons.mpr ⟨wm394, (List.forall_mem_cons.mpr ⟨wm395, (List.forall_mem_cons.mpr ⟨wm192, (fun _ h9 => nomatch h9)⟩)⟩)⟩)⟩) wm288) rfl rfl rfl (by decide +kernel) ⟨Nat.le_of_ble_eq_true rfl, Nat.le_of_ble_eq_true rfl⟩) ⟨fun a U gg mk q => by obtain ⟨q0, q1, qP, qK, qD, qF⟩ := q; exact ⟨q0, q1, qP, va_K.moved (u := U) (U := U.calling gg mk a) (Vm.Alike.refl U.vm) qK, qD, ns_same qF⟩, va_recv hK hP (ci := 23) (q0 := 1) rfl rfl, fun U hU hW => ⟨rfl, by rw [hU], by rw [hU]; exact hPc, va_K.moved hW.alike hKc, hDc.weaken (fun _ _ _ _ => trivial), ns_call hF hS hFc hU hW⟩⟩ rfl rfl hl.1 rfl (lv_room (Nat.le_of_ble_eq_true rfl)) dX16_word_35 ⟨Nat.le_of_ble_eq_true rfl, Nat.le_of_ble_eq_true rfl⟩) hS (fun q _ h => hFc q h) hFc (fun r9 u t H1 locs ht hvm hw hB hz1 hk1 hS => ?_)
  obtain rfl := hw.symm
  obtain ⟨hP1, hK1, hD1⟩ := hB
  rw [ht] at hP1
  have hK1 := va_K.moved hvm.symm hK1
  obtain ⟨hP, hD⟩ := va_join (wr := []) (w1 := [(h0, .inr (23, [.int 0, .ref h1, v1, v2, v3, v4, v5, v6, .int 0])), (h1, .inr (6, [.int 0, .ref (g 0), .int 0]))]) hP hD [1, 0] [] rfl rfl (by decide) (by decide) hk1 hFc hP1 hD1
  have hK := (hK.sub (tys' := []) [] rfl).app hK1
  generalize H1 = H at hP hS ⊢
  have hP : va_P (dC, dI) vwCl [(h0, .inr (23, [.int 0, .ref h1, v1, v2, v3, v4, v5, v6, .int 0])), (h1, .inr (6, [.int 0, .ref (g 0), .int 0]))] H := hP
  have hD : va_D A [(h0, .inr (23, [.int 0, .ref h1, v1, v2, v3, v4, v5, v6, .int 0])), (h1, .inr (6, [.int 0, .ref (g 0), .int 0]))] := hD
  have hK : va_K (dC, dI) vwCl [] s := hK
  refine W.widen (k := 0) (n := 0) (Nat.le_of_ble_eq_true rfl) (Nat.le_of_ble_eq_true rfl) ?_
  refine lv_iconst (v := 2) hx hb dX16_word_38 (by decide) ?_
  have hPc := hP.sub (ws' := [(h0, .inr (23, [.int 0, .ref h1, v1, v2, v3, v4, v5, v6, .int 0]))]) [0] rfl
  have hDc := hD.sub (ws' := [(h0, .inr (23, [.int 0, .ref h1, v1, v2, v3, v4, v5, v6, .int 0]))]) [0] (by decide) rfl
  have hKc := hK.sub (tys' := []) [] rfl
  have hFc := va_free (wc := [(h0, .inr (23, [.int 0, .ref h1, v1, v2, v3, v4, v5, v6, .int 0]))]) hD hS hA [0] rfl
  refine va_calli (va_runV (As := [.int 0, .int 2]) (rest := []) ⟨hx, hb, hml, hown, hts⟩ (kX16_refuse_3 l dC dI g H.size h0 (.ref h1) v1 v2 v3 v4 v5 v6 (.int 0) ) (cwV 2 hts (ns_gp (List.forall_mem_cons.mpr ⟨wm236, (List.forall_mem_cons.mpr ⟨wm237, (List.forall_mem_cons.mpr ⟨wm238, (List.forall_mem_cons.mpr ⟨wm192, (fun _ h9 => nomatch h9)⟩)⟩)⟩)⟩) wm235) rfl rfl rfl (by decide +kernel) ⟨Nat.le_of_ble_eq_true rfl, Nat.le_of_ble_eq_true rfl⟩) ⟨fun a U gg mk q => by obtain ⟨q0, q1, qP, qK, qD, qF⟩ := q; exact ⟨q0, q1, qP, va_K.moved (u := U) (U := U.calling gg mk a) (Vm.Alike.refl U.vm) qK, qD, ns_same qF⟩, va_recv hK hP (ci := 23) (q0 := 0) rfl rfl, fun U hU hW => ⟨rfl, by rw [hU], by rw [hU]; exact hPc, va_K.moved hW.alike hKc, hDc.weaken (fun _ _ _ _ => trivial), ns_call hF hS hFc hU hW⟩⟩ rfl rfl hl.1 rfl (lv_room (Nat.le_of_ble_eq_true rfl)) dX16_word_39 ⟨Nat.le_of_ble_eq_true rfl, Nat.le_of_ble_eq_true rfl⟩) hS (fun q _ h => hFc q h) hFc (fun r9 u t H1 locs ht hvm hw hB hz1 hk1 hS => ?_)
  obtain rfl := hw.symm
  obtain ⟨hP1, hK1, hD1⟩ := hB
  rw [ht] at hP1
  have hK1 := va_K.moved hvm.symm hK1
  obtain ⟨hP, hD⟩ := va_join (wr := [(h1, .inr (6, [.int 0, .ref (g 0), .int 0]))]) (w1 := [(h0, .inr (23, [.int 0, .ref h1, v1, v2, v3, v4, v5, v6, .int 0]))]) hP hD [0] [1] rfl rfl (by decide) (by decide) hk1 hFc hP1 hD1
  have hK := (hK.sub (tys' := []) [] rfl).app hK1
  generalize H1 = H at hP hS ⊢
  have hP : va_P (dC, dI) vwCl [(h1, .inr (6, [.int 0, .ref (g 0), .int 0])), (h0, .inr (23, [.int 0, .ref h1, v1, v2, v3, v4, v5, v6, .int 0]))] H := hP
  have hD : va_D A [(h1, .inr (6, [.int 0, .ref (g 0), .int 0])), (h0, .inr (23, [.int 0, .ref h1, v1, v2, v3, v4, v5, v6, .int 0]))] := hD
  have hK : va_K (dC, dI) vwCl [] s := hK
  refine W.widen (k := 0) (n := 0) (Nat.le_of_ble_eq_true rfl) (Nat.le_of_ble_eq_true rfl) ?_
  refine lv_if_eq (tgt := 47) hx hb dX16_word_42 (by decide) (fun c4 => ?_) (fun c4 => absurd (by decide) c4)
  refine va_new (ci := 1) (fs := [.null, .int 0, .int 0, .int 0]) (C := RJ4) (T := TJ4) (N := 4) hx hb hta naJ4 tyJ4 tyJ4_ok hown (hta _ wm289) (hta _ wm136) (hta _ wm137) hK hP hD hS hA rfl (fun j hj => by rcases (show j = 0 ∨ j = 1 ∨ j = 2 ∨ j = 3 by omega) with rfl | rfl | rfl | rfl <;> rfl) (Nat.le_of_ble_eq_true rfl) (Nat.le_of_ble_eq_true rfl) dX16_word_47 (fun q5 H hP hD hS => ?_)
  have hP : va_P (dC, dI) vwCl [(h1, .inr (6, [.int 0, .ref (g 0), .int 0])), (h0, .inr (23, [.int 0, .ref h1, v1, v2, v3, v4, v5, v6, .int 0])), (q5, .inr (1, [.null, .int 0, .int 0, .int 0]))] H := hP
  have hD : va_D A [(h1, .inr (6, [.int 0, .ref (g 0), .int 0])), (h0, .inr (23, [.int 0, .ref h1, v1, v2, v3, v4, v5, v6, .int 0])), (q5, .inr (1, [.null, .int 0, .int 0, .int 0]))] := hD
  refine W.widen (k := 1) (n := 4) (Nat.le_of_ble_eq_true rfl) (Nat.le_of_ble_eq_true rfl) ?_
  refine lv_dup hx hb dX16_word_50 rfl ?_
  have hPc := hP.sub (ws' := [(q5, .inr (1, [.null, .int 0, .int 0, .int 0]))]) [2] rfl
  have hDc := hD.sub (ws' := [(q5, .inr (1, [.null, .int 0, .int 0, .int 0]))]) [2] (by decide) rfl
  have hKc := hK.sub (tys' := []) [] rfl
  have hFc := va_free (wc := [(q5, .inr (1, [.null, .int 0, .int 0, .int 0]))]) hD hS hA [2] rfl
  refine va_callv (va_runI (As := []) (rest := [.ref q5]) ⟨hx, hb, hml, hown, hts⟩ (kJ4_init_da8c8 l dC dI g H.size q5 .null (.int 0) (.int 0) (.int 0) ) (cwI 0 hts (ns_g0 wm147) rfl rfl rfl (hta _ wm137) (hta _ wm396) (hta _ wm185) rfl (by decide +kernel) ⟨Nat.le_of_ble_eq_true rfl, Nat.le_of_ble_eq_true rfl⟩) ⟨fun a U gg mk q => by obtain ⟨q0, q1, qP, qK, qD, qF⟩ := q; exact ⟨q0, q1, qP, va_K.moved (u := U) (U := U.calling gg mk a) (Vm.Alike.refl U.vm) qK, qD, ns_same qF⟩, fun U hU hW => ⟨rfl, by rw [hU], by rw [hU]; exact hPc, va_K.moved hW.alike hKc, hDc.weaken (fun _ _ _ _ => trivial), ns_call hF hS hFc hU hW⟩⟩ rfl rfl hl.1 rfl (lv_room (Nat.le_of_ble_eq_true rfl)) dX16_word_51 ⟨Nat.le_of_ble_eq_true rfl, Nat.le_of_ble_eq_true rfl⟩) hS (fun q _ h => hFc q h) hFc (fun u t H1 locs ht hvm hw hB hz1 hk1 hS => ?_)
  obtain ⟨q6, cy7, hP1, hK1, hD1⟩ := hB
  rw [ht] at hP1
  have hK1 := va_K.moved hvm.symm hK1
  obtain ⟨hP, hD⟩ := va_join (wr := [(h1, .inr (6, [.int 0, .ref (g 0), .int 0])), (h0, .inr (23, [.int 0, .ref h1, v1, v2, v3, v4, v5, v6, .int 0]))]) (w1 := [(q5, .inr (1, [.ref q6, .int 0, .int 0, .int 0])), (q6, .inl (cy7, 16, .inl (fun _ => 0)))]) hP hD [2] [0, 1] rfl rfl (by decide) (by decide) hk1 hFc hP1 hD1
  have hK := (hK.sub (tys' := []) [] rfl).app hK1
  generalize H1 = H at hP hS ⊢
  have hP : va_P (dC, dI) vwCl [(h1, .inr (6, [.int 0, .ref (g 0), .int 0])), (h0, .inr (23, [.int 0, .ref h1, v1, v2, v3, v4, v5, v6, .int 0])), (q5, .inr (1, [.ref q6, .int 0, .int 0, .int 0])), (q6, .inl (cy7, 16, .inl (fun _ => 0)))] H := hP
  have hD : va_D A [(h1, .inr (6, [.int 0, .ref (g 0), .int 0])), (h0, .inr (23, [.int 0, .ref h1, v1, v2, v3, v4, v5, v6, .int 0])), (q5, .inr (1, [.ref q6, .int 0, .int 0, .int 0])), (q6, .inl (cy7, 16, .inl (fun _ => 0)))] := hD
  have hK : va_K (dC, dI) vwCl [(cy7, .byte)] s := hK
  refine W.widen (k := 2) (n := 20) (Nat.le_of_ble_eq_true rfl) (Nat.le_of_ble_eq_true rfl) ?_
  refine lv_astore_n (lv' := [(3, .ref q5), (0, .ref h0), (1, .int x0), (2, .int 4)]) hx hb dX16_word_54 rfl hl (by decide) rfl (fun ls hl => ?_)
  refine lv_iconst (v := 0) hx hb dX16_word_55 (by decide) ?_
  refine lv_istore (lv' := [(4, .int 0), (3, .ref q5), (0, .ref h0), (1, .int x0), (2, .int 4)]) hx hb dX16_word_56 hl (by decide) rfl (fun ls hl => ?_)
  refine lv_iload hx hb dX16_word_58 (lv_at hl 0 rfl) ?_
  refine lv_iload_n hx hb dX16_word_60 rfl (lv_at hl 4 rfl) ?_
  refine lv_icmp_ge (tgt := 80) hx hb dX16_word_61 (by decide) (fun c8 => absurd c8 (by decide)) (fun c8 => ?_)
  refine lv_aload_n hx hb dX16_word_64 rfl (lv_at hl 1 rfl) ?_
  refine lv_bipush (v := 97) hx hb dX16_word_65 (by decide) ?_
  refine lv_iload_n hx hb dX16_word_67 rfl (lv_at hl 3 rfl) ?_
  refine lv_iadd hx hb dX16_word_68 ?_
  have r9 : (97 + x0).toInt = (97 : Int) + x0.toInt := fb_addI (show (-2147483648 : Int) ≤ (97 : Int) + x0.toInt by omega) (show (97 : Int) + x0.toInt < (2147483648 : Int) by omega)
  refine lv_i2c (v := (97 + x0)) hx hb dX16_word_69 (ns_i2c (show (0 : Int) ≤ (97 + x0).toInt by omega) (by omega)) ?_
  have hPc := hP.sub (ws' := [(q5, .inr (1, [.ref q6, .int 0, .int 0, .int 0])), (q6, .inl (cy7, 16, .inl (fun _ => 0)))]) [2, 3] rfl
  have hDc := hD.sub (ws' := [(q5, .inr (1, [.ref q6, .int 0, .int 0, .int 0])), (q6, .inl (cy7, 16, .inl (fun _ => 0)))]) [2, 3] (by decide) rfl
  have hKc := hK.sub (tys' := [(cy7, .byte)]) [0] rfl
  have hFc := va_free (wc := [(q5, .inr (1, [.ref q6, .int 0, .int 0, .int 0])), (q6, .inl (cy7, 16, .inl (fun _ => 0)))]) hD hS hA [2, 3] rfl
  refine va_callr (va_runV (As := [.int (97 + x0)]) (rest := []) ⟨hx, hb, hml, hown, hts⟩ (kJ4_append_cf468 l dC dI g H.size q5 (97 + x0) q6 (.int 0) cy7 (fun _ => 0) sb_fit0 ⟨by omega, by omega⟩) (cwV 1 hts (ns_gp (List.forall_mem_cons.mpr ⟨wm397, (List.forall_mem_cons.mpr ⟨wm398, (List.forall_mem_cons.mpr ⟨wm399, (List.forall_mem_cons.mpr ⟨wm137, (fun _ h9 => nomatch h9)⟩)⟩)⟩)⟩) wm310) rfl rfl rfl (by decide +kernel) ⟨Nat.le_of_ble_eq_true rfl, Nat.le_of_ble_eq_true rfl⟩) ⟨fun a U gg mk q => by obtain ⟨q0, q1, qP, qK, qD, qF⟩ := q; exact ⟨q0, q1, qP, va_K.moved (u := U) (U := U.calling gg mk a) (Vm.Alike.refl U.vm) qK, qD, ns_same qF⟩, va_recv hK hP (ci := 1) (q0 := 2) rfl rfl, fun U hU hW => ⟨rfl, by rw [hU], by rw [hU]; exact hPc, va_K.moved hW.alike hKc, hDc.weaken (fun _ _ _ _ => trivial), ns_call hF hS hFc hU hW⟩⟩ rfl rfl hl.1 rfl (lv_room (Nat.le_of_ble_eq_true rfl)) dX16_word_70 ⟨Nat.le_of_ble_eq_true rfl, Nat.le_of_ble_eq_true rfl⟩) hS (fun q _ h => hFc q h) hFc (fun u r9 t H1 locs ht hvm hw hB hz1 hk1 hS => ?_)
  obtain ⟨hr9, hP1, hK1, hD1⟩ := hB
  obtain rfl := hr9.symm
  rw [ht] at hP1
  have hK1 := va_K.moved hvm.symm hK1
  obtain ⟨hP, hD⟩ := va_join (wr := [(h1, .inr (6, [.int 0, .ref (g 0), .int 0])), (h0, .inr (23, [.int 0, .ref h1, v1, v2, v3, v4, v5, v6, .int 0]))]) (w1 := [(q6, .inl (cy7, 16, .inl (upd ((fun _ => 0)) 0 (vp_nar .byte (97 + x0).toInt8.toInt32)))), (q5, .inr (1, [.ref q6, .int 0, .int 0, .int 1]))]) hP hD [2, 3] [0, 1] rfl rfl (by decide) (by decide) hk1 hFc hP1 hD1
  have hK := (hK.sub (tys' := []) [] rfl).app hK1
  generalize H1 = H at hP hS ⊢
  have hP : va_P (dC, dI) vwCl [(h1, .inr (6, [.int 0, .ref (g 0), .int 0])), (h0, .inr (23, [.int 0, .ref h1, v1, v2, v3, v4, v5, v6, .int 0])), (q6, .inl (cy7, 16, .inl (upd ((fun _ => 0)) 0 (vp_nar .byte (97 + x0).toInt8.toInt32)))), (q5, .inr (1, [.ref q6, .int 0, .int 0, .int 1]))] H := hP
  have hD : va_D A [(h1, .inr (6, [.int 0, .ref (g 0), .int 0])), (h0, .inr (23, [.int 0, .ref h1, v1, v2, v3, v4, v5, v6, .int 0])), (q6, .inl (cy7, 16, .inl (upd ((fun _ => 0)) 0 (vp_nar .byte (97 + x0).toInt8.toInt32)))), (q5, .inr (1, [.ref q6, .int 0, .int 0, .int 1]))] := hD
  have hK : va_K (dC, dI) vwCl [(cy7, .byte)] s := hK
  refine W.widen (k := 2) (n := 20) (Nat.le_of_ble_eq_true rfl) (Nat.le_of_ble_eq_true rfl) ?_
  refine lv_pop hx hb dX16_word_73 rfl ?_
  refine lv_iinc (v := 1) (lv' := [(4, .int 1), (3, .ref q5), (0, .ref h0), (1, .int x0), (2, .int 4)]) hx hb dX16_word_74 hl (k := 0) rfl (by decide) (by decide) rfl (fun ls hl => ?_)
  refine lv_goto (tgt := 58) hx hb dX16_word_77 (by decide) ?_
  refine lv_iload hx hb dX16_word_58 (lv_at hl 0 rfl) ?_
  refine lv_iload_n hx hb dX16_word_60 rfl (lv_at hl 4 rfl) ?_
  refine lv_icmp_ge (tgt := 80) hx hb dX16_word_61 (by decide) (fun c10 => absurd c10 (by decide)) (fun c10 => ?_)
  refine lv_aload_n hx hb dX16_word_64 rfl (lv_at hl 1 rfl) ?_
  refine lv_bipush (v := 97) hx hb dX16_word_65 (by decide) ?_
  refine lv_iload_n hx hb dX16_word_67 rfl (lv_at hl 3 rfl) ?_
  refine lv_iadd hx hb dX16_word_68 ?_
  have r11 : (97 + x0).toInt = (97 : Int) + x0.toInt := fb_addI (show (-2147483648 : Int) ≤ (97 : Int) + x0.toInt by omega) (show (97 : Int) + x0.toInt < (2147483648 : Int) by omega)
  refine lv_i2c (v := (97 + x0)) hx hb dX16_word_69 (ns_i2c (show (0 : Int) ≤ (97 + x0).toInt by omega) (by omega)) ?_
  have hPc := hP.sub (ws' := [(q5, .inr (1, [.ref q6, .int 0, .int 0, .int 1])), (q6, .inl (cy7, 16, .inl (upd ((fun _ => 0)) 0 (vp_nar .byte (97 + x0).toInt8.toInt32))))]) [3, 2] rfl
  have hDc := hD.sub (ws' := [(q5, .inr (1, [.ref q6, .int 0, .int 0, .int 1])), (q6, .inl (cy7, 16, .inl (upd ((fun _ => 0)) 0 (vp_nar .byte (97 + x0).toInt8.toInt32))))]) [3, 2] (by decide) rfl
  have hKc := hK.sub (tys' := [(cy7, .byte)]) [0] rfl
  have hFc := va_free (wc := [(q5, .inr (1, [.ref q6, .int 0, .int 0, .int 1])), (q6, .inl (cy7, 16, .inl (upd ((fun _ => 0)) 0 (vp_nar .byte (97 + x0).toInt8.toInt32))))]) hD hS hA [3, 2] rfl
  refine va_callr (va_runV (As := [.int (97 + x0)]) (rest := []) ⟨hx, hb, hml, hown, hts⟩ (kJ4_append_cf468_2 l dC dI g H.size q5 (97 + x0) q6 (.int 0) cy7 (upd ((fun _ => 0)) 0 (vp_nar .byte (97 + x0).toInt8.toInt32)) (sb_fitU sb_fit0 (pk_fb _)) ⟨by omega, by omega⟩) (cwV 1 hts (ns_gp (List.forall_mem_cons.mpr ⟨wm397, (List.forall_mem_cons.mpr ⟨wm398, (List.forall_mem_cons.mpr ⟨wm399, (List.forall_mem_cons.mpr ⟨wm137, (fun _ h9 => nomatch h9)⟩)⟩)⟩)⟩) wm310) rfl rfl rfl (by decide +kernel) ⟨Nat.le_of_ble_eq_true rfl, Nat.le_of_ble_eq_true rfl⟩) ⟨fun a U gg mk q => by obtain ⟨q0, q1, qP, qK, qD, qF⟩ := q; exact ⟨q0, q1, qP, va_K.moved (u := U) (U := U.calling gg mk a) (Vm.Alike.refl U.vm) qK, qD, ns_same qF⟩, va_recv hK hP (ci := 1) (q0 := 3) rfl rfl, fun U hU hW => ⟨rfl, by rw [hU], by rw [hU]; exact hPc, va_K.moved hW.alike hKc, hDc.weaken (fun _ _ _ _ => trivial), ns_call hF hS hFc hU hW⟩⟩ rfl rfl hl.1 rfl (lv_room (Nat.le_of_ble_eq_true rfl)) dX16_word_70 ⟨Nat.le_of_ble_eq_true rfl, Nat.le_of_ble_eq_true rfl⟩) hS (fun q _ h => hFc q h) hFc (fun u r9 t H1 locs ht hvm hw hB hz1 hk1 hS => ?_)
  obtain ⟨hr9, hP1, hK1, hD1⟩ := hB
  obtain rfl := hr9.symm
  rw [ht] at hP1
  have hK1 := va_K.moved hvm.symm hK1
  obtain ⟨hP, hD⟩ := va_join (wr := [(h1, .inr (6, [.int 0, .ref (g 0), .int 0])), (h0, .inr (23, [.int 0, .ref h1, v1, v2, v3, v4, v5, v6, .int 0]))]) (w1 := [(q6, .inl (cy7, 16, .inl (upd ((upd ((fun _ => 0)) 0 (vp_nar .byte (97 + x0).toInt8.toInt32))) 1 (vp_nar .byte (97 + x0).toInt8.toInt32)))), (q5, .inr (1, [.ref q6, .int 0, .int 0, .int 2]))]) hP hD [3, 2] [0, 1] rfl rfl (by decide) (by decide) hk1 hFc hP1 hD1
  have hK := (hK.sub (tys' := []) [] rfl).app hK1
  generalize H1 = H at hP hS ⊢
  have hP : va_P (dC, dI) vwCl [(h1, .inr (6, [.int 0, .ref (g 0), .int 0])), (h0, .inr (23, [.int 0, .ref h1, v1, v2, v3, v4, v5, v6, .int 0])), (q6, .inl (cy7, 16, .inl (upd ((upd ((fun _ => 0)) 0 (vp_nar .byte (97 + x0).toInt8.toInt32))) 1 (vp_nar .byte (97 + x0).toInt8.toInt32)))), (q5, .inr (1, [.ref q6, .int 0, .int 0, .int 2]))] H := hP
  have hD : va_D A [(h1, .inr (6, [.int 0, .ref (g 0), .int 0])), (h0, .inr (23, [.int 0, .ref h1, v1, v2, v3, v4, v5, v6, .int 0])), (q6, .inl (cy7, 16, .inl (upd ((upd ((fun _ => 0)) 0 (vp_nar .byte (97 + x0).toInt8.toInt32))) 1 (vp_nar .byte (97 + x0).toInt8.toInt32)))), (q5, .inr (1, [.ref q6, .int 0, .int 0, .int 2]))] := hD
  have hK : va_K (dC, dI) vwCl [(cy7, .byte)] s := hK
  refine W.widen (k := 2) (n := 20) (Nat.le_of_ble_eq_true rfl) (Nat.le_of_ble_eq_true rfl) ?_
  refine lv_pop hx hb dX16_word_73 rfl ?_
  refine lv_iinc (v := 2) (lv' := [(4, .int 2), (3, .ref q5), (0, .ref h0), (1, .int x0), (2, .int 4)]) hx hb dX16_word_74 hl (k := 0) rfl (by decide) (by decide) rfl (fun ls hl => ?_)
  refine lv_goto (tgt := 58) hx hb dX16_word_77 (by decide) ?_
  refine lv_iload hx hb dX16_word_58 (lv_at hl 0 rfl) ?_
  refine lv_iload_n hx hb dX16_word_60 rfl (lv_at hl 4 rfl) ?_
  refine lv_icmp_ge (tgt := 80) hx hb dX16_word_61 (by decide) (fun c12 => absurd c12 (by decide)) (fun c12 => ?_)
  refine lv_aload_n hx hb dX16_word_64 rfl (lv_at hl 1 rfl) ?_
  refine lv_bipush (v := 97) hx hb dX16_word_65 (by decide) ?_
  refine lv_iload_n hx hb dX16_word_67 rfl (lv_at hl 3 rfl) ?_
  refine lv_iadd hx hb dX16_word_68 ?_
  have r13 : (97 + x0).toInt = (97 : Int) + x0.toInt := fb_addI (show (-2147483648 : Int) ≤ (97 : Int) + x0.toInt by omega) (show (97 : Int) + x0.toInt < (2147483648 : Int) by omega)
  refine lv_i2c (v := (97 + x0)) hx hb dX16_word_69 (ns_i2c (show (0 : Int) ≤ (97 + x0).toInt by omega) (by omega)) ?_
  have hPc := hP.sub (ws' := [(q5, .inr (1, [.ref q6, .int 0, .int 0, .int 2])), (q6, .inl (cy7, 16, .inl (upd ((upd ((fun _ => 0)) 0 (vp_nar .byte (97 + x0).toInt8.toInt32))) 1 (vp_nar .byte (97 + x0).toInt8.toInt32))))]) [3, 2] rfl
  have hDc := hD.sub (ws' := [(q5, .inr (1, [.ref q6, .int 0, .int 0, .int 2])), (q6, .inl (cy7, 16, .inl (upd ((upd ((fun _ => 0)) 0 (vp_nar .byte (97 + x0).toInt8.toInt32))) 1 (vp_nar .byte (97 + x0).toInt8.toInt32))))]) [3, 2] (by decide) rfl
  have hKc := hK.sub (tys' := [(cy7, .byte)]) [0] rfl
  have hFc := va_free (wc := [(q5, .inr (1, [.ref q6, .int 0, .int 0, .int 2])), (q6, .inl (cy7, 16, .inl (upd ((upd ((fun _ => 0)) 0 (vp_nar .byte (97 + x0).toInt8.toInt32))) 1 (vp_nar .byte (97 + x0).toInt8.toInt32))))]) hD hS hA [3, 2] rfl
  refine va_callr (va_runV (As := [.int (97 + x0)]) (rest := []) ⟨hx, hb, hml, hown, hts⟩ (kJ4_append_cf468_3 l dC dI g H.size q5 (97 + x0) q6 (.int 0) cy7 (upd ((upd ((fun _ => 0)) 0 (vp_nar .byte (97 + x0).toInt8.toInt32))) 1 (vp_nar .byte (97 + x0).toInt8.toInt32)) (sb_fitU (sb_fitU sb_fit0 (pk_fb _)) (pk_fb _)) ⟨by omega, by omega⟩) (cwV 1 hts (ns_gp (List.forall_mem_cons.mpr ⟨wm397, (List.forall_mem_cons.mpr ⟨wm398, (List.forall_mem_cons.mpr ⟨wm399, (List.forall_mem_cons.mpr ⟨wm137, (fun _ h9 => nomatch h9)⟩)⟩)⟩)⟩) wm310) rfl rfl rfl (by decide +kernel) ⟨Nat.le_of_ble_eq_true rfl, Nat.le_of_ble_eq_true rfl⟩) ⟨fun a U gg mk q => by obtain ⟨q0, q1, qP, qK, qD, qF⟩ := q; exact ⟨q0, q1, qP, va_K.moved (u := U) (U := U.calling gg mk a) (Vm.Alike.refl U.vm) qK, qD, ns_same qF⟩, va_recv hK hP (ci := 1) (q0 := 3) rfl rfl, fun U hU hW => ⟨rfl, by rw [hU], by rw [hU]; exact hPc, va_K.moved hW.alike hKc, hDc.weaken (fun _ _ _ _ => trivial), ns_call hF hS hFc hU hW⟩⟩ rfl rfl hl.1 rfl (lv_room (Nat.le_of_ble_eq_true rfl)) dX16_word_70 ⟨Nat.le_of_ble_eq_true rfl, Nat.le_of_ble_eq_true rfl⟩) hS (fun q _ h => hFc q h) hFc (fun u r9 t H1 locs ht hvm hw hB hz1 hk1 hS => ?_)
  obtain ⟨hr9, hP1, hK1, hD1⟩ := hB
  obtain rfl := hr9.symm
  rw [ht] at hP1
  have hK1 := va_K.moved hvm.symm hK1
  obtain ⟨hP, hD⟩ := va_join (wr := [(h1, .inr (6, [.int 0, .ref (g 0), .int 0])), (h0, .inr (23, [.int 0, .ref h1, v1, v2, v3, v4, v5, v6, .int 0]))]) (w1 := [(q6, .inl (cy7, 16, .inl (upd ((upd ((upd ((fun _ => 0)) 0 (vp_nar .byte (97 + x0).toInt8.toInt32))) 1 (vp_nar .byte (97 + x0).toInt8.toInt32))) 2 (vp_nar .byte (97 + x0).toInt8.toInt32)))), (q5, .inr (1, [.ref q6, .int 0, .int 0, .int 3]))]) hP hD [3, 2] [0, 1] rfl rfl (by decide) (by decide) hk1 hFc hP1 hD1
  have hK := (hK.sub (tys' := []) [] rfl).app hK1
  generalize H1 = H at hP hS ⊢
  have hP : va_P (dC, dI) vwCl [(h1, .inr (6, [.int 0, .ref (g 0), .int 0])), (h0, .inr (23, [.int 0, .ref h1, v1, v2, v3, v4, v5, v6, .int 0])), (q6, .inl (cy7, 16, .inl (upd ((upd ((upd ((fun _ => 0)) 0 (vp_nar .byte (97 + x0).toInt8.toInt32))) 1 (vp_nar .byte (97 + x0).toInt8.toInt32))) 2 (vp_nar .byte (97 + x0).toInt8.toInt32)))), (q5, .inr (1, [.ref q6, .int 0, .int 0, .int 3]))] H := hP
  have hD : va_D A [(h1, .inr (6, [.int 0, .ref (g 0), .int 0])), (h0, .inr (23, [.int 0, .ref h1, v1, v2, v3, v4, v5, v6, .int 0])), (q6, .inl (cy7, 16, .inl (upd ((upd ((upd ((fun _ => 0)) 0 (vp_nar .byte (97 + x0).toInt8.toInt32))) 1 (vp_nar .byte (97 + x0).toInt8.toInt32))) 2 (vp_nar .byte (97 + x0).toInt8.toInt32)))), (q5, .inr (1, [.ref q6, .int 0, .int 0, .int 3]))] := hD
  have hK : va_K (dC, dI) vwCl [(cy7, .byte)] s := hK
  refine W.widen (k := 2) (n := 20) (Nat.le_of_ble_eq_true rfl) (Nat.le_of_ble_eq_true rfl) ?_
  refine lv_pop hx hb dX16_word_73 rfl ?_
  refine lv_iinc (v := 3) (lv' := [(4, .int 3), (3, .ref q5), (0, .ref h0), (1, .int x0), (2, .int 4)]) hx hb dX16_word_74 hl (k := 0) rfl (by decide) (by decide) rfl (fun ls hl => ?_)
  refine lv_goto (tgt := 58) hx hb dX16_word_77 (by decide) ?_
  refine lv_iload hx hb dX16_word_58 (lv_at hl 0 rfl) ?_
  refine lv_iload_n hx hb dX16_word_60 rfl (lv_at hl 4 rfl) ?_
  refine lv_icmp_ge (tgt := 80) hx hb dX16_word_61 (by decide) (fun c14 => absurd c14 (by decide)) (fun c14 => ?_)
  refine lv_aload_n hx hb dX16_word_64 rfl (lv_at hl 1 rfl) ?_
  refine lv_bipush (v := 97) hx hb dX16_word_65 (by decide) ?_
  refine lv_iload_n hx hb dX16_word_67 rfl (lv_at hl 3 rfl) ?_
  refine lv_iadd hx hb dX16_word_68 ?_
  have r15 : (97 + x0).toInt = (97 : Int) + x0.toInt := fb_addI (show (-2147483648 : Int) ≤ (97 : Int) + x0.toInt by omega) (show (97 : Int) + x0.toInt < (2147483648 : Int) by omega)
  refine lv_i2c (v := (97 + x0)) hx hb dX16_word_69 (ns_i2c (show (0 : Int) ≤ (97 + x0).toInt by omega) (by omega)) ?_
  have hPc := hP.sub (ws' := [(q5, .inr (1, [.ref q6, .int 0, .int 0, .int 3])), (q6, .inl (cy7, 16, .inl (upd ((upd ((upd ((fun _ => 0)) 0 (vp_nar .byte (97 + x0).toInt8.toInt32))) 1 (vp_nar .byte (97 + x0).toInt8.toInt32))) 2 (vp_nar .byte (97 + x0).toInt8.toInt32))))]) [3, 2] rfl
  have hDc := hD.sub (ws' := [(q5, .inr (1, [.ref q6, .int 0, .int 0, .int 3])), (q6, .inl (cy7, 16, .inl (upd ((upd ((upd ((fun _ => 0)) 0 (vp_nar .byte (97 + x0).toInt8.toInt32))) 1 (vp_nar .byte (97 + x0).toInt8.toInt32))) 2 (vp_nar .byte (97 + x0).toInt8.toInt32))))]) [3, 2] (by decide) rfl
  have hKc := hK.sub (tys' := [(cy7, .byte)]) [0] rfl
  have hFc := va_free (wc := [(q5, .inr (1, [.ref q6, .int 0, .int 0, .int 3])), (q6, .inl (cy7, 16, .inl (upd ((upd ((upd ((fun _ => 0)) 0 (vp_nar .byte (97 + x0).toInt8.toInt32))) 1 (vp_nar .byte (97 + x0).toInt8.toInt32))) 2 (vp_nar .byte (97 + x0).toInt8.toInt32))))]) hD hS hA [3, 2] rfl
  refine va_callr (va_runV (As := [.int (97 + x0)]) (rest := []) ⟨hx, hb, hml, hown, hts⟩ (kJ4_append_cf468_4 l dC dI g H.size q5 (97 + x0) q6 (.int 0) cy7 (upd ((upd ((upd ((fun _ => 0)) 0 (vp_nar .byte (97 + x0).toInt8.toInt32))) 1 (vp_nar .byte (97 + x0).toInt8.toInt32))) 2 (vp_nar .byte (97 + x0).toInt8.toInt32)) (sb_fitU (sb_fitU (sb_fitU sb_fit0 (pk_fb _)) (pk_fb _)) (pk_fb _)) ⟨by omega, by omega⟩) (cwV 1 hts (ns_gp (List.forall_mem_cons.mpr ⟨wm397, (List.forall_mem_cons.mpr ⟨wm398, (List.forall_mem_cons.mpr ⟨wm399, (List.forall_mem_cons.mpr ⟨wm137, (fun _ h9 => nomatch h9)⟩)⟩)⟩)⟩) wm310) rfl rfl rfl (by decide +kernel) ⟨Nat.le_of_ble_eq_true rfl, Nat.le_of_ble_eq_true rfl⟩) ⟨fun a U gg mk q => by obtain ⟨q0, q1, qP, qK, qD, qF⟩ := q; exact ⟨q0, q1, qP, va_K.moved (u := U) (U := U.calling gg mk a) (Vm.Alike.refl U.vm) qK, qD, ns_same qF⟩, va_recv hK hP (ci := 1) (q0 := 3) rfl rfl, fun U hU hW => ⟨rfl, by rw [hU], by rw [hU]; exact hPc, va_K.moved hW.alike hKc, hDc.weaken (fun _ _ _ _ => trivial), ns_call hF hS hFc hU hW⟩⟩ rfl rfl hl.1 rfl (lv_room (Nat.le_of_ble_eq_true rfl)) dX16_word_70 ⟨Nat.le_of_ble_eq_true rfl, Nat.le_of_ble_eq_true rfl⟩) hS (fun q _ h => hFc q h) hFc (fun u r9 t H1 locs ht hvm hw hB hz1 hk1 hS => ?_)
  obtain ⟨hr9, hP1, hK1, hD1⟩ := hB
  obtain rfl := hr9.symm
  rw [ht] at hP1
  have hK1 := va_K.moved hvm.symm hK1
  obtain ⟨hP, hD⟩ := va_join (wr := [(h1, .inr (6, [.int 0, .ref (g 0), .int 0])), (h0, .inr (23, [.int 0, .ref h1, v1, v2, v3, v4, v5, v6, .int 0]))]) (w1 := [(q6, .inl (cy7, 16, .inl (upd ((upd ((upd ((upd ((fun _ => 0)) 0 (vp_nar .byte (97 + x0).toInt8.toInt32))) 1 (vp_nar .byte (97 + x0).toInt8.toInt32))) 2 (vp_nar .byte (97 + x0).toInt8.toInt32))) 3 (vp_nar .byte (97 + x0).toInt8.toInt32)))), (q5, .inr (1, [.ref q6, .int 0, .int 0, .int 4]))]) hP hD [3, 2] [0, 1] rfl rfl (by decide) (by decide) hk1 hFc hP1 hD1
  have hK := (hK.sub (tys' := []) [] rfl).app hK1
  generalize H1 = H at hP hS ⊢
  have hP : va_P (dC, dI) vwCl [(h1, .inr (6, [.int 0, .ref (g 0), .int 0])), (h0, .inr (23, [.int 0, .ref h1, v1, v2, v3, v4, v5, v6, .int 0])), (q6, .inl (cy7, 16, .inl (upd ((upd ((upd ((upd ((fun _ => 0)) 0 (vp_nar .byte (97 + x0).toInt8.toInt32))) 1 (vp_nar .byte (97 + x0).toInt8.toInt32))) 2 (vp_nar .byte (97 + x0).toInt8.toInt32))) 3 (vp_nar .byte (97 + x0).toInt8.toInt32)))), (q5, .inr (1, [.ref q6, .int 0, .int 0, .int 4]))] H := hP
  have hD : va_D A [(h1, .inr (6, [.int 0, .ref (g 0), .int 0])), (h0, .inr (23, [.int 0, .ref h1, v1, v2, v3, v4, v5, v6, .int 0])), (q6, .inl (cy7, 16, .inl (upd ((upd ((upd ((upd ((fun _ => 0)) 0 (vp_nar .byte (97 + x0).toInt8.toInt32))) 1 (vp_nar .byte (97 + x0).toInt8.toInt32))) 2 (vp_nar .byte (97 + x0).toInt8.toInt32))) 3 (vp_nar .byte (97 + x0).toInt8.toInt32)))), (q5, .inr (1, [.ref q6, .int 0, .int 0, .int 4]))] := hD
  have hK : va_K (dC, dI) vwCl [(cy7, .byte)] s := hK
  refine W.widen (k := 2) (n := 20) (Nat.le_of_ble_eq_true rfl) (Nat.le_of_ble_eq_true rfl) ?_
  refine lv_pop hx hb dX16_word_73 rfl ?_
  refine lv_iinc (v := 4) (lv' := [(4, .int 4), (3, .ref q5), (0, .ref h0), (1, .int x0), (2, .int 4)]) hx hb dX16_word_74 hl (k := 0) rfl (by decide) (by decide) rfl (fun ls hl => ?_)
  refine lv_goto (tgt := 58) hx hb dX16_word_77 (by decide) ?_
  refine lv_iload hx hb dX16_word_58 (lv_at hl 0 rfl) ?_
  refine lv_iload_n hx hb dX16_word_60 rfl (lv_at hl 4 rfl) ?_
  refine lv_icmp_ge (tgt := 80) hx hb dX16_word_61 (by decide) (fun c16 => ?_) (fun c16 => absurd (by decide) c16)
  refine lv_aload_n hx hb dX16_word_80 rfl (lv_at hl 2 rfl) ?_
  refine va_new (ci := 18) (fs := [.int 0, .null, .int 0, .null]) (C := RX11) (T := TX11) (N := 4) hx hb hta naX11 tyX11 tyX11_ok hown (hta _ wm311) (hta _ wm312) (hta _ wm313) hK hP hD hS hA rfl (fun j hj => by rcases (show j = 0 ∨ j = 1 ∨ j = 2 ∨ j = 3 by omega) with rfl | rfl | rfl | rfl <;> rfl) (Nat.le_of_ble_eq_true rfl) (Nat.le_of_ble_eq_true rfl) dX16_word_81 (fun q17 H hP hD hS => ?_)
  have hP : va_P (dC, dI) vwCl [(h1, .inr (6, [.int 0, .ref (g 0), .int 0])), (h0, .inr (23, [.int 0, .ref h1, v1, v2, v3, v4, v5, v6, .int 0])), (q6, .inl (cy7, 16, .inl (upd ((upd ((upd ((upd ((fun _ => 0)) 0 (vp_nar .byte (97 + x0).toInt8.toInt32))) 1 (vp_nar .byte (97 + x0).toInt8.toInt32))) 2 (vp_nar .byte (97 + x0).toInt8.toInt32))) 3 (vp_nar .byte (97 + x0).toInt8.toInt32)))), (q5, .inr (1, [.ref q6, .int 0, .int 0, .int 4])), (q17, .inr (18, [.int 0, .null, .int 0, .null]))] H := hP
  have hD : va_D A [(h1, .inr (6, [.int 0, .ref (g 0), .int 0])), (h0, .inr (23, [.int 0, .ref h1, v1, v2, v3, v4, v5, v6, .int 0])), (q6, .inl (cy7, 16, .inl (upd ((upd ((upd ((upd ((fun _ => 0)) 0 (vp_nar .byte (97 + x0).toInt8.toInt32))) 1 (vp_nar .byte (97 + x0).toInt8.toInt32))) 2 (vp_nar .byte (97 + x0).toInt8.toInt32))) 3 (vp_nar .byte (97 + x0).toInt8.toInt32)))), (q5, .inr (1, [.ref q6, .int 0, .int 0, .int 4])), (q17, .inr (18, [.int 0, .null, .int 0, .null]))] := hD
  refine W.widen (k := 3) (n := 24) (Nat.le_of_ble_eq_true rfl) (Nat.le_of_ble_eq_true rfl) ?_
  refine lv_dup hx hb dX16_word_84 rfl ?_
  refine lv_iconst (v := 0) hx hb dX16_word_85 (by decide) ?_
  refine lv_aload_n hx hb dX16_word_86 rfl (lv_at hl 1 rfl) ?_
  have hPc := hP.sub (ws' := [(q5, .inr (1, [.ref q6, .int 0, .int 0, .int 4])), (q6, .inl (cy7, 16, .inl (upd ((upd ((upd ((upd ((fun _ => 0)) 0 (vp_nar .byte (97 + x0).toInt8.toInt32))) 1 (vp_nar .byte (97 + x0).toInt8.toInt32))) 2 (vp_nar .byte (97 + x0).toInt8.toInt32))) 3 (vp_nar .byte (97 + x0).toInt8.toInt32))))]) [3, 2] rfl
  have hDc := hD.sub (ws' := [(q5, .inr (1, [.ref q6, .int 0, .int 0, .int 4])), (q6, .inl (cy7, 16, .inl (upd ((upd ((upd ((upd ((fun _ => 0)) 0 (vp_nar .byte (97 + x0).toInt8.toInt32))) 1 (vp_nar .byte (97 + x0).toInt8.toInt32))) 2 (vp_nar .byte (97 + x0).toInt8.toInt32))) 3 (vp_nar .byte (97 + x0).toInt8.toInt32))))]) [3, 2] (by decide) rfl
  have hKc := hK.sub (tys' := [(cy7, .byte)]) [0] rfl
  have hFc := va_free (wc := [(q5, .inr (1, [.ref q6, .int 0, .int 0, .int 4])), (q6, .inl (cy7, 16, .inl (upd ((upd ((upd ((upd ((fun _ => 0)) 0 (vp_nar .byte (97 + x0).toInt8.toInt32))) 1 (vp_nar .byte (97 + x0).toInt8.toInt32))) 2 (vp_nar .byte (97 + x0).toInt8.toInt32))) 3 (vp_nar .byte (97 + x0).toInt8.toInt32))))]) hD hS hA [3, 2] rfl
  refine va_callr (va_runV (As := []) (rest := [.int 0, .ref q17, .ref q17, .ref h0]) ⟨hx, hb, hml, hown, hts⟩ (kJ4_toString_0e30d_4 l dC dI g H.size q5 q6 (.int 0) cy7 (upd ((upd ((upd ((upd ((fun _ => 0)) 0 (vp_nar .byte (97 + x0).toInt8.toInt32))) 1 (vp_nar .byte (97 + x0).toInt8.toInt32))) 2 (vp_nar .byte (97 + x0).toInt8.toInt32))) 3 (vp_nar .byte (97 + x0).toInt8.toInt32)) (sb_fitU (sb_fitU (sb_fitU (sb_fitU sb_fit0 (pk_fb _)) (pk_fb _)) (pk_fb _)) (pk_fb _)) ) (cwV 0 hts (ns_gp (List.forall_mem_cons.mpr ⟨wm400, (List.forall_mem_cons.mpr ⟨wm401, (List.forall_mem_cons.mpr ⟨wm402, (List.forall_mem_cons.mpr ⟨wm137, (fun _ h9 => nomatch h9)⟩)⟩)⟩)⟩) wm360) rfl rfl rfl (by decide +kernel) ⟨Nat.le_of_ble_eq_true rfl, Nat.le_of_ble_eq_true rfl⟩) ⟨fun a U gg mk q => by obtain ⟨q0, q1, qP, qK, qD, qF⟩ := q; exact ⟨q0, q1, qP, va_K.moved (u := U) (U := U.calling gg mk a) (Vm.Alike.refl U.vm) qK, qD, ns_same qF⟩, va_recv hK hP (ci := 1) (q0 := 3) rfl rfl, fun U hU hW => ⟨rfl, by rw [hU], by rw [hU]; exact hPc, va_K.moved hW.alike hKc, hDc.weaken (fun _ _ _ _ => trivial), ns_call hF hS hFc hU hW⟩⟩ rfl rfl hl.1 rfl (lv_room (Nat.le_of_ble_eq_true rfl)) dX16_word_87 ⟨Nat.le_of_ble_eq_true rfl, Nat.le_of_ble_eq_true rfl⟩) hS (fun q _ h => hFc q h) hFc (fun u r9 t H1 locs ht hvm hw hB hz1 hk1 hS => ?_)
  obtain ⟨q18, q19, cy20, hr9, hP1, hK1, hD1⟩ := hB
  obtain rfl := hr9.symm
  rw [ht] at hP1
  have hK1 := va_K.moved hvm.symm hK1
  obtain ⟨hP, hD⟩ := va_join (wr := [(h1, .inr (6, [.int 0, .ref (g 0), .int 0])), (h0, .inr (23, [.int 0, .ref h1, v1, v2, v3, v4, v5, v6, .int 0])), (q17, .inr (18, [.int 0, .null, .int 0, .null]))]) (w1 := [(q18, .inr (0, [.ref q19, .int 0, .int 0, .int 0])), (q5, .inr (1, [.ref q6, .int 0, .int 0, .int 4])), (q6, .inl (cy7, 16, .inl (upd ((upd ((upd ((upd ((fun _ => 0)) 0 (vp_nar .byte (97 + x0).toInt8.toInt32))) 1 (vp_nar .byte (97 + x0).toInt8.toInt32))) 2 (vp_nar .byte (97 + x0).toInt8.toInt32))) 3 (vp_nar .byte (97 + x0).toInt8.toInt32)))), (q19, .inl (cy20, 4, .inl (va_cpy ((upd ((upd ((upd ((upd ((fun _ => 0)) 0 (vp_nar .byte (97 + x0).toInt8.toInt32))) 1 (vp_nar .byte (97 + x0).toInt8.toInt32))) 2 (vp_nar .byte (97 + x0).toInt8.toInt32))) 3 (vp_nar .byte (97 + x0).toInt8.toInt32))) (fun _ => 0) 0 0 4)))]) hP hD [3, 2] [0, 1, 4] rfl rfl (by decide) (by decide) hk1 hFc hP1 hD1
  have hK := (hK.sub (tys' := []) [] rfl).app hK1
  generalize H1 = H at hP hS ⊢
  have hP : va_P (dC, dI) vwCl [(h1, .inr (6, [.int 0, .ref (g 0), .int 0])), (h0, .inr (23, [.int 0, .ref h1, v1, v2, v3, v4, v5, v6, .int 0])), (q17, .inr (18, [.int 0, .null, .int 0, .null])), (q18, .inr (0, [.ref q19, .int 0, .int 0, .int 0])), (q5, .inr (1, [.ref q6, .int 0, .int 0, .int 4])), (q6, .inl (cy7, 16, .inl (upd ((upd ((upd ((upd ((fun _ => 0)) 0 (vp_nar .byte (97 + x0).toInt8.toInt32))) 1 (vp_nar .byte (97 + x0).toInt8.toInt32))) 2 (vp_nar .byte (97 + x0).toInt8.toInt32))) 3 (vp_nar .byte (97 + x0).toInt8.toInt32)))), (q19, .inl (cy20, 4, .inl (va_cpy ((upd ((upd ((upd ((upd ((fun _ => 0)) 0 (vp_nar .byte (97 + x0).toInt8.toInt32))) 1 (vp_nar .byte (97 + x0).toInt8.toInt32))) 2 (vp_nar .byte (97 + x0).toInt8.toInt32))) 3 (vp_nar .byte (97 + x0).toInt8.toInt32))) (fun _ => 0) 0 0 4)))] H := hP
  have hD : va_D A [(h1, .inr (6, [.int 0, .ref (g 0), .int 0])), (h0, .inr (23, [.int 0, .ref h1, v1, v2, v3, v4, v5, v6, .int 0])), (q17, .inr (18, [.int 0, .null, .int 0, .null])), (q18, .inr (0, [.ref q19, .int 0, .int 0, .int 0])), (q5, .inr (1, [.ref q6, .int 0, .int 0, .int 4])), (q6, .inl (cy7, 16, .inl (upd ((upd ((upd ((upd ((fun _ => 0)) 0 (vp_nar .byte (97 + x0).toInt8.toInt32))) 1 (vp_nar .byte (97 + x0).toInt8.toInt32))) 2 (vp_nar .byte (97 + x0).toInt8.toInt32))) 3 (vp_nar .byte (97 + x0).toInt8.toInt32)))), (q19, .inl (cy20, 4, .inl (va_cpy ((upd ((upd ((upd ((upd ((fun _ => 0)) 0 (vp_nar .byte (97 + x0).toInt8.toInt32))) 1 (vp_nar .byte (97 + x0).toInt8.toInt32))) 2 (vp_nar .byte (97 + x0).toInt8.toInt32))) 3 (vp_nar .byte (97 + x0).toInt8.toInt32))) (fun _ => 0) 0 0 4)))] := hD
  have hK : va_K (dC, dI) vwCl [(cy7, .byte), (cy20, .byte)] s := hK
  refine W.widen (k := 5) (n := 32) (Nat.le_of_ble_eq_true rfl) (Nat.le_of_ble_eq_true rfl) ?_
  refine lv_iconst (v := 0) hx hb dX16_word_90 (by decide) ?_
  have hPc := hP.sub (ws' := [(q17, .inr (18, [.int 0, .null, .int 0, .null]))]) [2] rfl
  have hDc := hD.sub (ws' := [(q17, .inr (18, [.int 0, .null, .int 0, .null]))]) [2] (by decide) rfl
  have hKc := hK.sub (tys' := []) [] rfl
  have hFc := va_free (wc := [(q17, .inr (18, [.int 0, .null, .int 0, .null]))]) hD hS hA [2] rfl
  refine va_callv (va_runI (As := [.int 0, .ref q18, .int 0]) (rest := [.ref q17, .ref h0]) ⟨hx, hb, hml, hown, hts⟩ (kX11_init l dC dI g H.size q17 q18 (.int 0) .null (.int 0) .null ) (cwI 3 hts (ns_g0 wm368) rfl rfl rfl (hta _ wm313) (hta _ wm403) (hta _ wm404) rfl (by decide +kernel) ⟨Nat.le_of_ble_eq_true rfl, Nat.le_of_ble_eq_true rfl⟩) ⟨fun a U gg mk q => by obtain ⟨q0, q1, qP, qK, qD, qF⟩ := q; exact ⟨q0, q1, qP, va_K.moved (u := U) (U := U.calling gg mk a) (Vm.Alike.refl U.vm) qK, qD, ns_same qF⟩, fun U hU hW => ⟨rfl, by rw [hU], by rw [hU]; exact hPc, va_K.moved hW.alike hKc, hDc.weaken (fun _ _ _ _ => trivial), ns_call hF hS hFc hU hW⟩⟩ rfl rfl hl.1 rfl (lv_room (Nat.le_of_ble_eq_true rfl)) dX16_word_91 ⟨Nat.le_of_ble_eq_true rfl, Nat.le_of_ble_eq_true rfl⟩) hS (fun q _ h => hFc q h) hFc (fun u t H1 locs ht hvm hw hB hz1 hk1 hS => ?_)
  obtain ⟨q21, hP1, hK1, hD1⟩ := hB
  rw [ht] at hP1
  have hK1 := va_K.moved hvm.symm hK1
  obtain ⟨hP, hD⟩ := va_join (wr := [(h1, .inr (6, [.int 0, .ref (g 0), .int 0])), (h0, .inr (23, [.int 0, .ref h1, v1, v2, v3, v4, v5, v6, .int 0])), (q18, .inr (0, [.ref q19, .int 0, .int 0, .int 0])), (q5, .inr (1, [.ref q6, .int 0, .int 0, .int 4])), (q6, .inl (cy7, 16, .inl (upd ((upd ((upd ((upd ((fun _ => 0)) 0 (vp_nar .byte (97 + x0).toInt8.toInt32))) 1 (vp_nar .byte (97 + x0).toInt8.toInt32))) 2 (vp_nar .byte (97 + x0).toInt8.toInt32))) 3 (vp_nar .byte (97 + x0).toInt8.toInt32)))), (q19, .inl (cy20, 4, .inl (va_cpy ((upd ((upd ((upd ((upd ((fun _ => 0)) 0 (vp_nar .byte (97 + x0).toInt8.toInt32))) 1 (vp_nar .byte (97 + x0).toInt8.toInt32))) 2 (vp_nar .byte (97 + x0).toInt8.toInt32))) 3 (vp_nar .byte (97 + x0).toInt8.toInt32))) (fun _ => 0) 0 0 4)))]) (w1 := [(q17, .inr (18, [.int 0, .ref q18, .int 0, .ref q21])), (q21, .inr (6, [.int 0, .ref (g 0), .int 0]))]) hP hD [2] [0, 1, 3, 4, 5, 6] rfl rfl (by decide) (by decide) hk1 hFc hP1 hD1
  have hK := (hK.sub (tys' := [(cy7, .byte), (cy20, .byte)]) [0, 1] rfl).app hK1
  generalize H1 = H at hP hS ⊢
  have hP : va_P (dC, dI) vwCl [(h1, .inr (6, [.int 0, .ref (g 0), .int 0])), (h0, .inr (23, [.int 0, .ref h1, v1, v2, v3, v4, v5, v6, .int 0])), (q18, .inr (0, [.ref q19, .int 0, .int 0, .int 0])), (q5, .inr (1, [.ref q6, .int 0, .int 0, .int 4])), (q6, .inl (cy7, 16, .inl (upd ((upd ((upd ((upd ((fun _ => 0)) 0 (vp_nar .byte (97 + x0).toInt8.toInt32))) 1 (vp_nar .byte (97 + x0).toInt8.toInt32))) 2 (vp_nar .byte (97 + x0).toInt8.toInt32))) 3 (vp_nar .byte (97 + x0).toInt8.toInt32)))), (q19, .inl (cy20, 4, .inl (va_cpy ((upd ((upd ((upd ((upd ((fun _ => 0)) 0 (vp_nar .byte (97 + x0).toInt8.toInt32))) 1 (vp_nar .byte (97 + x0).toInt8.toInt32))) 2 (vp_nar .byte (97 + x0).toInt8.toInt32))) 3 (vp_nar .byte (97 + x0).toInt8.toInt32))) (fun _ => 0) 0 0 4))), (q17, .inr (18, [.int 0, .ref q18, .int 0, .ref q21])), (q21, .inr (6, [.int 0, .ref (g 0), .int 0]))] H := hP
  have hD : va_D A [(h1, .inr (6, [.int 0, .ref (g 0), .int 0])), (h0, .inr (23, [.int 0, .ref h1, v1, v2, v3, v4, v5, v6, .int 0])), (q18, .inr (0, [.ref q19, .int 0, .int 0, .int 0])), (q5, .inr (1, [.ref q6, .int 0, .int 0, .int 4])), (q6, .inl (cy7, 16, .inl (upd ((upd ((upd ((upd ((fun _ => 0)) 0 (vp_nar .byte (97 + x0).toInt8.toInt32))) 1 (vp_nar .byte (97 + x0).toInt8.toInt32))) 2 (vp_nar .byte (97 + x0).toInt8.toInt32))) 3 (vp_nar .byte (97 + x0).toInt8.toInt32)))), (q19, .inl (cy20, 4, .inl (va_cpy ((upd ((upd ((upd ((upd ((fun _ => 0)) 0 (vp_nar .byte (97 + x0).toInt8.toInt32))) 1 (vp_nar .byte (97 + x0).toInt8.toInt32))) 2 (vp_nar .byte (97 + x0).toInt8.toInt32))) 3 (vp_nar .byte (97 + x0).toInt8.toInt32))) (fun _ => 0) 0 0 4))), (q17, .inr (18, [.int 0, .ref q18, .int 0, .ref q21])), (q21, .inr (6, [.int 0, .ref (g 0), .int 0]))] := hD
  have hK : va_K (dC, dI) vwCl [(cy7, .byte), (cy20, .byte)] s := hK
  refine W.widen (k := 6) (n := 35) (Nat.le_of_ble_eq_true rfl) (Nat.le_of_ble_eq_true rfl) ?_
  have hPc := hP.sub (ws' := [(h0, .inr (23, [.int 0, .ref h1, v1, v2, v3, v4, v5, v6, .int 0])), (h1, .inr (6, [.int 0, .ref (g 0), .int 0])), (q17, .inr (18, [.int 0, .ref q18, .int 0, .ref q21]))]) [1, 0, 6] rfl
  have hDc := hD.sub (ws' := [(h0, .inr (23, [.int 0, .ref h1, v1, v2, v3, v4, v5, v6, .int 0])), (h1, .inr (6, [.int 0, .ref (g 0), .int 0])), (q17, .inr (18, [.int 0, .ref q18, .int 0, .ref q21]))]) [1, 0, 6] (by decide) rfl
  have hKc := hK.sub (tys' := []) [] rfl
  have hFc := va_free (wc := [(h0, .inr (23, [.int 0, .ref h1, v1, v2, v3, v4, v5, v6, .int 0])), (h1, .inr (6, [.int 0, .ref (g 0), .int 0])), (q17, .inr (18, [.int 0, .ref q18, .int 0, .ref q21]))]) hD hS hA [1, 0, 6] rfl
  refine va_calli (va_runV (As := [.ref q17]) (rest := []) ⟨hx, hb, hml, hown, hts⟩ (kX16_made l dC dI g H.size h0 q17 h1 (.int 0) v1 v2 v3 v4 v5 v6 (.int 0) (.ref q18) (.int 0) (.ref q21) ) (cwV 1 hts (ns_gp (List.forall_mem_cons.mpr ⟨wm405, (List.forall_mem_cons.mpr ⟨wm406, (List.forall_mem_cons.mpr ⟨wm407, (List.forall_mem_cons.mpr ⟨wm192, (fun _ h9 => nomatch h9)⟩)⟩)⟩)⟩) wm392) rfl rfl rfl (by decide +kernel) ⟨Nat.le_of_ble_eq_true rfl, Nat.le_of_ble_eq_true rfl⟩) ⟨fun a U gg mk q => by obtain ⟨q0, q1, qP, qK, qD, qF⟩ := q; exact ⟨q0, q1, qP, va_K.moved (u := U) (U := U.calling gg mk a) (Vm.Alike.refl U.vm) qK, qD, ns_same qF⟩, va_recv hK hP (ci := 23) (q0 := 1) rfl rfl, fun U hU hW => ⟨rfl, by rw [hU], by rw [hU]; exact hPc, va_K.moved hW.alike hKc, hDc.weaken (fun _ _ _ _ => trivial), ns_call hF hS hFc hU hW⟩⟩ rfl rfl hl.1 rfl (lv_room (Nat.le_of_ble_eq_true rfl)) dX16_word_94 ⟨Nat.le_of_ble_eq_true rfl, Nat.le_of_ble_eq_true rfl⟩) hS (fun q _ h => hFc q h) hFc (fun r9 u t H1 locs ht hvm hw hB hz1 hk1 hS => ?_)
  obtain rfl := hw.symm
  obtain ⟨q22, cy23, hP1, hK1, hD1⟩ := hB
  rw [ht] at hP1
  have hK1 := va_K.moved hvm.symm hK1
  obtain ⟨hP, hD⟩ := va_join (wr := [(q18, .inr (0, [.ref q19, .int 0, .int 0, .int 0])), (q5, .inr (1, [.ref q6, .int 0, .int 0, .int 4])), (q6, .inl (cy7, 16, .inl (upd ((upd ((upd ((upd ((fun _ => 0)) 0 (vp_nar .byte (97 + x0).toInt8.toInt32))) 1 (vp_nar .byte (97 + x0).toInt8.toInt32))) 2 (vp_nar .byte (97 + x0).toInt8.toInt32))) 3 (vp_nar .byte (97 + x0).toInt8.toInt32)))), (q19, .inl (cy20, 4, .inl (va_cpy ((upd ((upd ((upd ((upd ((fun _ => 0)) 0 (vp_nar .byte (97 + x0).toInt8.toInt32))) 1 (vp_nar .byte (97 + x0).toInt8.toInt32))) 2 (vp_nar .byte (97 + x0).toInt8.toInt32))) 3 (vp_nar .byte (97 + x0).toInt8.toInt32))) (fun _ => 0) 0 0 4))), (q21, .inr (6, [.int 0, .ref (g 0), .int 0]))]) (w1 := [(h0, .inr (23, [.int 0, .ref h1, v1, v2, v3, v4, v5, v6, .int 1])), (q17, .inr (18, [.int 0, .ref q18, .int 0, .ref q21])), (q22, .inl (cy23, 10, .inr (.inr (.inr (.inr (va_up (fun _ => none) 0 (some q17))))))), (h1, .inr (6, [.int 1, .ref q22, .int 1]))]) hP hD [1, 0, 6] [2, 3, 4, 5, 7] rfl rfl (by decide) (by decide) hk1 hFc hP1 hD1
  have hK := (hK.sub (tys' := [(cy7, .byte), (cy20, .byte)]) [0, 1] rfl).app hK1
  generalize H1 = H at hP hS ⊢
  have hP : va_P (dC, dI) vwCl [(q18, .inr (0, [.ref q19, .int 0, .int 0, .int 0])), (q5, .inr (1, [.ref q6, .int 0, .int 0, .int 4])), (q6, .inl (cy7, 16, .inl (upd ((upd ((upd ((upd ((fun _ => 0)) 0 (vp_nar .byte (97 + x0).toInt8.toInt32))) 1 (vp_nar .byte (97 + x0).toInt8.toInt32))) 2 (vp_nar .byte (97 + x0).toInt8.toInt32))) 3 (vp_nar .byte (97 + x0).toInt8.toInt32)))), (q19, .inl (cy20, 4, .inl (va_cpy ((upd ((upd ((upd ((upd ((fun _ => 0)) 0 (vp_nar .byte (97 + x0).toInt8.toInt32))) 1 (vp_nar .byte (97 + x0).toInt8.toInt32))) 2 (vp_nar .byte (97 + x0).toInt8.toInt32))) 3 (vp_nar .byte (97 + x0).toInt8.toInt32))) (fun _ => 0) 0 0 4))), (q21, .inr (6, [.int 0, .ref (g 0), .int 0])), (h0, .inr (23, [.int 0, .ref h1, v1, v2, v3, v4, v5, v6, .int 1])), (q17, .inr (18, [.int 0, .ref q18, .int 0, .ref q21])), (q22, .inl (cy23, 10, .inr (.inr (.inr (.inr (va_up (fun _ => none) 0 (some q17))))))), (h1, .inr (6, [.int 1, .ref q22, .int 1]))] H := hP
  have hD : va_D A [(q18, .inr (0, [.ref q19, .int 0, .int 0, .int 0])), (q5, .inr (1, [.ref q6, .int 0, .int 0, .int 4])), (q6, .inl (cy7, 16, .inl (upd ((upd ((upd ((upd ((fun _ => 0)) 0 (vp_nar .byte (97 + x0).toInt8.toInt32))) 1 (vp_nar .byte (97 + x0).toInt8.toInt32))) 2 (vp_nar .byte (97 + x0).toInt8.toInt32))) 3 (vp_nar .byte (97 + x0).toInt8.toInt32)))), (q19, .inl (cy20, 4, .inl (va_cpy ((upd ((upd ((upd ((upd ((fun _ => 0)) 0 (vp_nar .byte (97 + x0).toInt8.toInt32))) 1 (vp_nar .byte (97 + x0).toInt8.toInt32))) 2 (vp_nar .byte (97 + x0).toInt8.toInt32))) 3 (vp_nar .byte (97 + x0).toInt8.toInt32))) (fun _ => 0) 0 0 4))), (q21, .inr (6, [.int 0, .ref (g 0), .int 0])), (h0, .inr (23, [.int 0, .ref h1, v1, v2, v3, v4, v5, v6, .int 1])), (q17, .inr (18, [.int 0, .ref q18, .int 0, .ref q21])), (q22, .inl (cy23, 10, .inr (.inr (.inr (.inr (va_up (fun _ => none) 0 (some q17))))))), (h1, .inr (6, [.int 1, .ref q22, .int 1]))] := hD
  have hK : va_K (dC, dI) vwCl [(cy7, .byte), (cy20, .byte), (cy23, .object "java/lang/Object")] s := hK
  refine W.widen (k := 7) (n := 45) (Nat.le_of_ble_eq_true rfl) (Nat.le_of_ble_eq_true rfl) ?_
  have hP9 := hP.sub (ws' := [(q18, .inr (0, [.ref q19, .int 0, .int 0, .int 0])), (q5, .inr (1, [.ref q6, .int 0, .int 0, .int 4])), (q6, .inl (cy7, 16, .inl (upd ((upd ((upd ((upd ((fun _ => 0)) 0 (vp_nar .byte (97 + x0).toInt8.toInt32))) 1 (vp_nar .byte (97 + x0).toInt8.toInt32))) 2 (vp_nar .byte (97 + x0).toInt8.toInt32))) 3 (vp_nar .byte (97 + x0).toInt8.toInt32)))), (q19, .inl (cy20, 4, .inl (va_cpy ((upd ((upd ((upd ((upd ((fun _ => 0)) 0 (vp_nar .byte (97 + x0).toInt8.toInt32))) 1 (vp_nar .byte (97 + x0).toInt8.toInt32))) 2 (vp_nar .byte (97 + x0).toInt8.toInt32))) 3 (vp_nar .byte (97 + x0).toInt8.toInt32))) (fun _ => 0) 0 0 4))), (q21, .inr (6, [.int 0, .ref (g 0), .int 0])), (h0, .inr (23, [.int 0, .ref h1, v1, v2, v3, v4, v5, v6, .int 1])), (q17, .inr (18, [.int 0, .ref q18, .int 0, .ref q21])), (q22, .inl (cy23, 10, .inr (.inr (.inr (.inr (va_up (fun _ => none) 0 (some q17))))))), (h1, .inr (6, [.int 1, .ref q22, .int 1]))]) [0, 1, 2, 3, 4, 5, 6, 7, 8] rfl
  have hD9 := hD.sub (ws' := [(q18, .inr (0, [.ref q19, .int 0, .int 0, .int 0])), (q5, .inr (1, [.ref q6, .int 0, .int 0, .int 4])), (q6, .inl (cy7, 16, .inl (upd ((upd ((upd ((upd ((fun _ => 0)) 0 (vp_nar .byte (97 + x0).toInt8.toInt32))) 1 (vp_nar .byte (97 + x0).toInt8.toInt32))) 2 (vp_nar .byte (97 + x0).toInt8.toInt32))) 3 (vp_nar .byte (97 + x0).toInt8.toInt32)))), (q19, .inl (cy20, 4, .inl (va_cpy ((upd ((upd ((upd ((upd ((fun _ => 0)) 0 (vp_nar .byte (97 + x0).toInt8.toInt32))) 1 (vp_nar .byte (97 + x0).toInt8.toInt32))) 2 (vp_nar .byte (97 + x0).toInt8.toInt32))) 3 (vp_nar .byte (97 + x0).toInt8.toInt32))) (fun _ => 0) 0 0 4))), (q21, .inr (6, [.int 0, .ref (g 0), .int 0])), (h0, .inr (23, [.int 0, .ref h1, v1, v2, v3, v4, v5, v6, .int 1])), (q17, .inr (18, [.int 0, .ref q18, .int 0, .ref q21])), (q22, .inl (cy23, 10, .inr (.inr (.inr (.inr (va_up (fun _ => none) 0 (some q17))))))), (h1, .inr (6, [.int 1, .ref q22, .int 1]))]) [0, 1, 2, 3, 4, 5, 6, 7, 8] (by decide) rfl
  have hK9 := hK.sub (tys' := [(cy7, .byte), (cy20, .byte), (cy23, .object "java/lang/Object")]) [0, 1, 2] rfl
  refine W.widen (k := 7) (n := 45) (Nat.le_of_ble_eq_true rfl) (Nat.le_of_ble_eq_true rfl) ?_
  exact W.iret (v := 0) hx hb hr (fun t ht hW => ⟨⟨_, (), rfl, rfl, q5, q6, cy7, q17, q18, q19, cy20, q21, q22, cy23, by rw [ht]; exact hP9, va_K.moved hW.alike hK9, hD9⟩, hS.F ht⟩) hS.2.2 dX16_word_97
set_option maxHeartbeats 4000000 in
set_option maxRecDepth 100000 in
theorem kX16_said_15 (l : Launch) (dC : Nat → ClassId) (dI : Nat → Nat → Nat) (g : Nat → Nat) (sz : Nat) (h0 : Nat) (x0 : Int32) (h1 : Nat) (v0 : Value) (v1 : Value) (cc0 : ClassId) (f0 : Nat → Int32) (hf0 : sb_Fit f0) (ex0 : (0 : Int) ≤ x0.toInt ∧ x0.toInt ≤ (19 : Int)) : Met l yX16_said wbX16_said ({ frames := 6, cells := 4, slots := 30, locals := 151 }) (va_Pc [.ref h0, .int x0] (fun U => U.heap.size = sz ∧ va_P (dC, dI) vwCl [(h0, .inr (0, [.ref h1, .int 0, v0, v1])), (h1, .inl (cc0, 5, .inl f0))] U.heap ∧ va_K (dC, dI) vwCl [(cc0, .byte)] U ∧ va_D (fun _ => True) [(h0, .inr (0, [.ref h1, .int 0, v0, v1])), (h1, .inl (cc0, 5, .inl f0))] ∧ ns_F g (va_A [(h0, .inr (0, [.ref h1, .int 0, v0, v1])), (h1, .inl (cc0, 5, .inl f0))] sz) U U.heap)) (va_Qr (fun _ : Unit => True) (fun _ r t => ∃ k0 : Nat, ∃ k1 : Nat, ∃ kc2 : ClassId, ∃ k3 : Nat, ∃ k4 : Nat, ∃ kc5 : ClassId, r = k3 ∧ va_P (dC, dI) vwCl [(h1, .inl (cc0, 5, .inl f0)), (h0, .inr (0, [.ref h1, .int 0, v0, v1])), (k3, .inr (0, [.ref k4, .int 0, .int 0, .int 0])), (k0, .inr (1, [.ref k1, .int 0, .int 0, .int 6])), (k1, .inl (kc2, 16, .inl (upd ((va_cpy (f0) ((fun _ => 0)) 0 0 5)) 5 (vp_nar .byte (ns_ch x0).toInt8.toInt32)))), (k4, .inl (kc5, 6, .inl (va_cpy ((upd ((va_cpy (f0) ((fun _ => 0)) 0 0 5)) 5 (vp_nar .byte (ns_ch x0).toInt8.toInt32))) (fun _ => 0) 0 0 6)))] t.heap ∧ va_K (dC, dI) vwCl [(cc0, .byte), (kc2, .byte), (kc5, .byte)] t ∧ va_D (va_A [(h0, .inr (0, [.ref h1, .int 0, v0, v1])), (h1, .inl (cc0, 5, .inl f0))] sz) [(h1, .inl (cc0, 5, .inl f0)), (h0, .inr (0, [.ref h1, .int 0, v0, v1])), (k3, .inr (0, [.ref k4, .int 0, .int 0, .int 0])), (k0, .inr (1, [.ref k1, .int 0, .int 0, .int 6])), (k1, .inl (kc2, 16, .inl (upd ((va_cpy (f0) ((fun _ => 0)) 0 0 5)) 5 (vp_nar .byte (ns_ch x0).toInt8.toInt32)))), (k4, .inl (kc5, 6, .inl (va_cpy ((upd ((va_cpy (f0) ((fun _ => 0)) 0 0 5)) 5 (vp_nar .byte (ns_ch x0).toInt8.toInt32))) (fun _ => 0) 0 0 6)))]) (va_A [(h0, .inr (0, [.ref h1, .int 0, v0, v1])), (h1, .inl (cc0, 5, .inl f0))] sz)) 4 30 (va_A [(h0, .inr (0, [.ref h1, .int 0, v0, v1])), (h1, .inl (cc0, 5, .inl f0))] sz) := by
  refine Met.ofW (cc := cX16_said) (maxL := 2) (ret := (some (.object "java/lang/String"))) (by decide) rfl ?_
  intro p e s m args below meth c s₁ B hml hv
  obtain ⟨rfl, hsz, hP, hK, hD0, hF⟩ := hv
  have hx := B.exec
  have hb := B.bytes
  have hr := B.returns
  have hts := atoms_spec (ws := wbX16_said) B.pre
  have hta : ∀ w ∈ wsALL, w.before _ s = true := fun w h => hts w (List.mem_cons_of_mem _ h)
  have hown : s.vm.findClass RX16 = some m.cls := findClass_of_methodNamed B.named
  have hlocks := B.notSynchronized
  subst hsz
  have hD := hD0.self (sz := s.heap.size)
  generalize hAe : va_A [(h0, .inr (0, [.ref h1, .int 0, v0, v1])), (h1, .inl (cc0, 5, .inl f0))] s.heap.size = A at hD hF ⊢
  have hA : ∀ q : Nat, s.heap.size ≤ q → A q := fun q h => by rw [← hAe]; exact Or.inr h
  have hS : va_S A s.heap s.heap [] := va_S.rf
  have hP : va_P (dC, dI) vwCl [(h0, .inr (0, [.ref h1, .int 0, v0, v1])), (h1, .inl (cc0, 5, .inl f0))] s.heap := hP
  have hl := lv_entry ([.ref h0, .int x0]) (n := 2) (Nat.le_of_ble_eq_true rfl)
  rw [lg_entry_eq]
  generalize (lg_sl ([.ref h0, .int x0]) ++ List.replicate (2 - (lg_sl ([.ref h0, .int x0])).length) Slot.unset).toArray = ls at hl ⊢
  have hl : lv_has ls 2 [(0, .ref h0), (1, .int x0)] := hl
  refine lv_iload_n hx hb dX16_said_0 rfl (lv_at hl 1 rfl) ?_
  refine lv_iconst (v := (-1)) hx hb dX16_said_1 (by decide) ?_
  refine lv_icmp_ne (tgt := 7) hx hb dX16_said_2 (by decide) (fun c1 => ?_) (fun c1 => absurd c1 (fun z => absurd (show x0.toInt = (-1 : Int) from congrArg Int32.toInt z) (by omega)))
  refine lv_iload_n hx hb dX16_said_7 rfl (lv_at hl 1 rfl) ?_
  refine lv_bipush (v := 20) hx hb dX16_said_8 (by decide) ?_
  refine lv_icmp_ge (tgt := 37) hx hb dX16_said_10 (by decide) (fun c2 => absurd c2 (fun z => absurd (show (20 : Int) ≤ x0.toInt from Int32.le_iff_toInt_le.mp z) (by omega))) (fun c2 => ?_)
  refine va_new (ci := 1) (fs := [.null, .int 0, .int 0, .int 0]) (C := RJ4) (T := TJ4) (N := 4) hx hb hta naJ4 tyJ4 tyJ4_ok hown (hta _ wm289) (hta _ wm136) (hta _ wm137) hK hP hD hS hA rfl (fun j hj => by rcases (show j = 0 ∨ j = 1 ∨ j = 2 ∨ j = 3 by omega) with rfl | rfl | rfl | rfl <;> rfl) (Nat.le_of_ble_eq_true rfl) (Nat.le_of_ble_eq_true rfl) dX16_said_13 (fun q3 H hP hD hS => ?_)
  have hP : va_P (dC, dI) vwCl [(h0, .inr (0, [.ref h1, .int 0, v0, v1])), (h1, .inl (cc0, 5, .inl f0)), (q3, .inr (1, [.null, .int 0, .int 0, .int 0]))] H := hP
  have hD : va_D A [(h0, .inr (0, [.ref h1, .int 0, v0, v1])), (h1, .inl (cc0, 5, .inl f0)), (q3, .inr (1, [.null, .int 0, .int 0, .int 0]))] := hD
  refine W.widen (k := 1) (n := 4) (Nat.le_of_ble_eq_true rfl) (Nat.le_of_ble_eq_true rfl) ?_
  refine lv_dup hx hb dX16_said_16 rfl ?_
  have hPc := hP.sub (ws' := [(q3, .inr (1, [.null, .int 0, .int 0, .int 0]))]) [2] rfl
  have hDc := hD.sub (ws' := [(q3, .inr (1, [.null, .int 0, .int 0, .int 0]))]) [2] (by decide) rfl
  have hKc := hK.sub (tys' := []) [] rfl
  have hFc := va_free (wc := [(q3, .inr (1, [.null, .int 0, .int 0, .int 0]))]) hD hS hA [2] rfl
  refine va_callv (va_runI (As := []) (rest := [.ref q3]) ⟨hx, hb, hml, hown, hts⟩ (kJ4_init_da8c8 l dC dI g H.size q3 .null (.int 0) (.int 0) (.int 0) ) (cwI 0 hts (ns_g0 wm147) rfl rfl rfl (hta _ wm137) (hta _ wm396) (hta _ wm185) rfl (by decide +kernel) ⟨Nat.le_of_ble_eq_true rfl, Nat.le_of_ble_eq_true rfl⟩) ⟨fun a U gg mk q => by obtain ⟨q0, q1, qP, qK, qD, qF⟩ := q; exact ⟨q0, q1, qP, va_K.moved (u := U) (U := U.calling gg mk a) (Vm.Alike.refl U.vm) qK, qD, ns_same qF⟩, fun U hU hW => ⟨rfl, by rw [hU], by rw [hU]; exact hPc, va_K.moved hW.alike hKc, hDc.weaken (fun _ _ _ _ => trivial), ns_call hF hS hFc hU hW⟩⟩ rfl rfl hl.1 rfl (lv_room (Nat.le_of_ble_eq_true rfl)) dX16_said_17 ⟨Nat.le_of_ble_eq_true rfl, Nat.le_of_ble_eq_true rfl⟩) hS (fun q _ h => hFc q h) hFc (fun u t H1 locs ht hvm hw hB hz1 hk1 hS => ?_)
  obtain ⟨q4, cy5, hP1, hK1, hD1⟩ := hB
  rw [ht] at hP1
  have hK1 := va_K.moved hvm.symm hK1
  obtain ⟨hP, hD⟩ := va_join (wr := [(h0, .inr (0, [.ref h1, .int 0, v0, v1])), (h1, .inl (cc0, 5, .inl f0))]) (w1 := [(q3, .inr (1, [.ref q4, .int 0, .int 0, .int 0])), (q4, .inl (cy5, 16, .inl (fun _ => 0)))]) hP hD [2] [0, 1] rfl rfl (by decide) (by decide) hk1 hFc hP1 hD1
  have hK := (hK.sub (tys' := [(cc0, .byte)]) [0] rfl).app hK1
  generalize H1 = H at hP hS ⊢
  have hP : va_P (dC, dI) vwCl [(h0, .inr (0, [.ref h1, .int 0, v0, v1])), (h1, .inl (cc0, 5, .inl f0)), (q3, .inr (1, [.ref q4, .int 0, .int 0, .int 0])), (q4, .inl (cy5, 16, .inl (fun _ => 0)))] H := hP
  have hD : va_D A [(h0, .inr (0, [.ref h1, .int 0, v0, v1])), (h1, .inl (cc0, 5, .inl f0)), (q3, .inr (1, [.ref q4, .int 0, .int 0, .int 0])), (q4, .inl (cy5, 16, .inl (fun _ => 0)))] := hD
  have hK : va_K (dC, dI) vwCl [(cc0, .byte), (cy5, .byte)] s := hK
  refine W.widen (k := 2) (n := 20) (Nat.le_of_ble_eq_true rfl) (Nat.le_of_ble_eq_true rfl) ?_
  refine lv_aload_n hx hb dX16_said_20 rfl (lv_at hl 0 rfl) ?_
  have hPc := hP.sub (ws' := [(q3, .inr (1, [.ref q4, .int 0, .int 0, .int 0])), (h0, .inr (0, [.ref h1, .int 0, v0, v1])), (h1, .inl (cc0, 5, .inl f0)), (q4, .inl (cy5, 16, .inl (fun _ => 0)))]) [2, 0, 1, 3] rfl
  have hDc := hD.sub (ws' := [(q3, .inr (1, [.ref q4, .int 0, .int 0, .int 0])), (h0, .inr (0, [.ref h1, .int 0, v0, v1])), (h1, .inl (cc0, 5, .inl f0)), (q4, .inl (cy5, 16, .inl (fun _ => 0)))]) [2, 0, 1, 3] (by decide) rfl
  have hKc := hK.sub (tys' := [(cc0, .byte), (cy5, .byte)]) [0, 1] rfl
  have hFc := va_free (wc := [(q3, .inr (1, [.ref q4, .int 0, .int 0, .int 0])), (h0, .inr (0, [.ref h1, .int 0, v0, v1])), (h1, .inl (cc0, 5, .inl f0)), (q4, .inl (cy5, 16, .inl (fun _ => 0)))]) hD hS hA [2, 0, 1, 3] rfl
  refine va_callr (va_runV (As := [.ref h0]) (rest := []) ⟨hx, hb, hml, hown, hts⟩ (kJ4_append_15ec4_6 l dC dI g H.size q3 h0 h1 q4 (.int 0) v0 v1 cc0 f0 hf0 cy5 (fun _ => 0) sb_fit0 ) (cwV 1 hts (ns_gp (List.forall_mem_cons.mpr ⟨wm627, (List.forall_mem_cons.mpr ⟨wm628, (List.forall_mem_cons.mpr ⟨wm629, (List.forall_mem_cons.mpr ⟨wm137, (fun _ h9 => nomatch h9)⟩)⟩)⟩)⟩) wm626) rfl rfl rfl (by decide +kernel) ⟨Nat.le_of_ble_eq_true rfl, Nat.le_of_ble_eq_true rfl⟩) ⟨fun a U gg mk q => by obtain ⟨q0, q1, qP, qK, qD, qF⟩ := q; exact ⟨q0, q1, qP, va_K.moved (u := U) (U := U.calling gg mk a) (Vm.Alike.refl U.vm) qK, qD, ns_same qF⟩, va_recv hK hP (ci := 1) (q0 := 2) rfl rfl, fun U hU hW => ⟨rfl, by rw [hU], by rw [hU]; exact hPc, va_K.moved hW.alike hKc, hDc.weaken (fun _ _ _ _ => trivial), ns_call hF hS hFc hU hW⟩⟩ rfl rfl hl.1 rfl (lv_room (Nat.le_of_ble_eq_true rfl)) dX16_said_21 ⟨Nat.le_of_ble_eq_true rfl, Nat.le_of_ble_eq_true rfl⟩) hS (fun q _ h => hFc q h) hFc (fun u r9 t H1 locs ht hvm hw hB hz1 hk1 hS => ?_)
  obtain ⟨hr9, hP1, hK1, hD1⟩ := hB
  obtain rfl := hr9.symm
  rw [ht] at hP1
  have hK1 := va_K.moved hvm.symm hK1
  obtain ⟨hP, hD⟩ := va_join (wr := []) (w1 := [(q3, .inr (1, [.ref q4, .int 0, .int 0, .int 5])), (h1, .inl (cc0, 5, .inl f0)), (q4, .inl (cy5, 16, .inl (va_cpy (f0) ((fun _ => 0)) 0 0 5))), (h0, .inr (0, [.ref h1, .int 0, v0, v1]))]) hP hD [2, 0, 1, 3] [] rfl rfl (by decide) (by decide) hk1 hFc hP1 hD1
  have hK := (hK.sub (tys' := []) [] rfl).app hK1
  generalize H1 = H at hP hS ⊢
  have hP : va_P (dC, dI) vwCl [(q3, .inr (1, [.ref q4, .int 0, .int 0, .int 5])), (h1, .inl (cc0, 5, .inl f0)), (q4, .inl (cy5, 16, .inl (va_cpy (f0) ((fun _ => 0)) 0 0 5))), (h0, .inr (0, [.ref h1, .int 0, v0, v1]))] H := hP
  have hD : va_D A [(q3, .inr (1, [.ref q4, .int 0, .int 0, .int 5])), (h1, .inl (cc0, 5, .inl f0)), (q4, .inl (cy5, 16, .inl (va_cpy (f0) ((fun _ => 0)) 0 0 5))), (h0, .inr (0, [.ref h1, .int 0, v0, v1]))] := hD
  have hK : va_K (dC, dI) vwCl [(cc0, .byte), (cy5, .byte)] s := hK
  refine W.widen (k := 2) (n := 20) (Nat.le_of_ble_eq_true rfl) (Nat.le_of_ble_eq_true rfl) ?_
  refine va_ldcS hx hb hown (ns_f35 hF) dX16_said_24 ?_
  refine lv_iload_n hx hb dX16_said_26 rfl (lv_at hl 1 rfl) ?_
  have hPc := hP.sub (ws' := []) [] rfl
  have hDc := hD.sub (ws' := []) [] (by decide) rfl
  have hKc := hK.sub (tys' := []) [] rfl
  have hFc := va_free (wc := []) hD hS hA [] rfl
  refine va_calli (va_runV (As := [.int x0]) (rest := [.ref q3]) ⟨hx, hb, hml, hown, hts⟩ (kJ0_charAt_5068e l dC dI g H.size x0 ⟨by omega, by omega⟩) (cwV 1 hts (ns_gp (List.forall_mem_cons.mpr ⟨wm630, (List.forall_mem_cons.mpr ⟨wm598, (List.forall_mem_cons.mpr ⟨wm599, (List.forall_mem_cons.mpr ⟨wm316, (fun _ h9 => nomatch h9)⟩)⟩)⟩)⟩) wm590) rfl rfl rfl (by decide +kernel) ⟨Nat.le_of_ble_eq_true rfl, Nat.le_of_ble_eq_true rfl⟩) ⟨fun a U gg mk q => by obtain ⟨q0, q1, qP, qK, qD, qF⟩ := q; exact ⟨q0, q1, qP, va_K.moved (u := U) (U := U.calling gg mk a) (Vm.Alike.refl U.vm) qK, qD, ns_same qF⟩, va_Orecv (ns_f46 hF) hS, fun U hU hW => ⟨rfl, by rw [hU], by rw [hU]; exact hPc, va_K.moved hW.alike hKc, hDc.weaken (fun _ _ _ _ => trivial), ns_call hF hS hFc hU hW⟩⟩ rfl rfl hl.1 rfl (lv_room (Nat.le_of_ble_eq_true rfl)) dX16_said_27 ⟨Nat.le_of_ble_eq_true rfl, Nat.le_of_ble_eq_true rfl⟩) hS (fun q _ h => hFc q h) hFc (fun r9 u t H1 locs ht hvm hw hB hz1 hk1 hS => ?_)
  obtain rfl := hw.symm
  obtain ⟨hP1, hK1, hD1⟩ := hB
  rw [ht] at hP1
  have hK1 := va_K.moved hvm.symm hK1
  obtain ⟨hP, hD⟩ := va_join (wr := [(q3, .inr (1, [.ref q4, .int 0, .int 0, .int 5])), (h1, .inl (cc0, 5, .inl f0)), (q4, .inl (cy5, 16, .inl (va_cpy (f0) ((fun _ => 0)) 0 0 5))), (h0, .inr (0, [.ref h1, .int 0, v0, v1]))]) (w1 := []) hP hD [] [0, 1, 2, 3] rfl rfl (by decide) (by decide) hk1 hFc hP1 hD1
  have hK := (hK.sub (tys' := [(cc0, .byte), (cy5, .byte)]) [0, 1] rfl).app hK1
  generalize H1 = H at hP hS ⊢
  have hP : va_P (dC, dI) vwCl [(q3, .inr (1, [.ref q4, .int 0, .int 0, .int 5])), (h1, .inl (cc0, 5, .inl f0)), (q4, .inl (cy5, 16, .inl (va_cpy (f0) ((fun _ => 0)) 0 0 5))), (h0, .inr (0, [.ref h1, .int 0, v0, v1]))] H := hP
  have hD : va_D A [(q3, .inr (1, [.ref q4, .int 0, .int 0, .int 5])), (h1, .inl (cc0, 5, .inl f0)), (q4, .inl (cy5, 16, .inl (va_cpy (f0) ((fun _ => 0)) 0 0 5))), (h0, .inr (0, [.ref h1, .int 0, v0, v1]))] := hD
  have hK : va_K (dC, dI) vwCl [(cc0, .byte), (cy5, .byte)] s := hK
  refine W.widen (k := 2) (n := 20) (Nat.le_of_ble_eq_true rfl) (Nat.le_of_ble_eq_true rfl) ?_
  have r6 := ns_ch_rng x0
  have hPc := hP.sub (ws' := [(q3, .inr (1, [.ref q4, .int 0, .int 0, .int 5])), (q4, .inl (cy5, 16, .inl (va_cpy (f0) ((fun _ => 0)) 0 0 5)))]) [0, 2] rfl
  have hDc := hD.sub (ws' := [(q3, .inr (1, [.ref q4, .int 0, .int 0, .int 5])), (q4, .inl (cy5, 16, .inl (va_cpy (f0) ((fun _ => 0)) 0 0 5)))]) [0, 2] (by decide) rfl
  have hKc := hK.sub (tys' := [(cy5, .byte)]) [1] rfl
  have hFc := va_free (wc := [(q3, .inr (1, [.ref q4, .int 0, .int 0, .int 5])), (q4, .inl (cy5, 16, .inl (va_cpy (f0) ((fun _ => 0)) 0 0 5)))]) hD hS hA [0, 2] rfl
  refine va_callr (va_runV (As := [.int (ns_ch x0)]) (rest := []) ⟨hx, hb, hml, hown, hts⟩ (kJ4_append_cf468_15 l dC dI g H.size q3 (ns_ch x0) q4 (.int 0) cy5 (va_cpy (f0) ((fun _ => 0)) 0 0 5) (sb_fitC hf0 sb_fit0) ⟨by omega, by omega⟩) (cwV 1 hts (ns_gp (List.forall_mem_cons.mpr ⟨wm397, (List.forall_mem_cons.mpr ⟨wm398, (List.forall_mem_cons.mpr ⟨wm399, (List.forall_mem_cons.mpr ⟨wm137, (fun _ h9 => nomatch h9)⟩)⟩)⟩)⟩) wm310) rfl rfl rfl (by decide +kernel) ⟨Nat.le_of_ble_eq_true rfl, Nat.le_of_ble_eq_true rfl⟩) ⟨fun a U gg mk q => by obtain ⟨q0, q1, qP, qK, qD, qF⟩ := q; exact ⟨q0, q1, qP, va_K.moved (u := U) (U := U.calling gg mk a) (Vm.Alike.refl U.vm) qK, qD, ns_same qF⟩, va_recv hK hP (ci := 1) (q0 := 0) rfl rfl, fun U hU hW => ⟨rfl, by rw [hU], by rw [hU]; exact hPc, va_K.moved hW.alike hKc, hDc.weaken (fun _ _ _ _ => trivial), ns_call hF hS hFc hU hW⟩⟩ rfl rfl hl.1 rfl (lv_room (Nat.le_of_ble_eq_true rfl)) dX16_said_30 ⟨Nat.le_of_ble_eq_true rfl, Nat.le_of_ble_eq_true rfl⟩) hS (fun q _ h => hFc q h) hFc (fun u r9 t H1 locs ht hvm hw hB hz1 hk1 hS => ?_)
  obtain ⟨hr9, hP1, hK1, hD1⟩ := hB
  obtain rfl := hr9.symm
  rw [ht] at hP1
  have hK1 := va_K.moved hvm.symm hK1
  obtain ⟨hP, hD⟩ := va_join (wr := [(h1, .inl (cc0, 5, .inl f0)), (h0, .inr (0, [.ref h1, .int 0, v0, v1]))]) (w1 := [(q4, .inl (cy5, 16, .inl (upd ((va_cpy (f0) ((fun _ => 0)) 0 0 5)) 5 (vp_nar .byte (ns_ch x0).toInt8.toInt32)))), (q3, .inr (1, [.ref q4, .int 0, .int 0, .int 6]))]) hP hD [0, 2] [1, 3] rfl rfl (by decide) (by decide) hk1 hFc hP1 hD1
  have hK := (hK.sub (tys' := [(cc0, .byte)]) [0] rfl).app hK1
  generalize H1 = H at hP hS ⊢
  have hP : va_P (dC, dI) vwCl [(h1, .inl (cc0, 5, .inl f0)), (h0, .inr (0, [.ref h1, .int 0, v0, v1])), (q4, .inl (cy5, 16, .inl (upd ((va_cpy (f0) ((fun _ => 0)) 0 0 5)) 5 (vp_nar .byte (ns_ch x0).toInt8.toInt32)))), (q3, .inr (1, [.ref q4, .int 0, .int 0, .int 6]))] H := hP
  have hD : va_D A [(h1, .inl (cc0, 5, .inl f0)), (h0, .inr (0, [.ref h1, .int 0, v0, v1])), (q4, .inl (cy5, 16, .inl (upd ((va_cpy (f0) ((fun _ => 0)) 0 0 5)) 5 (vp_nar .byte (ns_ch x0).toInt8.toInt32)))), (q3, .inr (1, [.ref q4, .int 0, .int 0, .int 6]))] := hD
  have hK : va_K (dC, dI) vwCl [(cc0, .byte), (cy5, .byte)] s := hK
  refine W.widen (k := 2) (n := 20) (Nat.le_of_ble_eq_true rfl) (Nat.le_of_ble_eq_true rfl) ?_
  have hPc := hP.sub (ws' := [(q3, .inr (1, [.ref q4, .int 0, .int 0, .int 6])), (q4, .inl (cy5, 16, .inl (upd ((va_cpy (f0) ((fun _ => 0)) 0 0 5)) 5 (vp_nar .byte (ns_ch x0).toInt8.toInt32))))]) [3, 2] rfl
  have hDc := hD.sub (ws' := [(q3, .inr (1, [.ref q4, .int 0, .int 0, .int 6])), (q4, .inl (cy5, 16, .inl (upd ((va_cpy (f0) ((fun _ => 0)) 0 0 5)) 5 (vp_nar .byte (ns_ch x0).toInt8.toInt32))))]) [3, 2] (by decide) rfl
  have hKc := hK.sub (tys' := [(cy5, .byte)]) [1] rfl
  have hFc := va_free (wc := [(q3, .inr (1, [.ref q4, .int 0, .int 0, .int 6])), (q4, .inl (cy5, 16, .inl (upd ((va_cpy (f0) ((fun _ => 0)) 0 0 5)) 5 (vp_nar .byte (ns_ch x0).toInt8.toInt32))))]) hD hS hA [3, 2] rfl
  refine va_callr (va_runV (As := []) (rest := []) ⟨hx, hb, hml, hown, hts⟩ (kJ4_toString_0e30d_6 l dC dI g H.size q3 q4 (.int 0) cy5 (upd ((va_cpy (f0) ((fun _ => 0)) 0 0 5)) 5 (vp_nar .byte (ns_ch x0).toInt8.toInt32)) (sb_fitU (sb_fitC hf0 sb_fit0) (pk_fb _)) ) (cwV 0 hts (ns_gp (List.forall_mem_cons.mpr ⟨wm400, (List.forall_mem_cons.mpr ⟨wm401, (List.forall_mem_cons.mpr ⟨wm402, (List.forall_mem_cons.mpr ⟨wm137, (fun _ h9 => nomatch h9)⟩)⟩)⟩)⟩) wm360) rfl rfl rfl (by decide +kernel) ⟨Nat.le_of_ble_eq_true rfl, Nat.le_of_ble_eq_true rfl⟩) ⟨fun a U gg mk q => by obtain ⟨q0, q1, qP, qK, qD, qF⟩ := q; exact ⟨q0, q1, qP, va_K.moved (u := U) (U := U.calling gg mk a) (Vm.Alike.refl U.vm) qK, qD, ns_same qF⟩, va_recv hK hP (ci := 1) (q0 := 3) rfl rfl, fun U hU hW => ⟨rfl, by rw [hU], by rw [hU]; exact hPc, va_K.moved hW.alike hKc, hDc.weaken (fun _ _ _ _ => trivial), ns_call hF hS hFc hU hW⟩⟩ rfl rfl hl.1 rfl (lv_room (Nat.le_of_ble_eq_true rfl)) dX16_said_33 ⟨Nat.le_of_ble_eq_true rfl, Nat.le_of_ble_eq_true rfl⟩) hS (fun q _ h => hFc q h) hFc (fun u r9 t H1 locs ht hvm hw hB hz1 hk1 hS => ?_)
  obtain ⟨q7, q8, cy9, hr9, hP1, hK1, hD1⟩ := hB
  obtain rfl := hr9.symm
  rw [ht] at hP1
  have hK1 := va_K.moved hvm.symm hK1
  obtain ⟨hP, hD⟩ := va_join (wr := [(h1, .inl (cc0, 5, .inl f0)), (h0, .inr (0, [.ref h1, .int 0, v0, v1]))]) (w1 := [(q7, .inr (0, [.ref q8, .int 0, .int 0, .int 0])), (q3, .inr (1, [.ref q4, .int 0, .int 0, .int 6])), (q4, .inl (cy5, 16, .inl (upd ((va_cpy (f0) ((fun _ => 0)) 0 0 5)) 5 (vp_nar .byte (ns_ch x0).toInt8.toInt32)))), (q8, .inl (cy9, 6, .inl (va_cpy ((upd ((va_cpy (f0) ((fun _ => 0)) 0 0 5)) 5 (vp_nar .byte (ns_ch x0).toInt8.toInt32))) (fun _ => 0) 0 0 6)))]) hP hD [3, 2] [0, 1] rfl rfl (by decide) (by decide) hk1 hFc hP1 hD1
  have hK := (hK.sub (tys' := [(cc0, .byte)]) [0] rfl).app hK1
  generalize H1 = H at hP hS ⊢
  have hP : va_P (dC, dI) vwCl [(h1, .inl (cc0, 5, .inl f0)), (h0, .inr (0, [.ref h1, .int 0, v0, v1])), (q7, .inr (0, [.ref q8, .int 0, .int 0, .int 0])), (q3, .inr (1, [.ref q4, .int 0, .int 0, .int 6])), (q4, .inl (cy5, 16, .inl (upd ((va_cpy (f0) ((fun _ => 0)) 0 0 5)) 5 (vp_nar .byte (ns_ch x0).toInt8.toInt32)))), (q8, .inl (cy9, 6, .inl (va_cpy ((upd ((va_cpy (f0) ((fun _ => 0)) 0 0 5)) 5 (vp_nar .byte (ns_ch x0).toInt8.toInt32))) (fun _ => 0) 0 0 6)))] H := hP
  have hD : va_D A [(h1, .inl (cc0, 5, .inl f0)), (h0, .inr (0, [.ref h1, .int 0, v0, v1])), (q7, .inr (0, [.ref q8, .int 0, .int 0, .int 0])), (q3, .inr (1, [.ref q4, .int 0, .int 0, .int 6])), (q4, .inl (cy5, 16, .inl (upd ((va_cpy (f0) ((fun _ => 0)) 0 0 5)) 5 (vp_nar .byte (ns_ch x0).toInt8.toInt32)))), (q8, .inl (cy9, 6, .inl (va_cpy ((upd ((va_cpy (f0) ((fun _ => 0)) 0 0 5)) 5 (vp_nar .byte (ns_ch x0).toInt8.toInt32))) (fun _ => 0) 0 0 6)))] := hD
  have hK : va_K (dC, dI) vwCl [(cc0, .byte), (cy5, .byte), (cy9, .byte)] s := hK
  refine W.widen (k := 4) (n := 30) (Nat.le_of_ble_eq_true rfl) (Nat.le_of_ble_eq_true rfl) ?_
  have hP9 := hP.sub (ws' := [(h1, .inl (cc0, 5, .inl f0)), (h0, .inr (0, [.ref h1, .int 0, v0, v1])), (q7, .inr (0, [.ref q8, .int 0, .int 0, .int 0])), (q3, .inr (1, [.ref q4, .int 0, .int 0, .int 6])), (q4, .inl (cy5, 16, .inl (upd ((va_cpy (f0) ((fun _ => 0)) 0 0 5)) 5 (vp_nar .byte (ns_ch x0).toInt8.toInt32)))), (q8, .inl (cy9, 6, .inl (va_cpy ((upd ((va_cpy (f0) ((fun _ => 0)) 0 0 5)) 5 (vp_nar .byte (ns_ch x0).toInt8.toInt32))) (fun _ => 0) 0 0 6)))]) [0, 1, 2, 3, 4, 5] rfl
  have hD9 := hD.sub (ws' := [(h1, .inl (cc0, 5, .inl f0)), (h0, .inr (0, [.ref h1, .int 0, v0, v1])), (q7, .inr (0, [.ref q8, .int 0, .int 0, .int 0])), (q3, .inr (1, [.ref q4, .int 0, .int 0, .int 6])), (q4, .inl (cy5, 16, .inl (upd ((va_cpy (f0) ((fun _ => 0)) 0 0 5)) 5 (vp_nar .byte (ns_ch x0).toInt8.toInt32)))), (q8, .inl (cy9, 6, .inl (va_cpy ((upd ((va_cpy (f0) ((fun _ => 0)) 0 0 5)) 5 (vp_nar .byte (ns_ch x0).toInt8.toInt32))) (fun _ => 0) 0 0 6)))]) [0, 1, 2, 3, 4, 5] (by decide) rfl
  have hK9 := hK.sub (tys' := [(cc0, .byte), (cy5, .byte), (cy9, .byte)]) [0, 1, 2] rfl
  refine W.widen (k := 4) (n := 30) (Nat.le_of_ble_eq_true rfl) (Nat.le_of_ble_eq_true rfl) ?_
  exact W.aret (v := .ref q7) hx hb hr (by first | exact Or.inl ⟨_, rfl⟩ | exact Or.inr ⟨_, rfl⟩) (Or.inr ⟨_, rfl⟩) (fun t ht hW => ⟨⟨(), _, rfl, trivial, q3, q4, cy5, q7, q8, cy9, rfl, by rw [ht]; exact hP9, va_K.moved hW.alike hK9, hD9⟩, hS.F ht⟩) hS.2.2 dX16_said_36

set_option maxHeartbeats 4000000 in
set_option maxRecDepth 100000 in
theorem kX16_word_15 (l : Launch) (dC : Nat → ClassId) (dI : Nat → Nat → Nat) (g : Nat → Nat) (sz : Nat) (h0 : Nat) (x0 : Int32) (h1 : Nat) (v0 : Value) (v1 : Value) (v2 : Value) (v3 : Value) (v4 : Value) (v5 : Value) (v6 : Value) (ex0 : (0 : Int) ≤ x0.toInt ∧ x0.toInt ≤ (25 : Int)) : Met l yX16_word wbX16_word ({ frames := 6, cells := 7, slots := 44, locals := 151 }) (va_Pc [.ref h0, .int x0, .int 3] (fun U => U.heap.size = sz ∧ va_P (dC, dI) vwCl [(h0, .inr (23, [v0, .ref h1, v1, v2, v3, v4, v5, v6, .int 0])), (h1, .inr (6, [.int 0, .ref (g 0), .int 0]))] U.heap ∧ va_K (dC, dI) vwCl [] U ∧ va_D (fun _ => True) [(h0, .inr (23, [v0, .ref h1, v1, v2, v3, v4, v5, v6, .int 0])), (h1, .inr (6, [.int 0, .ref (g 0), .int 0]))] ∧ ns_F g (va_A [(h0, .inr (23, [v0, .ref h1, v1, v2, v3, v4, v5, v6, .int 0])), (h1, .inr (6, [.int 0, .ref (g 0), .int 0]))] sz) U U.heap)) (va_Qi (fun (r : Int32) (_ : Unit) => r = 0) (fun _ t => ∃ k0 : Nat, ∃ k1 : Nat, ∃ kc2 : ClassId, ∃ k3 : Nat, ∃ k4 : Nat, ∃ k5 : Nat, ∃ kc6 : ClassId, ∃ k7 : Nat, ∃ k8 : Nat, ∃ kc9 : ClassId, va_P (dC, dI) vwCl [(k4, .inr (0, [.ref k5, .int 0, .int 0, .int 0])), (k0, .inr (1, [.ref k1, .int 0, .int 0, .int 3])), (k1, .inl (kc2, 16, .inl (upd ((upd ((upd ((fun _ => 0)) 0 (vp_nar .byte (97 + x0).toInt8.toInt32))) 1 (vp_nar .byte (97 + x0).toInt8.toInt32))) 2 (vp_nar .byte (97 + x0).toInt8.toInt32)))), (k5, .inl (kc6, 3, .inl (va_cpy ((upd ((upd ((upd ((fun _ => 0)) 0 (vp_nar .byte (97 + x0).toInt8.toInt32))) 1 (vp_nar .byte (97 + x0).toInt8.toInt32))) 2 (vp_nar .byte (97 + x0).toInt8.toInt32))) (fun _ => 0) 0 0 3))), (k7, .inr (6, [.int 0, .ref (g 0), .int 0])), (h0, .inr (23, [.int 0, .ref h1, v1, v2, v3, v4, v5, v6, .int 1])), (k3, .inr (18, [.int 0, .ref k4, .int 0, .ref k7])), (k8, .inl (kc9, 10, .inr (.inr (.inr (.inr (va_up (fun _ => none) 0 (some k3))))))), (h1, .inr (6, [.int 1, .ref k8, .int 1]))] t.heap ∧ va_K (dC, dI) vwCl [(kc2, .byte), (kc6, .byte), (kc9, .object "java/lang/Object")] t ∧ va_D (va_A [(h0, .inr (23, [v0, .ref h1, v1, v2, v3, v4, v5, v6, .int 0])), (h1, .inr (6, [.int 0, .ref (g 0), .int 0]))] sz) [(k4, .inr (0, [.ref k5, .int 0, .int 0, .int 0])), (k0, .inr (1, [.ref k1, .int 0, .int 0, .int 3])), (k1, .inl (kc2, 16, .inl (upd ((upd ((upd ((fun _ => 0)) 0 (vp_nar .byte (97 + x0).toInt8.toInt32))) 1 (vp_nar .byte (97 + x0).toInt8.toInt32))) 2 (vp_nar .byte (97 + x0).toInt8.toInt32)))), (k5, .inl (kc6, 3, .inl (va_cpy ((upd ((upd ((upd ((fun _ => 0)) 0 (vp_nar .byte (97 + x0).toInt8.toInt32))) 1 (vp_nar .byte (97 + x0).toInt8.toInt32))) 2 (vp_nar .byte (97 + x0).toInt8.toInt32))) (fun _ => 0) 0 0 3))), (k7, .inr (6, [.int 0, .ref (g 0), .int 0])), (h0, .inr (23, [.int 0, .ref h1, v1, v2, v3, v4, v5, v6, .int 1])), (k3, .inr (18, [.int 0, .ref k4, .int 0, .ref k7])), (k8, .inl (kc9, 10, .inr (.inr (.inr (.inr (va_up (fun _ => none) 0 (some k3))))))), (h1, .inr (6, [.int 1, .ref k8, .int 1]))]) (va_A [(h0, .inr (23, [v0, .ref h1, v1, v2, v3, v4, v5, v6, .int 0])), (h1, .inr (6, [.int 0, .ref (g 0), .int 0]))] sz)) 7 44 (va_A [(h0, .inr (23, [v0, .ref h1, v1, v2, v3, v4, v5, v6, .int 0])), (h1, .inr (6, [.int 0, .ref (g 0), .int 0]))] sz) := by
  refine Met.ofW (cc := cX16_word) (maxL := 5) (ret := (some .int)) (by decide) rfl ?_
  intro p e s m args below meth c s₁ B hml hv
  obtain ⟨rfl, hsz, hP, hK, hD0, hF⟩ := hv
  have hx := B.exec
  have hb := B.bytes
  have hr := B.returns
  have hts := atoms_spec (ws := wbX16_word) B.pre
  have hta : ∀ w ∈ wsALL, w.before _ s = true := fun w h => hts w (List.mem_cons_of_mem _ h)
  have hown : s.vm.findClass RX16 = some m.cls := findClass_of_methodNamed B.named
  have hlocks := B.notSynchronized
  subst hsz
  have hD := hD0.self (sz := s.heap.size)
  generalize hAe : va_A [(h0, .inr (23, [v0, .ref h1, v1, v2, v3, v4, v5, v6, .int 0])), (h1, .inr (6, [.int 0, .ref (g 0), .int 0]))] s.heap.size = A at hD hF ⊢
  have hA : ∀ q : Nat, s.heap.size ≤ q → A q := fun q h => by rw [← hAe]; exact Or.inr h
  have hS : va_S A s.heap s.heap [] := va_S.rf
  have hP : va_P (dC, dI) vwCl [(h0, .inr (23, [v0, .ref h1, v1, v2, v3, v4, v5, v6, .int 0])), (h1, .inr (6, [.int 0, .ref (g 0), .int 0]))] s.heap := hP
  have hl := lv_entry ([.ref h0, .int x0, .int 3]) (n := 5) (Nat.le_of_ble_eq_true rfl)
  rw [lg_entry_eq]
  generalize (lg_sl ([.ref h0, .int x0, .int 3]) ++ List.replicate (5 - (lg_sl ([.ref h0, .int x0, .int 3])).length) Slot.unset).toArray = ls at hl ⊢
  have hl : lv_has ls 5 [(0, .ref h0), (1, .int x0), (2, .int 3)] := hl
  refine lv_aload_n hx hb dX16_word_0 rfl (lv_at hl 0 rfl) ?_
  refine lv_iload_n hx hb dX16_word_1 rfl (lv_at hl 1 rfl) ?_
  refine lv_iconst (v := 0) hx hb dX16_word_2 (by decide) ?_
  refine lv_bipush (v := 25) hx hb dX16_word_3 (by decide) ?_
  have hPc := hP.sub (ws' := []) [] rfl
  have hDc := hD.sub (ws' := []) [] (by decide) rfl
  have hKc := hK.sub (tys' := []) [] rfl
  have hFc := va_free (wc := []) hD hS hA [] rfl
  refine va_calli (va_runS (As := [.int x0, .int 0, .int 25]) (rest := [.ref h0]) ⟨hx, hb, hml, hown, hts⟩ (kX16_isIn_2 l dC dI g s.heap.size x0 ⟨by omega, by omega⟩) (va_cwS 3 hts (ns_gp (List.forall_mem_cons.mpr ⟨wm240, (List.forall_mem_cons.mpr ⟨wm241, (List.forall_mem_cons.mpr ⟨wm192, (fun _ h9 => nomatch h9)⟩)⟩)⟩) wm233) rfl rfl rfl (by decide +kernel) ⟨Nat.le_of_ble_eq_true rfl, Nat.le_of_ble_eq_true rfl⟩) ⟨fun a U gg mk q => by obtain ⟨q0, q1, qP, qK, qD, qF⟩ := q; exact ⟨q0, q1, qP, va_K.moved (u := U) (U := U.calling gg mk a) (Vm.Alike.refl U.vm) qK, qD, ns_same qF⟩, fun U hU hW => ⟨rfl, by rw [hU], by rw [hU]; exact hPc, va_K.moved hW.alike hKc, hDc.weaken (fun _ _ _ _ => trivial), ns_call hF hS hFc hU hW⟩⟩ rfl rfl hl.1 rfl (lv_room (Nat.le_of_ble_eq_true rfl)) dX16_word_5 ⟨Nat.le_of_ble_eq_true rfl, Nat.le_of_ble_eq_true rfl⟩) hS (fun q _ h => hFc q h) hFc (fun r9 u t H1 locs ht hvm hw hB hz1 hk1 hS => ?_)
  obtain rfl := hw.symm
  obtain ⟨hP1, hK1, hD1⟩ := hB
  rw [ht] at hP1
  have hK1 := va_K.moved hvm.symm hK1
  obtain ⟨hP, hD⟩ := va_join (wr := [(h0, .inr (23, [v0, .ref h1, v1, v2, v3, v4, v5, v6, .int 0])), (h1, .inr (6, [.int 0, .ref (g 0), .int 0]))]) (w1 := []) hP hD [] [0, 1] rfl rfl (by decide) (by decide) hk1 hFc hP1 hD1
  have hK := (hK.sub (tys' := []) [] rfl).app hK1
  generalize H1 = H at hP hS ⊢
  have hP : va_P (dC, dI) vwCl [(h0, .inr (23, [v0, .ref h1, v1, v2, v3, v4, v5, v6, .int 0])), (h1, .inr (6, [.int 0, .ref (g 0), .int 0]))] H := hP
  have hD : va_D A [(h0, .inr (23, [v0, .ref h1, v1, v2, v3, v4, v5, v6, .int 0])), (h1, .inr (6, [.int 0, .ref (g 0), .int 0]))] := hD
  have hK : va_K (dC, dI) vwCl [] s := hK
  refine W.widen (k := 0) (n := 0) (Nat.le_of_ble_eq_true rfl) (Nat.le_of_ble_eq_true rfl) ?_
  refine lv_if_eq (tgt := 21) hx hb dX16_word_8 (by decide) (fun c1 => absurd c1 (by decide)) (fun c1 => ?_)
  refine lv_iload_n hx hb dX16_word_11 rfl (lv_at hl 2 rfl) ?_
  refine lv_iconst (v := 1) hx hb dX16_word_12 (by decide) ?_
  refine lv_bipush (v := 9) hx hb dX16_word_13 (by decide) ?_
  have hPc := hP.sub (ws' := []) [] rfl
  have hDc := hD.sub (ws' := []) [] (by decide) rfl
  have hKc := hK.sub (tys' := []) [] rfl
  have hFc := va_free (wc := []) hD hS hA [] rfl
  refine va_calli (va_runS (As := [.int 3, .int 1, .int 9]) (rest := [.ref h0]) ⟨hx, hb, hml, hown, hts⟩ (kX16_isIn_6 l dC dI g H.size  ) (va_cwS 3 hts (ns_gp (List.forall_mem_cons.mpr ⟨wm240, (List.forall_mem_cons.mpr ⟨wm241, (List.forall_mem_cons.mpr ⟨wm192, (fun _ h9 => nomatch h9)⟩)⟩)⟩) wm233) rfl rfl rfl (by decide +kernel) ⟨Nat.le_of_ble_eq_true rfl, Nat.le_of_ble_eq_true rfl⟩) ⟨fun a U gg mk q => by obtain ⟨q0, q1, qP, qK, qD, qF⟩ := q; exact ⟨q0, q1, qP, va_K.moved (u := U) (U := U.calling gg mk a) (Vm.Alike.refl U.vm) qK, qD, ns_same qF⟩, fun U hU hW => ⟨rfl, by rw [hU], by rw [hU]; exact hPc, va_K.moved hW.alike hKc, hDc.weaken (fun _ _ _ _ => trivial), ns_call hF hS hFc hU hW⟩⟩ rfl rfl hl.1 rfl (lv_room (Nat.le_of_ble_eq_true rfl)) dX16_word_15 ⟨Nat.le_of_ble_eq_true rfl, Nat.le_of_ble_eq_true rfl⟩) hS (fun q _ h => hFc q h) hFc (fun r9 u t H1 locs ht hvm hw hB hz1 hk1 hS => ?_)
  obtain rfl := hw.symm
  obtain ⟨hP1, hK1, hD1⟩ := hB
  rw [ht] at hP1
  have hK1 := va_K.moved hvm.symm hK1
  obtain ⟨hP, hD⟩ := va_join (wr := [(h0, .inr (23, [v0, .ref h1, v1, v2, v3, v4, v5, v6, .int 0])), (h1, .inr (6, [.int 0, .ref (g 0), .int 0]))]) (w1 := []) hP hD [] [0, 1] rfl rfl (by decide) (by decide) hk1 hFc hP1 hD1
  have hK := (hK.sub (tys' := []) [] rfl).app hK1
  generalize H1 = H at hP hS ⊢
  have hP : va_P (dC, dI) vwCl [(h0, .inr (23, [v0, .ref h1, v1, v2, v3, v4, v5, v6, .int 0])), (h1, .inr (6, [.int 0, .ref (g 0), .int 0]))] H := hP
  have hD : va_D A [(h0, .inr (23, [v0, .ref h1, v1, v2, v3, v4, v5, v6, .int 0])), (h1, .inr (6, [.int 0, .ref (g 0), .int 0]))] := hD
  have hK : va_K (dC, dI) vwCl [] s := hK
  refine W.widen (k := 0) (n := 0) (Nat.le_of_ble_eq_true rfl) (Nat.le_of_ble_eq_true rfl) ?_
  refine lv_if_ne (tgt := 25) hx hb dX16_word_18 (by decide) (fun c2 => ?_) (fun c2 => absurd c2 (by decide))
  refine lv_iconst (v := 0) hx hb dX16_word_25 (by decide) ?_
  refine lv_iconst (v := 1) hx hb dX16_word_26 (by decide) ?_
  have hPc := hP.sub (ws' := [(h0, .inr (23, [v0, .ref h1, v1, v2, v3, v4, v5, v6, .int 0]))]) [0] rfl
  have hDc := hD.sub (ws' := [(h0, .inr (23, [v0, .ref h1, v1, v2, v3, v4, v5, v6, .int 0]))]) [0] (by decide) rfl
  have hKc := hK.sub (tys' := []) [] rfl
  have hFc := va_free (wc := [(h0, .inr (23, [v0, .ref h1, v1, v2, v3, v4, v5, v6, .int 0]))]) hD hS hA [0] rfl
  refine va_calli (va_runV (As := [.int 0, .int 1]) (rest := []) ⟨hx, hb, hml, hown, hts⟩ (kX16_start_2 l dC dI g H.size h0 v0 (.ref h1) v1 v2 v3 v4 v5 v6 (.int 0) ) (cwV 2 hts (ns_gp (List.forall_mem_cons.mpr ⟨wm242, (List.forall_mem_cons.mpr ⟨wm243, (List.forall_mem_cons.mpr ⟨wm244, (List.forall_mem_cons.mpr ⟨wm192, (fun _ h9 => nomatch h9)⟩)⟩)⟩)⟩) wm239) rfl rfl rfl (by decide +kernel) ⟨Nat.le_of_ble_eq_true rfl, Nat.le_of_ble_eq_true rfl⟩) ⟨fun a U gg mk q => by obtain ⟨q0, q1, qP, qK, qD, qF⟩ := q; exact ⟨q0, q1, qP, va_K.moved (u := U) (U := U.calling gg mk a) (Vm.Alike.refl U.vm) qK, qD, ns_same qF⟩, va_recv hK hP (ci := 23) (q0 := 0) rfl rfl, fun U hU hW => ⟨rfl, by rw [hU], by rw [hU]; exact hPc, va_K.moved hW.alike hKc, hDc.weaken (fun _ _ _ _ => trivial), ns_call hF hS hFc hU hW⟩⟩ rfl rfl hl.1 rfl (lv_room (Nat.le_of_ble_eq_true rfl)) dX16_word_27 ⟨Nat.le_of_ble_eq_true rfl, Nat.le_of_ble_eq_true rfl⟩) hS (fun q _ h => hFc q h) hFc (fun r9 u t H1 locs ht hvm hw hB hz1 hk1 hS => ?_)
  obtain rfl := hw.symm
  obtain ⟨hP1, hK1, hD1⟩ := hB
  rw [ht] at hP1
  have hK1 := va_K.moved hvm.symm hK1
  obtain ⟨hP, hD⟩ := va_join (wr := [(h1, .inr (6, [.int 0, .ref (g 0), .int 0]))]) (w1 := [(h0, .inr (23, [.int 0, .ref h1, v1, v2, v3, v4, v5, v6, .int 0]))]) hP hD [0] [1] rfl rfl (by decide) (by decide) hk1 hFc hP1 hD1
  have hK := (hK.sub (tys' := []) [] rfl).app hK1
  generalize H1 = H at hP hS ⊢
  have hP : va_P (dC, dI) vwCl [(h1, .inr (6, [.int 0, .ref (g 0), .int 0])), (h0, .inr (23, [.int 0, .ref h1, v1, v2, v3, v4, v5, v6, .int 0]))] H := hP
  have hD : va_D A [(h1, .inr (6, [.int 0, .ref (g 0), .int 0])), (h0, .inr (23, [.int 0, .ref h1, v1, v2, v3, v4, v5, v6, .int 0]))] := hD
  have hK : va_K (dC, dI) vwCl [] s := hK
  refine W.widen (k := 0) (n := 0) (Nat.le_of_ble_eq_true rfl) (Nat.le_of_ble_eq_true rfl) ?_
  refine lv_if_ne (tgt := 45) hx hb dX16_word_30 (by decide) (fun c3 => absurd (by decide) c3) (fun c3 => ?_)
  refine lv_aload_n hx hb dX16_word_33 rfl (lv_at hl 0 rfl) ?_
  refine lv_aload_n hx hb dX16_word_34 rfl (lv_at hl 0 rfl) ?_
  have hPc := hP.sub (ws' := [(h0, .inr (23, [.int 0, .ref h1, v1, v2, v3, v4, v5, v6, .int 0])), (h1, .inr (6, [.int 0, .ref (g 0), .int 0]))]) [1, 0] rfl
  have hDc := hD.sub (ws' := [(h0, .inr (23, [.int 0, .ref h1, v1, v2, v3, v4, v5, v6, .int 0])), (h1, .inr (6, [.int 0, .ref (g 0), .int 0]))]) [1, 0] (by decide) rfl
  have hKc := hK.sub (tys' := []) [] rfl
  have hFc := va_free (wc := [(h0, .inr (23, [.int 0, .ref h1, v1, v2, v3, v4, v5, v6, .int 0])), (h1, .inr (6, [.int 0, .ref (g 0), .int 0]))]) hD hS hA [1, 0] rfl
  refine va_calli (va_runV (As := []) (rest := [.ref h0]) ⟨hx, hb, hml, hown, hts⟩ (kX16_isFull l dC dI g H.size h0 h1 (.int 0) v1 v2 v3 v4 v5 v6 (.int 0) (.int 0) (.ref (g 0)) ) (cwV 0 hts (ns_gp (List.forall_mem_cons.mpr ⟨wm393, (List.forall_mem_cons.mpr ⟨wm394, (List.forall_mem_cons.mpr ⟨wm395, (List.forall_mem_cons.mpr ⟨wm192, (fun _ h9 => nomatch h9)⟩)⟩)⟩)⟩) wm288) rfl rfl rfl (by decide +kernel) ⟨Nat.le_of_ble_eq_true rfl, Nat.le_of_ble_eq_true rfl⟩) ⟨fun a U gg mk q => by obtain ⟨q0, q1, qP, qK, qD, qF⟩ := q; exact ⟨q0, q1, qP, va_K.moved (u := U) (U := U.calling gg mk a) (Vm.Alike.refl U.vm) qK, qD, ns_same qF⟩, va_recv hK hP (ci := 23) (q0 := 1) rfl rfl, fun U hU hW => ⟨rfl, by rw [hU], by rw [hU]; exact hPc, va_K.moved hW.alike hKc, hDc.weaken (fun _ _ _ _ => trivial), ns_call hF hS hFc hU hW⟩⟩ rfl rfl hl.1 rfl (lv_room (Nat.le_of_ble_eq_true rfl)) dX16_word_35 ⟨Nat.le_of_ble_eq_true rfl, Nat.le_of_ble_eq_true rfl⟩) hS (fun q _ h => hFc q h) hFc (fun r9 u t H1 locs ht hvm hw hB hz1 hk1 hS => ?_)
  obtain rfl := hw.symm
  obtain ⟨hP1, hK1, hD1⟩ := hB
  rw [ht] at hP1
  have hK1 := va_K.moved hvm.symm hK1
  obtain ⟨hP, hD⟩ := va_join (wr := []) (w1 := [(h0, .inr (23, [.int 0, .ref h1, v1, v2, v3, v4, v5, v6, .int 0])), (h1, .inr (6, [.int 0, .ref (g 0), .int 0]))]) hP hD [1, 0] [] rfl rfl (by decide) (by decide) hk1 hFc hP1 hD1
  have hK := (hK.sub (tys' := []) [] rfl).app hK1
  generalize H1 = H at hP hS ⊢
  have hP : va_P (dC, dI) vwCl [(h0, .inr (23, [.int 0, .ref h1, v1, v2, v3, v4, v5, v6, .int 0])), (h1, .inr (6, [.int 0, .ref (g 0), .int 0]))] H := hP
  have hD : va_D A [(h0, .inr (23, [.int 0, .ref h1, v1, v2, v3, v4, v5, v6, .int 0])), (h1, .inr (6, [.int 0, .ref (g 0), .int 0]))] := hD
  have hK : va_K (dC, dI) vwCl [] s := hK
  refine W.widen (k := 0) (n := 0) (Nat.le_of_ble_eq_true rfl) (Nat.le_of_ble_eq_true rfl) ?_
  refine lv_iconst (v := 2) hx hb dX16_word_38 (by decide) ?_
  have hPc := hP.sub (ws' := [(h0, .inr (23, [.int 0, .ref h1, v1, v2, v3, v4, v5, v6, .int 0]))]) [0] rfl
  have hDc := hD.sub (ws' := [(h0, .inr (23, [.int 0, .ref h1, v1, v2, v3, v4, v5, v6, .int 0]))]) [0] (by decide) rfl
  have hKc := hK.sub (tys' := []) [] rfl
  have hFc := va_free (wc := [(h0, .inr (23, [.int 0, .ref h1, v1, v2, v3, v4, v5, v6, .int 0]))]) hD hS hA [0] rfl
  refine va_calli (va_runV (As := [.int 0, .int 2]) (rest := []) ⟨hx, hb, hml, hown, hts⟩ (kX16_refuse_3 l dC dI g H.size h0 (.ref h1) v1 v2 v3 v4 v5 v6 (.int 0) ) (cwV 2 hts (ns_gp (List.forall_mem_cons.mpr ⟨wm236, (List.forall_mem_cons.mpr ⟨wm237, (List.forall_mem_cons.mpr ⟨wm238, (List.forall_mem_cons.mpr ⟨wm192, (fun _ h9 => nomatch h9)⟩)⟩)⟩)⟩) wm235) rfl rfl rfl (by decide +kernel) ⟨Nat.le_of_ble_eq_true rfl, Nat.le_of_ble_eq_true rfl⟩) ⟨fun a U gg mk q => by obtain ⟨q0, q1, qP, qK, qD, qF⟩ := q; exact ⟨q0, q1, qP, va_K.moved (u := U) (U := U.calling gg mk a) (Vm.Alike.refl U.vm) qK, qD, ns_same qF⟩, va_recv hK hP (ci := 23) (q0 := 0) rfl rfl, fun U hU hW => ⟨rfl, by rw [hU], by rw [hU]; exact hPc, va_K.moved hW.alike hKc, hDc.weaken (fun _ _ _ _ => trivial), ns_call hF hS hFc hU hW⟩⟩ rfl rfl hl.1 rfl (lv_room (Nat.le_of_ble_eq_true rfl)) dX16_word_39 ⟨Nat.le_of_ble_eq_true rfl, Nat.le_of_ble_eq_true rfl⟩) hS (fun q _ h => hFc q h) hFc (fun r9 u t H1 locs ht hvm hw hB hz1 hk1 hS => ?_)
  obtain rfl := hw.symm
  obtain ⟨hP1, hK1, hD1⟩ := hB
  rw [ht] at hP1
  have hK1 := va_K.moved hvm.symm hK1
  obtain ⟨hP, hD⟩ := va_join (wr := [(h1, .inr (6, [.int 0, .ref (g 0), .int 0]))]) (w1 := [(h0, .inr (23, [.int 0, .ref h1, v1, v2, v3, v4, v5, v6, .int 0]))]) hP hD [0] [1] rfl rfl (by decide) (by decide) hk1 hFc hP1 hD1
  have hK := (hK.sub (tys' := []) [] rfl).app hK1
  generalize H1 = H at hP hS ⊢
  have hP : va_P (dC, dI) vwCl [(h1, .inr (6, [.int 0, .ref (g 0), .int 0])), (h0, .inr (23, [.int 0, .ref h1, v1, v2, v3, v4, v5, v6, .int 0]))] H := hP
  have hD : va_D A [(h1, .inr (6, [.int 0, .ref (g 0), .int 0])), (h0, .inr (23, [.int 0, .ref h1, v1, v2, v3, v4, v5, v6, .int 0]))] := hD
  have hK : va_K (dC, dI) vwCl [] s := hK
  refine W.widen (k := 0) (n := 0) (Nat.le_of_ble_eq_true rfl) (Nat.le_of_ble_eq_true rfl) ?_
  refine lv_if_eq (tgt := 47) hx hb dX16_word_42 (by decide) (fun c4 => ?_) (fun c4 => absurd (by decide) c4)
  refine va_new (ci := 1) (fs := [.null, .int 0, .int 0, .int 0]) (C := RJ4) (T := TJ4) (N := 4) hx hb hta naJ4 tyJ4 tyJ4_ok hown (hta _ wm289) (hta _ wm136) (hta _ wm137) hK hP hD hS hA rfl (fun j hj => by rcases (show j = 0 ∨ j = 1 ∨ j = 2 ∨ j = 3 by omega) with rfl | rfl | rfl | rfl <;> rfl) (Nat.le_of_ble_eq_true rfl) (Nat.le_of_ble_eq_true rfl) dX16_word_47 (fun q5 H hP hD hS => ?_)
  have hP : va_P (dC, dI) vwCl [(h1, .inr (6, [.int 0, .ref (g 0), .int 0])), (h0, .inr (23, [.int 0, .ref h1, v1, v2, v3, v4, v5, v6, .int 0])), (q5, .inr (1, [.null, .int 0, .int 0, .int 0]))] H := hP
  have hD : va_D A [(h1, .inr (6, [.int 0, .ref (g 0), .int 0])), (h0, .inr (23, [.int 0, .ref h1, v1, v2, v3, v4, v5, v6, .int 0])), (q5, .inr (1, [.null, .int 0, .int 0, .int 0]))] := hD
  refine W.widen (k := 1) (n := 4) (Nat.le_of_ble_eq_true rfl) (Nat.le_of_ble_eq_true rfl) ?_
  refine lv_dup hx hb dX16_word_50 rfl ?_
  have hPc := hP.sub (ws' := [(q5, .inr (1, [.null, .int 0, .int 0, .int 0]))]) [2] rfl
  have hDc := hD.sub (ws' := [(q5, .inr (1, [.null, .int 0, .int 0, .int 0]))]) [2] (by decide) rfl
  have hKc := hK.sub (tys' := []) [] rfl
  have hFc := va_free (wc := [(q5, .inr (1, [.null, .int 0, .int 0, .int 0]))]) hD hS hA [2] rfl
  refine va_callv (va_runI (As := []) (rest := [.ref q5]) ⟨hx, hb, hml, hown, hts⟩ (kJ4_init_da8c8 l dC dI g H.size q5 .null (.int 0) (.int 0) (.int 0) ) (cwI 0 hts (ns_g0 wm147) rfl rfl rfl (hta _ wm137) (hta _ wm396) (hta _ wm185) rfl (by decide +kernel) ⟨Nat.le_of_ble_eq_true rfl, Nat.le_of_ble_eq_true rfl⟩) ⟨fun a U gg mk q => by obtain ⟨q0, q1, qP, qK, qD, qF⟩ := q; exact ⟨q0, q1, qP, va_K.moved (u := U) (U := U.calling gg mk a) (Vm.Alike.refl U.vm) qK, qD, ns_same qF⟩, fun U hU hW => ⟨rfl, by rw [hU], by rw [hU]; exact hPc, va_K.moved hW.alike hKc, hDc.weaken (fun _ _ _ _ => trivial), ns_call hF hS hFc hU hW⟩⟩ rfl rfl hl.1 rfl (lv_room (Nat.le_of_ble_eq_true rfl)) dX16_word_51 ⟨Nat.le_of_ble_eq_true rfl, Nat.le_of_ble_eq_true rfl⟩) hS (fun q _ h => hFc q h) hFc (fun u t H1 locs ht hvm hw hB hz1 hk1 hS => ?_)
  obtain ⟨q6, cy7, hP1, hK1, hD1⟩ := hB
  rw [ht] at hP1
  have hK1 := va_K.moved hvm.symm hK1
  obtain ⟨hP, hD⟩ := va_join (wr := [(h1, .inr (6, [.int 0, .ref (g 0), .int 0])), (h0, .inr (23, [.int 0, .ref h1, v1, v2, v3, v4, v5, v6, .int 0]))]) (w1 := [(q5, .inr (1, [.ref q6, .int 0, .int 0, .int 0])), (q6, .inl (cy7, 16, .inl (fun _ => 0)))]) hP hD [2] [0, 1] rfl rfl (by decide) (by decide) hk1 hFc hP1 hD1
  have hK := (hK.sub (tys' := []) [] rfl).app hK1
  generalize H1 = H at hP hS ⊢
  have hP : va_P (dC, dI) vwCl [(h1, .inr (6, [.int 0, .ref (g 0), .int 0])), (h0, .inr (23, [.int 0, .ref h1, v1, v2, v3, v4, v5, v6, .int 0])), (q5, .inr (1, [.ref q6, .int 0, .int 0, .int 0])), (q6, .inl (cy7, 16, .inl (fun _ => 0)))] H := hP
  have hD : va_D A [(h1, .inr (6, [.int 0, .ref (g 0), .int 0])), (h0, .inr (23, [.int 0, .ref h1, v1, v2, v3, v4, v5, v6, .int 0])), (q5, .inr (1, [.ref q6, .int 0, .int 0, .int 0])), (q6, .inl (cy7, 16, .inl (fun _ => 0)))] := hD
  have hK : va_K (dC, dI) vwCl [(cy7, .byte)] s := hK
  refine W.widen (k := 2) (n := 20) (Nat.le_of_ble_eq_true rfl) (Nat.le_of_ble_eq_true rfl) ?_
  refine lv_astore_n (lv' := [(3, .ref q5), (0, .ref h0), (1, .int x0), (2, .int 3)]) hx hb dX16_word_54 rfl hl (by decide) rfl (fun ls hl => ?_)
  refine lv_iconst (v := 0) hx hb dX16_word_55 (by decide) ?_
  refine lv_istore (lv' := [(4, .int 0), (3, .ref q5), (0, .ref h0), (1, .int x0), (2, .int 3)]) hx hb dX16_word_56 hl (by decide) rfl (fun ls hl => ?_)
  refine lv_iload hx hb dX16_word_58 (lv_at hl 0 rfl) ?_
  refine lv_iload_n hx hb dX16_word_60 rfl (lv_at hl 4 rfl) ?_
  refine lv_icmp_ge (tgt := 80) hx hb dX16_word_61 (by decide) (fun c8 => absurd c8 (by decide)) (fun c8 => ?_)
  refine lv_aload_n hx hb dX16_word_64 rfl (lv_at hl 1 rfl) ?_
  refine lv_bipush (v := 97) hx hb dX16_word_65 (by decide) ?_
  refine lv_iload_n hx hb dX16_word_67 rfl (lv_at hl 3 rfl) ?_
  refine lv_iadd hx hb dX16_word_68 ?_
  have r9 : (97 + x0).toInt = (97 : Int) + x0.toInt := fb_addI (show (-2147483648 : Int) ≤ (97 : Int) + x0.toInt by omega) (show (97 : Int) + x0.toInt < (2147483648 : Int) by omega)
  refine lv_i2c (v := (97 + x0)) hx hb dX16_word_69 (ns_i2c (show (0 : Int) ≤ (97 + x0).toInt by omega) (by omega)) ?_
  have hPc := hP.sub (ws' := [(q5, .inr (1, [.ref q6, .int 0, .int 0, .int 0])), (q6, .inl (cy7, 16, .inl (fun _ => 0)))]) [2, 3] rfl
  have hDc := hD.sub (ws' := [(q5, .inr (1, [.ref q6, .int 0, .int 0, .int 0])), (q6, .inl (cy7, 16, .inl (fun _ => 0)))]) [2, 3] (by decide) rfl
  have hKc := hK.sub (tys' := [(cy7, .byte)]) [0] rfl
  have hFc := va_free (wc := [(q5, .inr (1, [.ref q6, .int 0, .int 0, .int 0])), (q6, .inl (cy7, 16, .inl (fun _ => 0)))]) hD hS hA [2, 3] rfl
  refine va_callr (va_runV (As := [.int (97 + x0)]) (rest := []) ⟨hx, hb, hml, hown, hts⟩ (kJ4_append_cf468 l dC dI g H.size q5 (97 + x0) q6 (.int 0) cy7 (fun _ => 0) sb_fit0 ⟨by omega, by omega⟩) (cwV 1 hts (ns_gp (List.forall_mem_cons.mpr ⟨wm397, (List.forall_mem_cons.mpr ⟨wm398, (List.forall_mem_cons.mpr ⟨wm399, (List.forall_mem_cons.mpr ⟨wm137, (fun _ h9 => nomatch h9)⟩)⟩)⟩)⟩) wm310) rfl rfl rfl (by decide +kernel) ⟨Nat.le_of_ble_eq_true rfl, Nat.le_of_ble_eq_true rfl⟩) ⟨fun a U gg mk q => by obtain ⟨q0, q1, qP, qK, qD, qF⟩ := q; exact ⟨q0, q1, qP, va_K.moved (u := U) (U := U.calling gg mk a) (Vm.Alike.refl U.vm) qK, qD, ns_same qF⟩, va_recv hK hP (ci := 1) (q0 := 2) rfl rfl, fun U hU hW => ⟨rfl, by rw [hU], by rw [hU]; exact hPc, va_K.moved hW.alike hKc, hDc.weaken (fun _ _ _ _ => trivial), ns_call hF hS hFc hU hW⟩⟩ rfl rfl hl.1 rfl (lv_room (Nat.le_of_ble_eq_true rfl)) dX16_word_70 ⟨Nat.le_of_ble_eq_true rfl, Nat.le_of_ble_eq_true rfl⟩) hS (fun q _ h => hFc q h) hFc (fun u r9 t H1 locs ht hvm hw hB hz1 hk1 hS => ?_)
  obtain ⟨hr9, hP1, hK1, hD1⟩ := hB
  obtain rfl := hr9.symm
  rw [ht] at hP1
  have hK1 := va_K.moved hvm.symm hK1
  obtain ⟨hP, hD⟩ := va_join (wr := [(h1, .inr (6, [.int 0, .ref (g 0), .int 0])), (h0, .inr (23, [.int 0, .ref h1, v1, v2, v3, v4, v5, v6, .int 0]))]) (w1 := [(q6, .inl (cy7, 16, .inl (upd ((fun _ => 0)) 0 (vp_nar .byte (97 + x0).toInt8.toInt32)))), (q5, .inr (1, [.ref q6, .int 0, .int 0, .int 1]))]) hP hD [2, 3] [0, 1] rfl rfl (by decide) (by decide) hk1 hFc hP1 hD1
  have hK := (hK.sub (tys' := []) [] rfl).app hK1
  generalize H1 = H at hP hS ⊢
  have hP : va_P (dC, dI) vwCl [(h1, .inr (6, [.int 0, .ref (g 0), .int 0])), (h0, .inr (23, [.int 0, .ref h1, v1, v2, v3, v4, v5, v6, .int 0])), (q6, .inl (cy7, 16, .inl (upd ((fun _ => 0)) 0 (vp_nar .byte (97 + x0).toInt8.toInt32)))), (q5, .inr (1, [.ref q6, .int 0, .int 0, .int 1]))] H := hP
  have hD : va_D A [(h1, .inr (6, [.int 0, .ref (g 0), .int 0])), (h0, .inr (23, [.int 0, .ref h1, v1, v2, v3, v4, v5, v6, .int 0])), (q6, .inl (cy7, 16, .inl (upd ((fun _ => 0)) 0 (vp_nar .byte (97 + x0).toInt8.toInt32)))), (q5, .inr (1, [.ref q6, .int 0, .int 0, .int 1]))] := hD
  have hK : va_K (dC, dI) vwCl [(cy7, .byte)] s := hK
  refine W.widen (k := 2) (n := 20) (Nat.le_of_ble_eq_true rfl) (Nat.le_of_ble_eq_true rfl) ?_
  refine lv_pop hx hb dX16_word_73 rfl ?_
  refine lv_iinc (v := 1) (lv' := [(4, .int 1), (3, .ref q5), (0, .ref h0), (1, .int x0), (2, .int 3)]) hx hb dX16_word_74 hl (k := 0) rfl (by decide) (by decide) rfl (fun ls hl => ?_)
  refine lv_goto (tgt := 58) hx hb dX16_word_77 (by decide) ?_
  refine lv_iload hx hb dX16_word_58 (lv_at hl 0 rfl) ?_
  refine lv_iload_n hx hb dX16_word_60 rfl (lv_at hl 4 rfl) ?_
  refine lv_icmp_ge (tgt := 80) hx hb dX16_word_61 (by decide) (fun c10 => absurd c10 (by decide)) (fun c10 => ?_)
  refine lv_aload_n hx hb dX16_word_64 rfl (lv_at hl 1 rfl) ?_
  refine lv_bipush (v := 97) hx hb dX16_word_65 (by decide) ?_
  refine lv_iload_n hx hb dX16_word_67 rfl (lv_at hl 3 rfl) ?_
  refine lv_iadd hx hb dX16_word_68 ?_
  have r11 : (97 + x0).toInt = (97 : Int) + x0.toInt := fb_addI (show (-2147483648 : Int) ≤ (97 : Int) + x0.toInt by omega) (show (97 : Int) + x0.toInt < (2147483648 : Int) by omega)
  refine lv_i2c (v := (97 + x0)) hx hb dX16_word_69 (ns_i2c (show (0 : Int) ≤ (97 + x0).toInt by omega) (by omega)) ?_
  have hPc := hP.sub (ws' := [(q5, .inr (1, [.ref q6, .int 0, .int 0, .int 1])), (q6, .inl (cy7, 16, .inl (upd ((fun _ => 0)) 0 (vp_nar .byte (97 + x0).toInt8.toInt32))))]) [3, 2] rfl
  have hDc := hD.sub (ws' := [(q5, .inr (1, [.ref q6, .int 0, .int 0, .int 1])), (q6, .inl (cy7, 16, .inl (upd ((fun _ => 0)) 0 (vp_nar .byte (97 + x0).toInt8.toInt32))))]) [3, 2] (by decide) rfl
  have hKc := hK.sub (tys' := [(cy7, .byte)]) [0] rfl
  have hFc := va_free (wc := [(q5, .inr (1, [.ref q6, .int 0, .int 0, .int 1])), (q6, .inl (cy7, 16, .inl (upd ((fun _ => 0)) 0 (vp_nar .byte (97 + x0).toInt8.toInt32))))]) hD hS hA [3, 2] rfl
  refine va_callr (va_runV (As := [.int (97 + x0)]) (rest := []) ⟨hx, hb, hml, hown, hts⟩ (kJ4_append_cf468_2 l dC dI g H.size q5 (97 + x0) q6 (.int 0) cy7 (upd ((fun _ => 0)) 0 (vp_nar .byte (97 + x0).toInt8.toInt32)) (sb_fitU sb_fit0 (pk_fb _)) ⟨by omega, by omega⟩) (cwV 1 hts (ns_gp (List.forall_mem_cons.mpr ⟨wm397, (List.forall_mem_cons.mpr ⟨wm398, (List.forall_mem_cons.mpr ⟨wm399, (List.forall_mem_cons.mpr ⟨wm137, (fun _ h9 => nomatch h9)⟩)⟩)⟩)⟩) wm310) rfl rfl rfl (by decide +kernel) ⟨Nat.le_of_ble_eq_true rfl, Nat.le_of_ble_eq_true rfl⟩) ⟨fun a U gg mk q => by obtain ⟨q0, q1, qP, qK, qD, qF⟩ := q; exact ⟨q0, q1, qP, va_K.moved (u := U) (U := U.calling gg mk a) (Vm.Alike.refl U.vm) qK, qD, ns_same qF⟩, va_recv hK hP (ci := 1) (q0 := 3) rfl rfl, fun U hU hW => ⟨rfl, by rw [hU], by rw [hU]; exact hPc, va_K.moved hW.alike hKc, hDc.weaken (fun _ _ _ _ => trivial), ns_call hF hS hFc hU hW⟩⟩ rfl rfl hl.1 rfl (lv_room (Nat.le_of_ble_eq_true rfl)) dX16_word_70 ⟨Nat.le_of_ble_eq_true rfl, Nat.le_of_ble_eq_true rfl⟩) hS (fun q _ h => hFc q h) hFc (fun u r9 t H1 locs ht hvm hw hB hz1 hk1 hS => ?_)
  obtain ⟨hr9, hP1, hK1, hD1⟩ := hB
  obtain rfl := hr9.symm
  rw [ht] at hP1
  have hK1 := va_K.moved hvm.symm hK1
  obtain ⟨hP, hD⟩ := va_join (wr := [(h1, .inr (6, [.int 0, .ref (g 0), .int 0])), (h0, .inr (23, [.int 0, .ref h1, v1, v2, v3, v4, v5, v6, .int 0]))]) (w1 := [(q6, .inl (cy7, 16, .inl (upd ((upd ((fun _ => 0)) 0 (vp_nar .byte (97 + x0).toInt8.toInt32))) 1 (vp_nar .byte (97 + x0).toInt8.toInt32)))), (q5, .inr (1, [.ref q6, .int 0, .int 0, .int 2]))]) hP hD [3, 2] [0, 1] rfl rfl (by decide) (by decide) hk1 hFc hP1 hD1
  have hK := (hK.sub (tys' := []) [] rfl).app hK1
  generalize H1 = H at hP hS ⊢
  have hP : va_P (dC, dI) vwCl [(h1, .inr (6, [.int 0, .ref (g 0), .int 0])), (h0, .inr (23, [.int 0, .ref h1, v1, v2, v3, v4, v5, v6, .int 0])), (q6, .inl (cy7, 16, .inl (upd ((upd ((fun _ => 0)) 0 (vp_nar .byte (97 + x0).toInt8.toInt32))) 1 (vp_nar .byte (97 + x0).toInt8.toInt32)))), (q5, .inr (1, [.ref q6, .int 0, .int 0, .int 2]))] H := hP
  have hD : va_D A [(h1, .inr (6, [.int 0, .ref (g 0), .int 0])), (h0, .inr (23, [.int 0, .ref h1, v1, v2, v3, v4, v5, v6, .int 0])), (q6, .inl (cy7, 16, .inl (upd ((upd ((fun _ => 0)) 0 (vp_nar .byte (97 + x0).toInt8.toInt32))) 1 (vp_nar .byte (97 + x0).toInt8.toInt32)))), (q5, .inr (1, [.ref q6, .int 0, .int 0, .int 2]))] := hD
  have hK : va_K (dC, dI) vwCl [(cy7, .byte)] s := hK
  refine W.widen (k := 2) (n := 20) (Nat.le_of_ble_eq_true rfl) (Nat.le_of_ble_eq_true rfl) ?_
  refine lv_pop hx hb dX16_word_73 rfl ?_
  refine lv_iinc (v := 2) (lv' := [(4, .int 2), (3, .ref q5), (0, .ref h0), (1, .int x0), (2, .int 3)]) hx hb dX16_word_74 hl (k := 0) rfl (by decide) (by decide) rfl (fun ls hl => ?_)
  refine lv_goto (tgt := 58) hx hb dX16_word_77 (by decide) ?_
  refine lv_iload hx hb dX16_word_58 (lv_at hl 0 rfl) ?_
  refine lv_iload_n hx hb dX16_word_60 rfl (lv_at hl 4 rfl) ?_
  refine lv_icmp_ge (tgt := 80) hx hb dX16_word_61 (by decide) (fun c12 => absurd c12 (by decide)) (fun c12 => ?_)
  refine lv_aload_n hx hb dX16_word_64 rfl (lv_at hl 1 rfl) ?_
  refine lv_bipush (v := 97) hx hb dX16_word_65 (by decide) ?_
  refine lv_iload_n hx hb dX16_word_67 rfl (lv_at hl 3 rfl) ?_
  refine lv_iadd hx hb dX16_word_68 ?_
  have r13 : (97 + x0).toInt = (97 : Int) + x0.toInt := fb_addI (show (-2147483648 : Int) ≤ (97 : Int) + x0.toInt by omega) (show (97 : Int) + x0.toInt < (2147483648 : Int) by omega)
  refine lv_i2c (v := (97 + x0)) hx hb dX16_word_69 (ns_i2c (show (0 : Int) ≤ (97 + x0).toInt by omega) (by omega)) ?_
  have hPc := hP.sub (ws' := [(q5, .inr (1, [.ref q6, .int 0, .int 0, .int 2])), (q6, .inl (cy7, 16, .inl (upd ((upd ((fun _ => 0)) 0 (vp_nar .byte (97 + x0).toInt8.toInt32))) 1 (vp_nar .byte (97 + x0).toInt8.toInt32))))]) [3, 2] rfl
  have hDc := hD.sub (ws' := [(q5, .inr (1, [.ref q6, .int 0, .int 0, .int 2])), (q6, .inl (cy7, 16, .inl (upd ((upd ((fun _ => 0)) 0 (vp_nar .byte (97 + x0).toInt8.toInt32))) 1 (vp_nar .byte (97 + x0).toInt8.toInt32))))]) [3, 2] (by decide) rfl
  have hKc := hK.sub (tys' := [(cy7, .byte)]) [0] rfl
  have hFc := va_free (wc := [(q5, .inr (1, [.ref q6, .int 0, .int 0, .int 2])), (q6, .inl (cy7, 16, .inl (upd ((upd ((fun _ => 0)) 0 (vp_nar .byte (97 + x0).toInt8.toInt32))) 1 (vp_nar .byte (97 + x0).toInt8.toInt32))))]) hD hS hA [3, 2] rfl
  refine va_callr (va_runV (As := [.int (97 + x0)]) (rest := []) ⟨hx, hb, hml, hown, hts⟩ (kJ4_append_cf468_3 l dC dI g H.size q5 (97 + x0) q6 (.int 0) cy7 (upd ((upd ((fun _ => 0)) 0 (vp_nar .byte (97 + x0).toInt8.toInt32))) 1 (vp_nar .byte (97 + x0).toInt8.toInt32)) (sb_fitU (sb_fitU sb_fit0 (pk_fb _)) (pk_fb _)) ⟨by omega, by omega⟩) (cwV 1 hts (ns_gp (List.forall_mem_cons.mpr ⟨wm397, (List.forall_mem_cons.mpr ⟨wm398, (List.forall_mem_cons.mpr ⟨wm399, (List.forall_mem_cons.mpr ⟨wm137, (fun _ h9 => nomatch h9)⟩)⟩)⟩)⟩) wm310) rfl rfl rfl (by decide +kernel) ⟨Nat.le_of_ble_eq_true rfl, Nat.le_of_ble_eq_true rfl⟩) ⟨fun a U gg mk q => by obtain ⟨q0, q1, qP, qK, qD, qF⟩ := q; exact ⟨q0, q1, qP, va_K.moved (u := U) (U := U.calling gg mk a) (Vm.Alike.refl U.vm) qK, qD, ns_same qF⟩, va_recv hK hP (ci := 1) (q0 := 3) rfl rfl, fun U hU hW => ⟨rfl, by rw [hU], by rw [hU]; exact hPc, va_K.moved hW.alike hKc, hDc.weaken (fun _ _ _ _ => trivial), ns_call hF hS hFc hU hW⟩⟩ rfl rfl hl.1 rfl (lv_room (Nat.le_of_ble_eq_true rfl)) dX16_word_70 ⟨Nat.le_of_ble_eq_true rfl, Nat.le_of_ble_eq_true rfl⟩) hS (fun q _ h => hFc q h) hFc (fun u r9 t H1 locs ht hvm hw hB hz1 hk1 hS => ?_)
  obtain ⟨hr9, hP1, hK1, hD1⟩ := hB
  obtain rfl := hr9.symm
  rw [ht] at hP1
  have hK1 := va_K.moved hvm.symm hK1
  obtain ⟨hP, hD⟩ := va_join (wr := [(h1, .inr (6, [.int 0, .ref (g 0), .int 0])), (h0, .inr (23, [.int 0, .ref h1, v1, v2, v3, v4, v5, v6, .int 0]))]) (w1 := [(q6, .inl (cy7, 16, .inl (upd ((upd ((upd ((fun _ => 0)) 0 (vp_nar .byte (97 + x0).toInt8.toInt32))) 1 (vp_nar .byte (97 + x0).toInt8.toInt32))) 2 (vp_nar .byte (97 + x0).toInt8.toInt32)))), (q5, .inr (1, [.ref q6, .int 0, .int 0, .int 3]))]) hP hD [3, 2] [0, 1] rfl rfl (by decide) (by decide) hk1 hFc hP1 hD1
  have hK := (hK.sub (tys' := []) [] rfl).app hK1
  generalize H1 = H at hP hS ⊢
  have hP : va_P (dC, dI) vwCl [(h1, .inr (6, [.int 0, .ref (g 0), .int 0])), (h0, .inr (23, [.int 0, .ref h1, v1, v2, v3, v4, v5, v6, .int 0])), (q6, .inl (cy7, 16, .inl (upd ((upd ((upd ((fun _ => 0)) 0 (vp_nar .byte (97 + x0).toInt8.toInt32))) 1 (vp_nar .byte (97 + x0).toInt8.toInt32))) 2 (vp_nar .byte (97 + x0).toInt8.toInt32)))), (q5, .inr (1, [.ref q6, .int 0, .int 0, .int 3]))] H := hP
  have hD : va_D A [(h1, .inr (6, [.int 0, .ref (g 0), .int 0])), (h0, .inr (23, [.int 0, .ref h1, v1, v2, v3, v4, v5, v6, .int 0])), (q6, .inl (cy7, 16, .inl (upd ((upd ((upd ((fun _ => 0)) 0 (vp_nar .byte (97 + x0).toInt8.toInt32))) 1 (vp_nar .byte (97 + x0).toInt8.toInt32))) 2 (vp_nar .byte (97 + x0).toInt8.toInt32)))), (q5, .inr (1, [.ref q6, .int 0, .int 0, .int 3]))] := hD
  have hK : va_K (dC, dI) vwCl [(cy7, .byte)] s := hK
  refine W.widen (k := 2) (n := 20) (Nat.le_of_ble_eq_true rfl) (Nat.le_of_ble_eq_true rfl) ?_
  refine lv_pop hx hb dX16_word_73 rfl ?_
  refine lv_iinc (v := 3) (lv' := [(4, .int 3), (3, .ref q5), (0, .ref h0), (1, .int x0), (2, .int 3)]) hx hb dX16_word_74 hl (k := 0) rfl (by decide) (by decide) rfl (fun ls hl => ?_)
  refine lv_goto (tgt := 58) hx hb dX16_word_77 (by decide) ?_
  refine lv_iload hx hb dX16_word_58 (lv_at hl 0 rfl) ?_
  refine lv_iload_n hx hb dX16_word_60 rfl (lv_at hl 4 rfl) ?_
  refine lv_icmp_ge (tgt := 80) hx hb dX16_word_61 (by decide) (fun c14 => ?_) (fun c14 => absurd (by decide) c14)
  refine lv_aload_n hx hb dX16_word_80 rfl (lv_at hl 2 rfl) ?_
  refine va_new (ci := 18) (fs := [.int 0, .null, .int 0, .null]) (C := RX11) (T := TX11) (N := 4) hx hb hta naX11 tyX11 tyX11_ok hown (hta _ wm311) (hta _ wm312) (hta _ wm313) hK hP hD hS hA rfl (fun j hj => by rcases (show j = 0 ∨ j = 1 ∨ j = 2 ∨ j = 3 by omega) with rfl | rfl | rfl | rfl <;> rfl) (Nat.le_of_ble_eq_true rfl) (Nat.le_of_ble_eq_true rfl) dX16_word_81 (fun q15 H hP hD hS => ?_)
  have hP : va_P (dC, dI) vwCl [(h1, .inr (6, [.int 0, .ref (g 0), .int 0])), (h0, .inr (23, [.int 0, .ref h1, v1, v2, v3, v4, v5, v6, .int 0])), (q6, .inl (cy7, 16, .inl (upd ((upd ((upd ((fun _ => 0)) 0 (vp_nar .byte (97 + x0).toInt8.toInt32))) 1 (vp_nar .byte (97 + x0).toInt8.toInt32))) 2 (vp_nar .byte (97 + x0).toInt8.toInt32)))), (q5, .inr (1, [.ref q6, .int 0, .int 0, .int 3])), (q15, .inr (18, [.int 0, .null, .int 0, .null]))] H := hP
  have hD : va_D A [(h1, .inr (6, [.int 0, .ref (g 0), .int 0])), (h0, .inr (23, [.int 0, .ref h1, v1, v2, v3, v4, v5, v6, .int 0])), (q6, .inl (cy7, 16, .inl (upd ((upd ((upd ((fun _ => 0)) 0 (vp_nar .byte (97 + x0).toInt8.toInt32))) 1 (vp_nar .byte (97 + x0).toInt8.toInt32))) 2 (vp_nar .byte (97 + x0).toInt8.toInt32)))), (q5, .inr (1, [.ref q6, .int 0, .int 0, .int 3])), (q15, .inr (18, [.int 0, .null, .int 0, .null]))] := hD
  refine W.widen (k := 3) (n := 24) (Nat.le_of_ble_eq_true rfl) (Nat.le_of_ble_eq_true rfl) ?_
  refine lv_dup hx hb dX16_word_84 rfl ?_
  refine lv_iconst (v := 0) hx hb dX16_word_85 (by decide) ?_
  refine lv_aload_n hx hb dX16_word_86 rfl (lv_at hl 1 rfl) ?_
  have hPc := hP.sub (ws' := [(q5, .inr (1, [.ref q6, .int 0, .int 0, .int 3])), (q6, .inl (cy7, 16, .inl (upd ((upd ((upd ((fun _ => 0)) 0 (vp_nar .byte (97 + x0).toInt8.toInt32))) 1 (vp_nar .byte (97 + x0).toInt8.toInt32))) 2 (vp_nar .byte (97 + x0).toInt8.toInt32))))]) [3, 2] rfl
  have hDc := hD.sub (ws' := [(q5, .inr (1, [.ref q6, .int 0, .int 0, .int 3])), (q6, .inl (cy7, 16, .inl (upd ((upd ((upd ((fun _ => 0)) 0 (vp_nar .byte (97 + x0).toInt8.toInt32))) 1 (vp_nar .byte (97 + x0).toInt8.toInt32))) 2 (vp_nar .byte (97 + x0).toInt8.toInt32))))]) [3, 2] (by decide) rfl
  have hKc := hK.sub (tys' := [(cy7, .byte)]) [0] rfl
  have hFc := va_free (wc := [(q5, .inr (1, [.ref q6, .int 0, .int 0, .int 3])), (q6, .inl (cy7, 16, .inl (upd ((upd ((upd ((fun _ => 0)) 0 (vp_nar .byte (97 + x0).toInt8.toInt32))) 1 (vp_nar .byte (97 + x0).toInt8.toInt32))) 2 (vp_nar .byte (97 + x0).toInt8.toInt32))))]) hD hS hA [3, 2] rfl
  refine va_callr (va_runV (As := []) (rest := [.int 0, .ref q15, .ref q15, .ref h0]) ⟨hx, hb, hml, hown, hts⟩ (kJ4_toString_0e30d_3 l dC dI g H.size q5 q6 (.int 0) cy7 (upd ((upd ((upd ((fun _ => 0)) 0 (vp_nar .byte (97 + x0).toInt8.toInt32))) 1 (vp_nar .byte (97 + x0).toInt8.toInt32))) 2 (vp_nar .byte (97 + x0).toInt8.toInt32)) (sb_fitU (sb_fitU (sb_fitU sb_fit0 (pk_fb _)) (pk_fb _)) (pk_fb _)) ) (cwV 0 hts (ns_gp (List.forall_mem_cons.mpr ⟨wm400, (List.forall_mem_cons.mpr ⟨wm401, (List.forall_mem_cons.mpr ⟨wm402, (List.forall_mem_cons.mpr ⟨wm137, (fun _ h9 => nomatch h9)⟩)⟩)⟩)⟩) wm360) rfl rfl rfl (by decide +kernel) ⟨Nat.le_of_ble_eq_true rfl, Nat.le_of_ble_eq_true rfl⟩) ⟨fun a U gg mk q => by obtain ⟨q0, q1, qP, qK, qD, qF⟩ := q; exact ⟨q0, q1, qP, va_K.moved (u := U) (U := U.calling gg mk a) (Vm.Alike.refl U.vm) qK, qD, ns_same qF⟩, va_recv hK hP (ci := 1) (q0 := 3) rfl rfl, fun U hU hW => ⟨rfl, by rw [hU], by rw [hU]; exact hPc, va_K.moved hW.alike hKc, hDc.weaken (fun _ _ _ _ => trivial), ns_call hF hS hFc hU hW⟩⟩ rfl rfl hl.1 rfl (lv_room (Nat.le_of_ble_eq_true rfl)) dX16_word_87 ⟨Nat.le_of_ble_eq_true rfl, Nat.le_of_ble_eq_true rfl⟩) hS (fun q _ h => hFc q h) hFc (fun u r9 t H1 locs ht hvm hw hB hz1 hk1 hS => ?_)
  obtain ⟨q16, q17, cy18, hr9, hP1, hK1, hD1⟩ := hB
  obtain rfl := hr9.symm
  rw [ht] at hP1
  have hK1 := va_K.moved hvm.symm hK1
  obtain ⟨hP, hD⟩ := va_join (wr := [(h1, .inr (6, [.int 0, .ref (g 0), .int 0])), (h0, .inr (23, [.int 0, .ref h1, v1, v2, v3, v4, v5, v6, .int 0])), (q15, .inr (18, [.int 0, .null, .int 0, .null]))]) (w1 := [(q16, .inr (0, [.ref q17, .int 0, .int 0, .int 0])), (q5, .inr (1, [.ref q6, .int 0, .int 0, .int 3])), (q6, .inl (cy7, 16, .inl (upd ((upd ((upd ((fun _ => 0)) 0 (vp_nar .byte (97 + x0).toInt8.toInt32))) 1 (vp_nar .byte (97 + x0).toInt8.toInt32))) 2 (vp_nar .byte (97 + x0).toInt8.toInt32)))), (q17, .inl (cy18, 3, .inl (va_cpy ((upd ((upd ((upd ((fun _ => 0)) 0 (vp_nar .byte (97 + x0).toInt8.toInt32))) 1 (vp_nar .byte (97 + x0).toInt8.toInt32))) 2 (vp_nar .byte (97 + x0).toInt8.toInt32))) (fun _ => 0) 0 0 3)))]) hP hD [3, 2] [0, 1, 4] rfl rfl (by decide) (by decide) hk1 hFc hP1 hD1
  have hK := (hK.sub (tys' := []) [] rfl).app hK1
  generalize H1 = H at hP hS ⊢
  have hP : va_P (dC, dI) vwCl [(h1, .inr (6, [.int 0, .ref (g 0), .int 0])), (h0, .inr (23, [.int 0, .ref h1, v1, v2, v3, v4, v5, v6, .int 0])), (q15, .inr (18, [.int 0, .null, .int 0, .null])), (q16, .inr (0, [.ref q17, .int 0, .int 0, .int 0])), (q5, .inr (1, [.ref q6, .int 0, .int 0, .int 3])), (q6, .inl (cy7, 16, .inl (upd ((upd ((upd ((fun _ => 0)) 0 (vp_nar .byte (97 + x0).toInt8.toInt32))) 1 (vp_nar .byte (97 + x0).toInt8.toInt32))) 2 (vp_nar .byte (97 + x0).toInt8.toInt32)))), (q17, .inl (cy18, 3, .inl (va_cpy ((upd ((upd ((upd ((fun _ => 0)) 0 (vp_nar .byte (97 + x0).toInt8.toInt32))) 1 (vp_nar .byte (97 + x0).toInt8.toInt32))) 2 (vp_nar .byte (97 + x0).toInt8.toInt32))) (fun _ => 0) 0 0 3)))] H := hP
  have hD : va_D A [(h1, .inr (6, [.int 0, .ref (g 0), .int 0])), (h0, .inr (23, [.int 0, .ref h1, v1, v2, v3, v4, v5, v6, .int 0])), (q15, .inr (18, [.int 0, .null, .int 0, .null])), (q16, .inr (0, [.ref q17, .int 0, .int 0, .int 0])), (q5, .inr (1, [.ref q6, .int 0, .int 0, .int 3])), (q6, .inl (cy7, 16, .inl (upd ((upd ((upd ((fun _ => 0)) 0 (vp_nar .byte (97 + x0).toInt8.toInt32))) 1 (vp_nar .byte (97 + x0).toInt8.toInt32))) 2 (vp_nar .byte (97 + x0).toInt8.toInt32)))), (q17, .inl (cy18, 3, .inl (va_cpy ((upd ((upd ((upd ((fun _ => 0)) 0 (vp_nar .byte (97 + x0).toInt8.toInt32))) 1 (vp_nar .byte (97 + x0).toInt8.toInt32))) 2 (vp_nar .byte (97 + x0).toInt8.toInt32))) (fun _ => 0) 0 0 3)))] := hD
  have hK : va_K (dC, dI) vwCl [(cy7, .byte), (cy18, .byte)] s := hK
  refine W.widen (k := 5) (n := 31) (Nat.le_of_ble_eq_true rfl) (Nat.le_of_ble_eq_true rfl) ?_
  refine lv_iconst (v := 0) hx hb dX16_word_90 (by decide) ?_
  have hPc := hP.sub (ws' := [(q15, .inr (18, [.int 0, .null, .int 0, .null]))]) [2] rfl
  have hDc := hD.sub (ws' := [(q15, .inr (18, [.int 0, .null, .int 0, .null]))]) [2] (by decide) rfl
  have hKc := hK.sub (tys' := []) [] rfl
  have hFc := va_free (wc := [(q15, .inr (18, [.int 0, .null, .int 0, .null]))]) hD hS hA [2] rfl
  refine va_callv (va_runI (As := [.int 0, .ref q16, .int 0]) (rest := [.ref q15, .ref h0]) ⟨hx, hb, hml, hown, hts⟩ (kX11_init l dC dI g H.size q15 q16 (.int 0) .null (.int 0) .null ) (cwI 3 hts (ns_g0 wm368) rfl rfl rfl (hta _ wm313) (hta _ wm403) (hta _ wm404) rfl (by decide +kernel) ⟨Nat.le_of_ble_eq_true rfl, Nat.le_of_ble_eq_true rfl⟩) ⟨fun a U gg mk q => by obtain ⟨q0, q1, qP, qK, qD, qF⟩ := q; exact ⟨q0, q1, qP, va_K.moved (u := U) (U := U.calling gg mk a) (Vm.Alike.refl U.vm) qK, qD, ns_same qF⟩, fun U hU hW => ⟨rfl, by rw [hU], by rw [hU]; exact hPc, va_K.moved hW.alike hKc, hDc.weaken (fun _ _ _ _ => trivial), ns_call hF hS hFc hU hW⟩⟩ rfl rfl hl.1 rfl (lv_room (Nat.le_of_ble_eq_true rfl)) dX16_word_91 ⟨Nat.le_of_ble_eq_true rfl, Nat.le_of_ble_eq_true rfl⟩) hS (fun q _ h => hFc q h) hFc (fun u t H1 locs ht hvm hw hB hz1 hk1 hS => ?_)
  obtain ⟨q19, hP1, hK1, hD1⟩ := hB
  rw [ht] at hP1
  have hK1 := va_K.moved hvm.symm hK1
  obtain ⟨hP, hD⟩ := va_join (wr := [(h1, .inr (6, [.int 0, .ref (g 0), .int 0])), (h0, .inr (23, [.int 0, .ref h1, v1, v2, v3, v4, v5, v6, .int 0])), (q16, .inr (0, [.ref q17, .int 0, .int 0, .int 0])), (q5, .inr (1, [.ref q6, .int 0, .int 0, .int 3])), (q6, .inl (cy7, 16, .inl (upd ((upd ((upd ((fun _ => 0)) 0 (vp_nar .byte (97 + x0).toInt8.toInt32))) 1 (vp_nar .byte (97 + x0).toInt8.toInt32))) 2 (vp_nar .byte (97 + x0).toInt8.toInt32)))), (q17, .inl (cy18, 3, .inl (va_cpy ((upd ((upd ((upd ((fun _ => 0)) 0 (vp_nar .byte (97 + x0).toInt8.toInt32))) 1 (vp_nar .byte (97 + x0).toInt8.toInt32))) 2 (vp_nar .byte (97 + x0).toInt8.toInt32))) (fun _ => 0) 0 0 3)))]) (w1 := [(q15, .inr (18, [.int 0, .ref q16, .int 0, .ref q19])), (q19, .inr (6, [.int 0, .ref (g 0), .int 0]))]) hP hD [2] [0, 1, 3, 4, 5, 6] rfl rfl (by decide) (by decide) hk1 hFc hP1 hD1
  have hK := (hK.sub (tys' := [(cy7, .byte), (cy18, .byte)]) [0, 1] rfl).app hK1
  generalize H1 = H at hP hS ⊢
  have hP : va_P (dC, dI) vwCl [(h1, .inr (6, [.int 0, .ref (g 0), .int 0])), (h0, .inr (23, [.int 0, .ref h1, v1, v2, v3, v4, v5, v6, .int 0])), (q16, .inr (0, [.ref q17, .int 0, .int 0, .int 0])), (q5, .inr (1, [.ref q6, .int 0, .int 0, .int 3])), (q6, .inl (cy7, 16, .inl (upd ((upd ((upd ((fun _ => 0)) 0 (vp_nar .byte (97 + x0).toInt8.toInt32))) 1 (vp_nar .byte (97 + x0).toInt8.toInt32))) 2 (vp_nar .byte (97 + x0).toInt8.toInt32)))), (q17, .inl (cy18, 3, .inl (va_cpy ((upd ((upd ((upd ((fun _ => 0)) 0 (vp_nar .byte (97 + x0).toInt8.toInt32))) 1 (vp_nar .byte (97 + x0).toInt8.toInt32))) 2 (vp_nar .byte (97 + x0).toInt8.toInt32))) (fun _ => 0) 0 0 3))), (q15, .inr (18, [.int 0, .ref q16, .int 0, .ref q19])), (q19, .inr (6, [.int 0, .ref (g 0), .int 0]))] H := hP
  have hD : va_D A [(h1, .inr (6, [.int 0, .ref (g 0), .int 0])), (h0, .inr (23, [.int 0, .ref h1, v1, v2, v3, v4, v5, v6, .int 0])), (q16, .inr (0, [.ref q17, .int 0, .int 0, .int 0])), (q5, .inr (1, [.ref q6, .int 0, .int 0, .int 3])), (q6, .inl (cy7, 16, .inl (upd ((upd ((upd ((fun _ => 0)) 0 (vp_nar .byte (97 + x0).toInt8.toInt32))) 1 (vp_nar .byte (97 + x0).toInt8.toInt32))) 2 (vp_nar .byte (97 + x0).toInt8.toInt32)))), (q17, .inl (cy18, 3, .inl (va_cpy ((upd ((upd ((upd ((fun _ => 0)) 0 (vp_nar .byte (97 + x0).toInt8.toInt32))) 1 (vp_nar .byte (97 + x0).toInt8.toInt32))) 2 (vp_nar .byte (97 + x0).toInt8.toInt32))) (fun _ => 0) 0 0 3))), (q15, .inr (18, [.int 0, .ref q16, .int 0, .ref q19])), (q19, .inr (6, [.int 0, .ref (g 0), .int 0]))] := hD
  have hK : va_K (dC, dI) vwCl [(cy7, .byte), (cy18, .byte)] s := hK
  refine W.widen (k := 6) (n := 34) (Nat.le_of_ble_eq_true rfl) (Nat.le_of_ble_eq_true rfl) ?_
  have hPc := hP.sub (ws' := [(h0, .inr (23, [.int 0, .ref h1, v1, v2, v3, v4, v5, v6, .int 0])), (h1, .inr (6, [.int 0, .ref (g 0), .int 0])), (q15, .inr (18, [.int 0, .ref q16, .int 0, .ref q19]))]) [1, 0, 6] rfl
  have hDc := hD.sub (ws' := [(h0, .inr (23, [.int 0, .ref h1, v1, v2, v3, v4, v5, v6, .int 0])), (h1, .inr (6, [.int 0, .ref (g 0), .int 0])), (q15, .inr (18, [.int 0, .ref q16, .int 0, .ref q19]))]) [1, 0, 6] (by decide) rfl
  have hKc := hK.sub (tys' := []) [] rfl
  have hFc := va_free (wc := [(h0, .inr (23, [.int 0, .ref h1, v1, v2, v3, v4, v5, v6, .int 0])), (h1, .inr (6, [.int 0, .ref (g 0), .int 0])), (q15, .inr (18, [.int 0, .ref q16, .int 0, .ref q19]))]) hD hS hA [1, 0, 6] rfl
  refine va_calli (va_runV (As := [.ref q15]) (rest := []) ⟨hx, hb, hml, hown, hts⟩ (kX16_made l dC dI g H.size h0 q15 h1 (.int 0) v1 v2 v3 v4 v5 v6 (.int 0) (.ref q16) (.int 0) (.ref q19) ) (cwV 1 hts (ns_gp (List.forall_mem_cons.mpr ⟨wm405, (List.forall_mem_cons.mpr ⟨wm406, (List.forall_mem_cons.mpr ⟨wm407, (List.forall_mem_cons.mpr ⟨wm192, (fun _ h9 => nomatch h9)⟩)⟩)⟩)⟩) wm392) rfl rfl rfl (by decide +kernel) ⟨Nat.le_of_ble_eq_true rfl, Nat.le_of_ble_eq_true rfl⟩) ⟨fun a U gg mk q => by obtain ⟨q0, q1, qP, qK, qD, qF⟩ := q; exact ⟨q0, q1, qP, va_K.moved (u := U) (U := U.calling gg mk a) (Vm.Alike.refl U.vm) qK, qD, ns_same qF⟩, va_recv hK hP (ci := 23) (q0 := 1) rfl rfl, fun U hU hW => ⟨rfl, by rw [hU], by rw [hU]; exact hPc, va_K.moved hW.alike hKc, hDc.weaken (fun _ _ _ _ => trivial), ns_call hF hS hFc hU hW⟩⟩ rfl rfl hl.1 rfl (lv_room (Nat.le_of_ble_eq_true rfl)) dX16_word_94 ⟨Nat.le_of_ble_eq_true rfl, Nat.le_of_ble_eq_true rfl⟩) hS (fun q _ h => hFc q h) hFc (fun r9 u t H1 locs ht hvm hw hB hz1 hk1 hS => ?_)
  obtain rfl := hw.symm
  obtain ⟨q20, cy21, hP1, hK1, hD1⟩ := hB
  rw [ht] at hP1
  have hK1 := va_K.moved hvm.symm hK1
  obtain ⟨hP, hD⟩ := va_join (wr := [(q16, .inr (0, [.ref q17, .int 0, .int 0, .int 0])), (q5, .inr (1, [.ref q6, .int 0, .int 0, .int 3])), (q6, .inl (cy7, 16, .inl (upd ((upd ((upd ((fun _ => 0)) 0 (vp_nar .byte (97 + x0).toInt8.toInt32))) 1 (vp_nar .byte (97 + x0).toInt8.toInt32))) 2 (vp_nar .byte (97 + x0).toInt8.toInt32)))), (q17, .inl (cy18, 3, .inl (va_cpy ((upd ((upd ((upd ((fun _ => 0)) 0 (vp_nar .byte (97 + x0).toInt8.toInt32))) 1 (vp_nar .byte (97 + x0).toInt8.toInt32))) 2 (vp_nar .byte (97 + x0).toInt8.toInt32))) (fun _ => 0) 0 0 3))), (q19, .inr (6, [.int 0, .ref (g 0), .int 0]))]) (w1 := [(h0, .inr (23, [.int 0, .ref h1, v1, v2, v3, v4, v5, v6, .int 1])), (q15, .inr (18, [.int 0, .ref q16, .int 0, .ref q19])), (q20, .inl (cy21, 10, .inr (.inr (.inr (.inr (va_up (fun _ => none) 0 (some q15))))))), (h1, .inr (6, [.int 1, .ref q20, .int 1]))]) hP hD [1, 0, 6] [2, 3, 4, 5, 7] rfl rfl (by decide) (by decide) hk1 hFc hP1 hD1
  have hK := (hK.sub (tys' := [(cy7, .byte), (cy18, .byte)]) [0, 1] rfl).app hK1
  generalize H1 = H at hP hS ⊢
  have hP : va_P (dC, dI) vwCl [(q16, .inr (0, [.ref q17, .int 0, .int 0, .int 0])), (q5, .inr (1, [.ref q6, .int 0, .int 0, .int 3])), (q6, .inl (cy7, 16, .inl (upd ((upd ((upd ((fun _ => 0)) 0 (vp_nar .byte (97 + x0).toInt8.toInt32))) 1 (vp_nar .byte (97 + x0).toInt8.toInt32))) 2 (vp_nar .byte (97 + x0).toInt8.toInt32)))), (q17, .inl (cy18, 3, .inl (va_cpy ((upd ((upd ((upd ((fun _ => 0)) 0 (vp_nar .byte (97 + x0).toInt8.toInt32))) 1 (vp_nar .byte (97 + x0).toInt8.toInt32))) 2 (vp_nar .byte (97 + x0).toInt8.toInt32))) (fun _ => 0) 0 0 3))), (q19, .inr (6, [.int 0, .ref (g 0), .int 0])), (h0, .inr (23, [.int 0, .ref h1, v1, v2, v3, v4, v5, v6, .int 1])), (q15, .inr (18, [.int 0, .ref q16, .int 0, .ref q19])), (q20, .inl (cy21, 10, .inr (.inr (.inr (.inr (va_up (fun _ => none) 0 (some q15))))))), (h1, .inr (6, [.int 1, .ref q20, .int 1]))] H := hP
  have hD : va_D A [(q16, .inr (0, [.ref q17, .int 0, .int 0, .int 0])), (q5, .inr (1, [.ref q6, .int 0, .int 0, .int 3])), (q6, .inl (cy7, 16, .inl (upd ((upd ((upd ((fun _ => 0)) 0 (vp_nar .byte (97 + x0).toInt8.toInt32))) 1 (vp_nar .byte (97 + x0).toInt8.toInt32))) 2 (vp_nar .byte (97 + x0).toInt8.toInt32)))), (q17, .inl (cy18, 3, .inl (va_cpy ((upd ((upd ((upd ((fun _ => 0)) 0 (vp_nar .byte (97 + x0).toInt8.toInt32))) 1 (vp_nar .byte (97 + x0).toInt8.toInt32))) 2 (vp_nar .byte (97 + x0).toInt8.toInt32))) (fun _ => 0) 0 0 3))), (q19, .inr (6, [.int 0, .ref (g 0), .int 0])), (h0, .inr (23, [.int 0, .ref h1, v1, v2, v3, v4, v5, v6, .int 1])), (q15, .inr (18, [.int 0, .ref q16, .int 0, .ref q19])), (q20, .inl (cy21, 10, .inr (.inr (.inr (.inr (va_up (fun _ => none) 0 (some q15))))))), (h1, .inr (6, [.int 1, .ref q20, .int 1]))] := hD
  have hK : va_K (dC, dI) vwCl [(cy7, .byte), (cy18, .byte), (cy21, .object "java/lang/Object")] s := hK
  refine W.widen (k := 7) (n := 44) (Nat.le_of_ble_eq_true rfl) (Nat.le_of_ble_eq_true rfl) ?_
  have hP9 := hP.sub (ws' := [(q16, .inr (0, [.ref q17, .int 0, .int 0, .int 0])), (q5, .inr (1, [.ref q6, .int 0, .int 0, .int 3])), (q6, .inl (cy7, 16, .inl (upd ((upd ((upd ((fun _ => 0)) 0 (vp_nar .byte (97 + x0).toInt8.toInt32))) 1 (vp_nar .byte (97 + x0).toInt8.toInt32))) 2 (vp_nar .byte (97 + x0).toInt8.toInt32)))), (q17, .inl (cy18, 3, .inl (va_cpy ((upd ((upd ((upd ((fun _ => 0)) 0 (vp_nar .byte (97 + x0).toInt8.toInt32))) 1 (vp_nar .byte (97 + x0).toInt8.toInt32))) 2 (vp_nar .byte (97 + x0).toInt8.toInt32))) (fun _ => 0) 0 0 3))), (q19, .inr (6, [.int 0, .ref (g 0), .int 0])), (h0, .inr (23, [.int 0, .ref h1, v1, v2, v3, v4, v5, v6, .int 1])), (q15, .inr (18, [.int 0, .ref q16, .int 0, .ref q19])), (q20, .inl (cy21, 10, .inr (.inr (.inr (.inr (va_up (fun _ => none) 0 (some q15))))))), (h1, .inr (6, [.int 1, .ref q20, .int 1]))]) [0, 1, 2, 3, 4, 5, 6, 7, 8] rfl
  have hD9 := hD.sub (ws' := [(q16, .inr (0, [.ref q17, .int 0, .int 0, .int 0])), (q5, .inr (1, [.ref q6, .int 0, .int 0, .int 3])), (q6, .inl (cy7, 16, .inl (upd ((upd ((upd ((fun _ => 0)) 0 (vp_nar .byte (97 + x0).toInt8.toInt32))) 1 (vp_nar .byte (97 + x0).toInt8.toInt32))) 2 (vp_nar .byte (97 + x0).toInt8.toInt32)))), (q17, .inl (cy18, 3, .inl (va_cpy ((upd ((upd ((upd ((fun _ => 0)) 0 (vp_nar .byte (97 + x0).toInt8.toInt32))) 1 (vp_nar .byte (97 + x0).toInt8.toInt32))) 2 (vp_nar .byte (97 + x0).toInt8.toInt32))) (fun _ => 0) 0 0 3))), (q19, .inr (6, [.int 0, .ref (g 0), .int 0])), (h0, .inr (23, [.int 0, .ref h1, v1, v2, v3, v4, v5, v6, .int 1])), (q15, .inr (18, [.int 0, .ref q16, .int 0, .ref q19])), (q20, .inl (cy21, 10, .inr (.inr (.inr (.inr (va_up (fun _ => none) 0 (some q15))))))), (h1, .inr (6, [.int 1, .ref q20, .int 1]))]) [0, 1, 2, 3, 4, 5, 6, 7, 8] (by decide) rfl
  have hK9 := hK.sub (tys' := [(cy7, .byte), (cy18, .byte), (cy21, .object "java/lang/Object")]) [0, 1, 2] rfl
  refine W.widen (k := 7) (n := 44) (Nat.le_of_ble_eq_true rfl) (Nat.le_of_ble_eq_true rfl) ?_
  exact W.iret (v := 0) hx hb hr (fun t ht hW => ⟨⟨_, (), rfl, rfl, q5, q6, cy7, q15, q16, q17, cy18, q19, q20, cy21, by rw [ht]; exact hP9, va_K.moved hW.alike hK9, hD9⟩, hS.F ht⟩) hS.2.2 dX16_word_97
set_option maxHeartbeats 4000000 in
set_option maxRecDepth 100000 in
theorem kX16_said_13 (l : Launch) (dC : Nat → ClassId) (dI : Nat → Nat → Nat) (g : Nat → Nat) (sz : Nat) (h0 : Nat) (x0 : Int32) (h1 : Nat) (v0 : Value) (v1 : Value) (cc0 : ClassId) (f0 : Nat → Int32) (hf0 : sb_Fit f0) (ex0 : (0 : Int) ≤ x0.toInt ∧ x0.toInt ≤ (19 : Int)) : Met l yX16_said wbX16_said ({ frames := 6, cells := 4, slots := 29, locals := 151 }) (va_Pc [.ref h0, .int x0] (fun U => U.heap.size = sz ∧ va_P (dC, dI) vwCl [(h0, .inr (0, [.ref h1, .int 0, v0, v1])), (h1, .inl (cc0, 4, .inl f0))] U.heap ∧ va_K (dC, dI) vwCl [(cc0, .byte)] U ∧ va_D (fun _ => True) [(h0, .inr (0, [.ref h1, .int 0, v0, v1])), (h1, .inl (cc0, 4, .inl f0))] ∧ ns_F g (va_A [(h0, .inr (0, [.ref h1, .int 0, v0, v1])), (h1, .inl (cc0, 4, .inl f0))] sz) U U.heap)) (va_Qr (fun _ : Unit => True) (fun _ r t => ∃ k0 : Nat, ∃ k1 : Nat, ∃ kc2 : ClassId, ∃ k3 : Nat, ∃ k4 : Nat, ∃ kc5 : ClassId, r = k3 ∧ va_P (dC, dI) vwCl [(h1, .inl (cc0, 4, .inl f0)), (h0, .inr (0, [.ref h1, .int 0, v0, v1])), (k3, .inr (0, [.ref k4, .int 0, .int 0, .int 0])), (k0, .inr (1, [.ref k1, .int 0, .int 0, .int 5])), (k1, .inl (kc2, 16, .inl (upd ((va_cpy (f0) ((fun _ => 0)) 0 0 4)) 4 (vp_nar .byte (ns_ch x0).toInt8.toInt32)))), (k4, .inl (kc5, 5, .inl (va_cpy ((upd ((va_cpy (f0) ((fun _ => 0)) 0 0 4)) 4 (vp_nar .byte (ns_ch x0).toInt8.toInt32))) (fun _ => 0) 0 0 5)))] t.heap ∧ va_K (dC, dI) vwCl [(cc0, .byte), (kc2, .byte), (kc5, .byte)] t ∧ va_D (va_A [(h0, .inr (0, [.ref h1, .int 0, v0, v1])), (h1, .inl (cc0, 4, .inl f0))] sz) [(h1, .inl (cc0, 4, .inl f0)), (h0, .inr (0, [.ref h1, .int 0, v0, v1])), (k3, .inr (0, [.ref k4, .int 0, .int 0, .int 0])), (k0, .inr (1, [.ref k1, .int 0, .int 0, .int 5])), (k1, .inl (kc2, 16, .inl (upd ((va_cpy (f0) ((fun _ => 0)) 0 0 4)) 4 (vp_nar .byte (ns_ch x0).toInt8.toInt32)))), (k4, .inl (kc5, 5, .inl (va_cpy ((upd ((va_cpy (f0) ((fun _ => 0)) 0 0 4)) 4 (vp_nar .byte (ns_ch x0).toInt8.toInt32))) (fun _ => 0) 0 0 5)))]) (va_A [(h0, .inr (0, [.ref h1, .int 0, v0, v1])), (h1, .inl (cc0, 4, .inl f0))] sz)) 4 29 (va_A [(h0, .inr (0, [.ref h1, .int 0, v0, v1])), (h1, .inl (cc0, 4, .inl f0))] sz) := by
  refine Met.ofW (cc := cX16_said) (maxL := 2) (ret := (some (.object "java/lang/String"))) (by decide) rfl ?_
  intro p e s m args below meth c s₁ B hml hv
  obtain ⟨rfl, hsz, hP, hK, hD0, hF⟩ := hv
  have hx := B.exec
  have hb := B.bytes
  have hr := B.returns
  have hts := atoms_spec (ws := wbX16_said) B.pre
  have hta : ∀ w ∈ wsALL, w.before _ s = true := fun w h => hts w (List.mem_cons_of_mem _ h)
  have hown : s.vm.findClass RX16 = some m.cls := findClass_of_methodNamed B.named
  have hlocks := B.notSynchronized
  subst hsz
  have hD := hD0.self (sz := s.heap.size)
  generalize hAe : va_A [(h0, .inr (0, [.ref h1, .int 0, v0, v1])), (h1, .inl (cc0, 4, .inl f0))] s.heap.size = A at hD hF ⊢
  have hA : ∀ q : Nat, s.heap.size ≤ q → A q := fun q h => by rw [← hAe]; exact Or.inr h
  have hS : va_S A s.heap s.heap [] := va_S.rf
  have hP : va_P (dC, dI) vwCl [(h0, .inr (0, [.ref h1, .int 0, v0, v1])), (h1, .inl (cc0, 4, .inl f0))] s.heap := hP
  have hl := lv_entry ([.ref h0, .int x0]) (n := 2) (Nat.le_of_ble_eq_true rfl)
  rw [lg_entry_eq]
  generalize (lg_sl ([.ref h0, .int x0]) ++ List.replicate (2 - (lg_sl ([.ref h0, .int x0])).length) Slot.unset).toArray = ls at hl ⊢
  have hl : lv_has ls 2 [(0, .ref h0), (1, .int x0)] := hl
  refine lv_iload_n hx hb dX16_said_0 rfl (lv_at hl 1 rfl) ?_
  refine lv_iconst (v := (-1)) hx hb dX16_said_1 (by decide) ?_
  refine lv_icmp_ne (tgt := 7) hx hb dX16_said_2 (by decide) (fun c1 => ?_) (fun c1 => absurd c1 (fun z => absurd (show x0.toInt = (-1 : Int) from congrArg Int32.toInt z) (by omega)))
  refine lv_iload_n hx hb dX16_said_7 rfl (lv_at hl 1 rfl) ?_
  refine lv_bipush (v := 20) hx hb dX16_said_8 (by decide) ?_
  refine lv_icmp_ge (tgt := 37) hx hb dX16_said_10 (by decide) (fun c2 => absurd c2 (fun z => absurd (show (20 : Int) ≤ x0.toInt from Int32.le_iff_toInt_le.mp z) (by omega))) (fun c2 => ?_)
  refine va_new (ci := 1) (fs := [.null, .int 0, .int 0, .int 0]) (C := RJ4) (T := TJ4) (N := 4) hx hb hta naJ4 tyJ4 tyJ4_ok hown (hta _ wm289) (hta _ wm136) (hta _ wm137) hK hP hD hS hA rfl (fun j hj => by rcases (show j = 0 ∨ j = 1 ∨ j = 2 ∨ j = 3 by omega) with rfl | rfl | rfl | rfl <;> rfl) (Nat.le_of_ble_eq_true rfl) (Nat.le_of_ble_eq_true rfl) dX16_said_13 (fun q3 H hP hD hS => ?_)
  have hP : va_P (dC, dI) vwCl [(h0, .inr (0, [.ref h1, .int 0, v0, v1])), (h1, .inl (cc0, 4, .inl f0)), (q3, .inr (1, [.null, .int 0, .int 0, .int 0]))] H := hP
  have hD : va_D A [(h0, .inr (0, [.ref h1, .int 0, v0, v1])), (h1, .inl (cc0, 4, .inl f0)), (q3, .inr (1, [.null, .int 0, .int 0, .int 0]))] := hD
  refine W.widen (k := 1) (n := 4) (Nat.le_of_ble_eq_true rfl) (Nat.le_of_ble_eq_true rfl) ?_
  refine lv_dup hx hb dX16_said_16 rfl ?_
  have hPc := hP.sub (ws' := [(q3, .inr (1, [.null, .int 0, .int 0, .int 0]))]) [2] rfl
  have hDc := hD.sub (ws' := [(q3, .inr (1, [.null, .int 0, .int 0, .int 0]))]) [2] (by decide) rfl
  have hKc := hK.sub (tys' := []) [] rfl
  have hFc := va_free (wc := [(q3, .inr (1, [.null, .int 0, .int 0, .int 0]))]) hD hS hA [2] rfl
  refine va_callv (va_runI (As := []) (rest := [.ref q3]) ⟨hx, hb, hml, hown, hts⟩ (kJ4_init_da8c8 l dC dI g H.size q3 .null (.int 0) (.int 0) (.int 0) ) (cwI 0 hts (ns_g0 wm147) rfl rfl rfl (hta _ wm137) (hta _ wm396) (hta _ wm185) rfl (by decide +kernel) ⟨Nat.le_of_ble_eq_true rfl, Nat.le_of_ble_eq_true rfl⟩) ⟨fun a U gg mk q => by obtain ⟨q0, q1, qP, qK, qD, qF⟩ := q; exact ⟨q0, q1, qP, va_K.moved (u := U) (U := U.calling gg mk a) (Vm.Alike.refl U.vm) qK, qD, ns_same qF⟩, fun U hU hW => ⟨rfl, by rw [hU], by rw [hU]; exact hPc, va_K.moved hW.alike hKc, hDc.weaken (fun _ _ _ _ => trivial), ns_call hF hS hFc hU hW⟩⟩ rfl rfl hl.1 rfl (lv_room (Nat.le_of_ble_eq_true rfl)) dX16_said_17 ⟨Nat.le_of_ble_eq_true rfl, Nat.le_of_ble_eq_true rfl⟩) hS (fun q _ h => hFc q h) hFc (fun u t H1 locs ht hvm hw hB hz1 hk1 hS => ?_)
  obtain ⟨q4, cy5, hP1, hK1, hD1⟩ := hB
  rw [ht] at hP1
  have hK1 := va_K.moved hvm.symm hK1
  obtain ⟨hP, hD⟩ := va_join (wr := [(h0, .inr (0, [.ref h1, .int 0, v0, v1])), (h1, .inl (cc0, 4, .inl f0))]) (w1 := [(q3, .inr (1, [.ref q4, .int 0, .int 0, .int 0])), (q4, .inl (cy5, 16, .inl (fun _ => 0)))]) hP hD [2] [0, 1] rfl rfl (by decide) (by decide) hk1 hFc hP1 hD1
  have hK := (hK.sub (tys' := [(cc0, .byte)]) [0] rfl).app hK1
  generalize H1 = H at hP hS ⊢
  have hP : va_P (dC, dI) vwCl [(h0, .inr (0, [.ref h1, .int 0, v0, v1])), (h1, .inl (cc0, 4, .inl f0)), (q3, .inr (1, [.ref q4, .int 0, .int 0, .int 0])), (q4, .inl (cy5, 16, .inl (fun _ => 0)))] H := hP
  have hD : va_D A [(h0, .inr (0, [.ref h1, .int 0, v0, v1])), (h1, .inl (cc0, 4, .inl f0)), (q3, .inr (1, [.ref q4, .int 0, .int 0, .int 0])), (q4, .inl (cy5, 16, .inl (fun _ => 0)))] := hD
  have hK : va_K (dC, dI) vwCl [(cc0, .byte), (cy5, .byte)] s := hK
  refine W.widen (k := 2) (n := 20) (Nat.le_of_ble_eq_true rfl) (Nat.le_of_ble_eq_true rfl) ?_
  refine lv_aload_n hx hb dX16_said_20 rfl (lv_at hl 0 rfl) ?_
  have hPc := hP.sub (ws' := [(q3, .inr (1, [.ref q4, .int 0, .int 0, .int 0])), (h0, .inr (0, [.ref h1, .int 0, v0, v1])), (h1, .inl (cc0, 4, .inl f0)), (q4, .inl (cy5, 16, .inl (fun _ => 0)))]) [2, 0, 1, 3] rfl
  have hDc := hD.sub (ws' := [(q3, .inr (1, [.ref q4, .int 0, .int 0, .int 0])), (h0, .inr (0, [.ref h1, .int 0, v0, v1])), (h1, .inl (cc0, 4, .inl f0)), (q4, .inl (cy5, 16, .inl (fun _ => 0)))]) [2, 0, 1, 3] (by decide) rfl
  have hKc := hK.sub (tys' := [(cc0, .byte), (cy5, .byte)]) [0, 1] rfl
  have hFc := va_free (wc := [(q3, .inr (1, [.ref q4, .int 0, .int 0, .int 0])), (h0, .inr (0, [.ref h1, .int 0, v0, v1])), (h1, .inl (cc0, 4, .inl f0)), (q4, .inl (cy5, 16, .inl (fun _ => 0)))]) hD hS hA [2, 0, 1, 3] rfl
  refine va_callr (va_runV (As := [.ref h0]) (rest := []) ⟨hx, hb, hml, hown, hts⟩ (kJ4_append_15ec4_5 l dC dI g H.size q3 h0 h1 q4 (.int 0) v0 v1 cc0 f0 hf0 cy5 (fun _ => 0) sb_fit0 ) (cwV 1 hts (ns_gp (List.forall_mem_cons.mpr ⟨wm627, (List.forall_mem_cons.mpr ⟨wm628, (List.forall_mem_cons.mpr ⟨wm629, (List.forall_mem_cons.mpr ⟨wm137, (fun _ h9 => nomatch h9)⟩)⟩)⟩)⟩) wm626) rfl rfl rfl (by decide +kernel) ⟨Nat.le_of_ble_eq_true rfl, Nat.le_of_ble_eq_true rfl⟩) ⟨fun a U gg mk q => by obtain ⟨q0, q1, qP, qK, qD, qF⟩ := q; exact ⟨q0, q1, qP, va_K.moved (u := U) (U := U.calling gg mk a) (Vm.Alike.refl U.vm) qK, qD, ns_same qF⟩, va_recv hK hP (ci := 1) (q0 := 2) rfl rfl, fun U hU hW => ⟨rfl, by rw [hU], by rw [hU]; exact hPc, va_K.moved hW.alike hKc, hDc.weaken (fun _ _ _ _ => trivial), ns_call hF hS hFc hU hW⟩⟩ rfl rfl hl.1 rfl (lv_room (Nat.le_of_ble_eq_true rfl)) dX16_said_21 ⟨Nat.le_of_ble_eq_true rfl, Nat.le_of_ble_eq_true rfl⟩) hS (fun q _ h => hFc q h) hFc (fun u r9 t H1 locs ht hvm hw hB hz1 hk1 hS => ?_)
  obtain ⟨hr9, hP1, hK1, hD1⟩ := hB
  obtain rfl := hr9.symm
  rw [ht] at hP1
  have hK1 := va_K.moved hvm.symm hK1
  obtain ⟨hP, hD⟩ := va_join (wr := []) (w1 := [(q3, .inr (1, [.ref q4, .int 0, .int 0, .int 4])), (h1, .inl (cc0, 4, .inl f0)), (q4, .inl (cy5, 16, .inl (va_cpy (f0) ((fun _ => 0)) 0 0 4))), (h0, .inr (0, [.ref h1, .int 0, v0, v1]))]) hP hD [2, 0, 1, 3] [] rfl rfl (by decide) (by decide) hk1 hFc hP1 hD1
  have hK := (hK.sub (tys' := []) [] rfl).app hK1
  generalize H1 = H at hP hS ⊢
  have hP : va_P (dC, dI) vwCl [(q3, .inr (1, [.ref q4, .int 0, .int 0, .int 4])), (h1, .inl (cc0, 4, .inl f0)), (q4, .inl (cy5, 16, .inl (va_cpy (f0) ((fun _ => 0)) 0 0 4))), (h0, .inr (0, [.ref h1, .int 0, v0, v1]))] H := hP
  have hD : va_D A [(q3, .inr (1, [.ref q4, .int 0, .int 0, .int 4])), (h1, .inl (cc0, 4, .inl f0)), (q4, .inl (cy5, 16, .inl (va_cpy (f0) ((fun _ => 0)) 0 0 4))), (h0, .inr (0, [.ref h1, .int 0, v0, v1]))] := hD
  have hK : va_K (dC, dI) vwCl [(cc0, .byte), (cy5, .byte)] s := hK
  refine W.widen (k := 2) (n := 20) (Nat.le_of_ble_eq_true rfl) (Nat.le_of_ble_eq_true rfl) ?_
  refine va_ldcS hx hb hown (ns_f35 hF) dX16_said_24 ?_
  refine lv_iload_n hx hb dX16_said_26 rfl (lv_at hl 1 rfl) ?_
  have hPc := hP.sub (ws' := []) [] rfl
  have hDc := hD.sub (ws' := []) [] (by decide) rfl
  have hKc := hK.sub (tys' := []) [] rfl
  have hFc := va_free (wc := []) hD hS hA [] rfl
  refine va_calli (va_runV (As := [.int x0]) (rest := [.ref q3]) ⟨hx, hb, hml, hown, hts⟩ (kJ0_charAt_5068e l dC dI g H.size x0 ⟨by omega, by omega⟩) (cwV 1 hts (ns_gp (List.forall_mem_cons.mpr ⟨wm630, (List.forall_mem_cons.mpr ⟨wm598, (List.forall_mem_cons.mpr ⟨wm599, (List.forall_mem_cons.mpr ⟨wm316, (fun _ h9 => nomatch h9)⟩)⟩)⟩)⟩) wm590) rfl rfl rfl (by decide +kernel) ⟨Nat.le_of_ble_eq_true rfl, Nat.le_of_ble_eq_true rfl⟩) ⟨fun a U gg mk q => by obtain ⟨q0, q1, qP, qK, qD, qF⟩ := q; exact ⟨q0, q1, qP, va_K.moved (u := U) (U := U.calling gg mk a) (Vm.Alike.refl U.vm) qK, qD, ns_same qF⟩, va_Orecv (ns_f46 hF) hS, fun U hU hW => ⟨rfl, by rw [hU], by rw [hU]; exact hPc, va_K.moved hW.alike hKc, hDc.weaken (fun _ _ _ _ => trivial), ns_call hF hS hFc hU hW⟩⟩ rfl rfl hl.1 rfl (lv_room (Nat.le_of_ble_eq_true rfl)) dX16_said_27 ⟨Nat.le_of_ble_eq_true rfl, Nat.le_of_ble_eq_true rfl⟩) hS (fun q _ h => hFc q h) hFc (fun r9 u t H1 locs ht hvm hw hB hz1 hk1 hS => ?_)
  obtain rfl := hw.symm
  obtain ⟨hP1, hK1, hD1⟩ := hB
  rw [ht] at hP1
  have hK1 := va_K.moved hvm.symm hK1
  obtain ⟨hP, hD⟩ := va_join (wr := [(q3, .inr (1, [.ref q4, .int 0, .int 0, .int 4])), (h1, .inl (cc0, 4, .inl f0)), (q4, .inl (cy5, 16, .inl (va_cpy (f0) ((fun _ => 0)) 0 0 4))), (h0, .inr (0, [.ref h1, .int 0, v0, v1]))]) (w1 := []) hP hD [] [0, 1, 2, 3] rfl rfl (by decide) (by decide) hk1 hFc hP1 hD1
  have hK := (hK.sub (tys' := [(cc0, .byte), (cy5, .byte)]) [0, 1] rfl).app hK1
  generalize H1 = H at hP hS ⊢
  have hP : va_P (dC, dI) vwCl [(q3, .inr (1, [.ref q4, .int 0, .int 0, .int 4])), (h1, .inl (cc0, 4, .inl f0)), (q4, .inl (cy5, 16, .inl (va_cpy (f0) ((fun _ => 0)) 0 0 4))), (h0, .inr (0, [.ref h1, .int 0, v0, v1]))] H := hP
  have hD : va_D A [(q3, .inr (1, [.ref q4, .int 0, .int 0, .int 4])), (h1, .inl (cc0, 4, .inl f0)), (q4, .inl (cy5, 16, .inl (va_cpy (f0) ((fun _ => 0)) 0 0 4))), (h0, .inr (0, [.ref h1, .int 0, v0, v1]))] := hD
  have hK : va_K (dC, dI) vwCl [(cc0, .byte), (cy5, .byte)] s := hK
  refine W.widen (k := 2) (n := 20) (Nat.le_of_ble_eq_true rfl) (Nat.le_of_ble_eq_true rfl) ?_
  have r6 := ns_ch_rng x0
  have hPc := hP.sub (ws' := [(q3, .inr (1, [.ref q4, .int 0, .int 0, .int 4])), (q4, .inl (cy5, 16, .inl (va_cpy (f0) ((fun _ => 0)) 0 0 4)))]) [0, 2] rfl
  have hDc := hD.sub (ws' := [(q3, .inr (1, [.ref q4, .int 0, .int 0, .int 4])), (q4, .inl (cy5, 16, .inl (va_cpy (f0) ((fun _ => 0)) 0 0 4)))]) [0, 2] (by decide) rfl
  have hKc := hK.sub (tys' := [(cy5, .byte)]) [1] rfl
  have hFc := va_free (wc := [(q3, .inr (1, [.ref q4, .int 0, .int 0, .int 4])), (q4, .inl (cy5, 16, .inl (va_cpy (f0) ((fun _ => 0)) 0 0 4)))]) hD hS hA [0, 2] rfl
  refine va_callr (va_runV (As := [.int (ns_ch x0)]) (rest := []) ⟨hx, hb, hml, hown, hts⟩ (kJ4_append_cf468_14 l dC dI g H.size q3 (ns_ch x0) q4 (.int 0) cy5 (va_cpy (f0) ((fun _ => 0)) 0 0 4) (sb_fitC hf0 sb_fit0) ⟨by omega, by omega⟩) (cwV 1 hts (ns_gp (List.forall_mem_cons.mpr ⟨wm397, (List.forall_mem_cons.mpr ⟨wm398, (List.forall_mem_cons.mpr ⟨wm399, (List.forall_mem_cons.mpr ⟨wm137, (fun _ h9 => nomatch h9)⟩)⟩)⟩)⟩) wm310) rfl rfl rfl (by decide +kernel) ⟨Nat.le_of_ble_eq_true rfl, Nat.le_of_ble_eq_true rfl⟩) ⟨fun a U gg mk q => by obtain ⟨q0, q1, qP, qK, qD, qF⟩ := q; exact ⟨q0, q1, qP, va_K.moved (u := U) (U := U.calling gg mk a) (Vm.Alike.refl U.vm) qK, qD, ns_same qF⟩, va_recv hK hP (ci := 1) (q0 := 0) rfl rfl, fun U hU hW => ⟨rfl, by rw [hU], by rw [hU]; exact hPc, va_K.moved hW.alike hKc, hDc.weaken (fun _ _ _ _ => trivial), ns_call hF hS hFc hU hW⟩⟩ rfl rfl hl.1 rfl (lv_room (Nat.le_of_ble_eq_true rfl)) dX16_said_30 ⟨Nat.le_of_ble_eq_true rfl, Nat.le_of_ble_eq_true rfl⟩) hS (fun q _ h => hFc q h) hFc (fun u r9 t H1 locs ht hvm hw hB hz1 hk1 hS => ?_)
  obtain ⟨hr9, hP1, hK1, hD1⟩ := hB
  obtain rfl := hr9.symm
  rw [ht] at hP1
  have hK1 := va_K.moved hvm.symm hK1
  obtain ⟨hP, hD⟩ := va_join (wr := [(h1, .inl (cc0, 4, .inl f0)), (h0, .inr (0, [.ref h1, .int 0, v0, v1]))]) (w1 := [(q4, .inl (cy5, 16, .inl (upd ((va_cpy (f0) ((fun _ => 0)) 0 0 4)) 4 (vp_nar .byte (ns_ch x0).toInt8.toInt32)))), (q3, .inr (1, [.ref q4, .int 0, .int 0, .int 5]))]) hP hD [0, 2] [1, 3] rfl rfl (by decide) (by decide) hk1 hFc hP1 hD1
  have hK := (hK.sub (tys' := [(cc0, .byte)]) [0] rfl).app hK1
  generalize H1 = H at hP hS ⊢
  have hP : va_P (dC, dI) vwCl [(h1, .inl (cc0, 4, .inl f0)), (h0, .inr (0, [.ref h1, .int 0, v0, v1])), (q4, .inl (cy5, 16, .inl (upd ((va_cpy (f0) ((fun _ => 0)) 0 0 4)) 4 (vp_nar .byte (ns_ch x0).toInt8.toInt32)))), (q3, .inr (1, [.ref q4, .int 0, .int 0, .int 5]))] H := hP
  have hD : va_D A [(h1, .inl (cc0, 4, .inl f0)), (h0, .inr (0, [.ref h1, .int 0, v0, v1])), (q4, .inl (cy5, 16, .inl (upd ((va_cpy (f0) ((fun _ => 0)) 0 0 4)) 4 (vp_nar .byte (ns_ch x0).toInt8.toInt32)))), (q3, .inr (1, [.ref q4, .int 0, .int 0, .int 5]))] := hD
  have hK : va_K (dC, dI) vwCl [(cc0, .byte), (cy5, .byte)] s := hK
  refine W.widen (k := 2) (n := 20) (Nat.le_of_ble_eq_true rfl) (Nat.le_of_ble_eq_true rfl) ?_
  have hPc := hP.sub (ws' := [(q3, .inr (1, [.ref q4, .int 0, .int 0, .int 5])), (q4, .inl (cy5, 16, .inl (upd ((va_cpy (f0) ((fun _ => 0)) 0 0 4)) 4 (vp_nar .byte (ns_ch x0).toInt8.toInt32))))]) [3, 2] rfl
  have hDc := hD.sub (ws' := [(q3, .inr (1, [.ref q4, .int 0, .int 0, .int 5])), (q4, .inl (cy5, 16, .inl (upd ((va_cpy (f0) ((fun _ => 0)) 0 0 4)) 4 (vp_nar .byte (ns_ch x0).toInt8.toInt32))))]) [3, 2] (by decide) rfl
  have hKc := hK.sub (tys' := [(cy5, .byte)]) [1] rfl
  have hFc := va_free (wc := [(q3, .inr (1, [.ref q4, .int 0, .int 0, .int 5])), (q4, .inl (cy5, 16, .inl (upd ((va_cpy (f0) ((fun _ => 0)) 0 0 4)) 4 (vp_nar .byte (ns_ch x0).toInt8.toInt32))))]) hD hS hA [3, 2] rfl
  refine va_callr (va_runV (As := []) (rest := []) ⟨hx, hb, hml, hown, hts⟩ (kJ4_toString_0e30d_5 l dC dI g H.size q3 q4 (.int 0) cy5 (upd ((va_cpy (f0) ((fun _ => 0)) 0 0 4)) 4 (vp_nar .byte (ns_ch x0).toInt8.toInt32)) (sb_fitU (sb_fitC hf0 sb_fit0) (pk_fb _)) ) (cwV 0 hts (ns_gp (List.forall_mem_cons.mpr ⟨wm400, (List.forall_mem_cons.mpr ⟨wm401, (List.forall_mem_cons.mpr ⟨wm402, (List.forall_mem_cons.mpr ⟨wm137, (fun _ h9 => nomatch h9)⟩)⟩)⟩)⟩) wm360) rfl rfl rfl (by decide +kernel) ⟨Nat.le_of_ble_eq_true rfl, Nat.le_of_ble_eq_true rfl⟩) ⟨fun a U gg mk q => by obtain ⟨q0, q1, qP, qK, qD, qF⟩ := q; exact ⟨q0, q1, qP, va_K.moved (u := U) (U := U.calling gg mk a) (Vm.Alike.refl U.vm) qK, qD, ns_same qF⟩, va_recv hK hP (ci := 1) (q0 := 3) rfl rfl, fun U hU hW => ⟨rfl, by rw [hU], by rw [hU]; exact hPc, va_K.moved hW.alike hKc, hDc.weaken (fun _ _ _ _ => trivial), ns_call hF hS hFc hU hW⟩⟩ rfl rfl hl.1 rfl (lv_room (Nat.le_of_ble_eq_true rfl)) dX16_said_33 ⟨Nat.le_of_ble_eq_true rfl, Nat.le_of_ble_eq_true rfl⟩) hS (fun q _ h => hFc q h) hFc (fun u r9 t H1 locs ht hvm hw hB hz1 hk1 hS => ?_)
  obtain ⟨q7, q8, cy9, hr9, hP1, hK1, hD1⟩ := hB
  obtain rfl := hr9.symm
  rw [ht] at hP1
  have hK1 := va_K.moved hvm.symm hK1
  obtain ⟨hP, hD⟩ := va_join (wr := [(h1, .inl (cc0, 4, .inl f0)), (h0, .inr (0, [.ref h1, .int 0, v0, v1]))]) (w1 := [(q7, .inr (0, [.ref q8, .int 0, .int 0, .int 0])), (q3, .inr (1, [.ref q4, .int 0, .int 0, .int 5])), (q4, .inl (cy5, 16, .inl (upd ((va_cpy (f0) ((fun _ => 0)) 0 0 4)) 4 (vp_nar .byte (ns_ch x0).toInt8.toInt32)))), (q8, .inl (cy9, 5, .inl (va_cpy ((upd ((va_cpy (f0) ((fun _ => 0)) 0 0 4)) 4 (vp_nar .byte (ns_ch x0).toInt8.toInt32))) (fun _ => 0) 0 0 5)))]) hP hD [3, 2] [0, 1] rfl rfl (by decide) (by decide) hk1 hFc hP1 hD1
  have hK := (hK.sub (tys' := [(cc0, .byte)]) [0] rfl).app hK1
  generalize H1 = H at hP hS ⊢
  have hP : va_P (dC, dI) vwCl [(h1, .inl (cc0, 4, .inl f0)), (h0, .inr (0, [.ref h1, .int 0, v0, v1])), (q7, .inr (0, [.ref q8, .int 0, .int 0, .int 0])), (q3, .inr (1, [.ref q4, .int 0, .int 0, .int 5])), (q4, .inl (cy5, 16, .inl (upd ((va_cpy (f0) ((fun _ => 0)) 0 0 4)) 4 (vp_nar .byte (ns_ch x0).toInt8.toInt32)))), (q8, .inl (cy9, 5, .inl (va_cpy ((upd ((va_cpy (f0) ((fun _ => 0)) 0 0 4)) 4 (vp_nar .byte (ns_ch x0).toInt8.toInt32))) (fun _ => 0) 0 0 5)))] H := hP
  have hD : va_D A [(h1, .inl (cc0, 4, .inl f0)), (h0, .inr (0, [.ref h1, .int 0, v0, v1])), (q7, .inr (0, [.ref q8, .int 0, .int 0, .int 0])), (q3, .inr (1, [.ref q4, .int 0, .int 0, .int 5])), (q4, .inl (cy5, 16, .inl (upd ((va_cpy (f0) ((fun _ => 0)) 0 0 4)) 4 (vp_nar .byte (ns_ch x0).toInt8.toInt32)))), (q8, .inl (cy9, 5, .inl (va_cpy ((upd ((va_cpy (f0) ((fun _ => 0)) 0 0 4)) 4 (vp_nar .byte (ns_ch x0).toInt8.toInt32))) (fun _ => 0) 0 0 5)))] := hD
  have hK : va_K (dC, dI) vwCl [(cc0, .byte), (cy5, .byte), (cy9, .byte)] s := hK
  refine W.widen (k := 4) (n := 29) (Nat.le_of_ble_eq_true rfl) (Nat.le_of_ble_eq_true rfl) ?_
  have hP9 := hP.sub (ws' := [(h1, .inl (cc0, 4, .inl f0)), (h0, .inr (0, [.ref h1, .int 0, v0, v1])), (q7, .inr (0, [.ref q8, .int 0, .int 0, .int 0])), (q3, .inr (1, [.ref q4, .int 0, .int 0, .int 5])), (q4, .inl (cy5, 16, .inl (upd ((va_cpy (f0) ((fun _ => 0)) 0 0 4)) 4 (vp_nar .byte (ns_ch x0).toInt8.toInt32)))), (q8, .inl (cy9, 5, .inl (va_cpy ((upd ((va_cpy (f0) ((fun _ => 0)) 0 0 4)) 4 (vp_nar .byte (ns_ch x0).toInt8.toInt32))) (fun _ => 0) 0 0 5)))]) [0, 1, 2, 3, 4, 5] rfl
  have hD9 := hD.sub (ws' := [(h1, .inl (cc0, 4, .inl f0)), (h0, .inr (0, [.ref h1, .int 0, v0, v1])), (q7, .inr (0, [.ref q8, .int 0, .int 0, .int 0])), (q3, .inr (1, [.ref q4, .int 0, .int 0, .int 5])), (q4, .inl (cy5, 16, .inl (upd ((va_cpy (f0) ((fun _ => 0)) 0 0 4)) 4 (vp_nar .byte (ns_ch x0).toInt8.toInt32)))), (q8, .inl (cy9, 5, .inl (va_cpy ((upd ((va_cpy (f0) ((fun _ => 0)) 0 0 4)) 4 (vp_nar .byte (ns_ch x0).toInt8.toInt32))) (fun _ => 0) 0 0 5)))]) [0, 1, 2, 3, 4, 5] (by decide) rfl
  have hK9 := hK.sub (tys' := [(cc0, .byte), (cy5, .byte), (cy9, .byte)]) [0, 1, 2] rfl
  refine W.widen (k := 4) (n := 29) (Nat.le_of_ble_eq_true rfl) (Nat.le_of_ble_eq_true rfl) ?_
  exact W.aret (v := .ref q7) hx hb hr (by first | exact Or.inl ⟨_, rfl⟩ | exact Or.inr ⟨_, rfl⟩) (Or.inr ⟨_, rfl⟩) (fun t ht hW => ⟨⟨(), _, rfl, trivial, q3, q4, cy5, q7, q8, cy9, rfl, by rw [ht]; exact hP9, va_K.moved hW.alike hK9, hD9⟩, hS.F ht⟩) hS.2.2 dX16_said_36
set_option maxHeartbeats 4000000 in
set_option maxRecDepth 100000 in
theorem kL_say_7 (l : Launch) (dC : Nat → ClassId) (dI : Nat → Nat → Nat) (g : Nat → Nat) (sz : Nat) (h0 : Nat) (x0 : Int32) (x1 : Int32) (x2 : Int32) (x3 : Int32) (x4 : Int32) (x5 : Int32) (h1 : Nat) (h2 : Nat) (h3 : Nat) (h4 : Nat) (h5 : Nat) (v0 : Value) (v1 : Value) (v2 : Value) (v3 : Value) (v4 : Value) (v5 : Value) (v6 : Value) (v7 : Value) (v8 : Value) (v9 : Value) (v10 : Value) (v11 : Value) (v12 : Value) (v13 : Value) (v14 : Value) (cc0 : ClassId) (cc1 : ClassId) (f0 : Nat → Int32) (v15 : Value) (v16 : Value) (ex0 : (-1 : Int) ≤ x0.toInt ∧ x0.toInt ≤ (21 : Int)) (ex1 : (-1 : Int) ≤ x1.toInt ∧ x1.toInt ≤ (21 : Int)) (ex2 : (-1 : Int) ≤ x2.toInt ∧ x2.toInt ≤ (21 : Int)) (ex3 : (-1 : Int) ≤ x3.toInt ∧ x3.toInt ≤ (21 : Int)) (ex4 : (-1 : Int) ≤ x4.toInt ∧ x4.toInt ≤ (21 : Int)) (ex5 : (-1 : Int) ≤ x5.toInt ∧ x5.toInt ≤ (21 : Int)) : Met l yL_say wbL_say ({ frames := 6, cells := 0, slots := 0, locals := 133 }) (va_Pc [.ref h0, .int x0, .int x1, .int x2, .int x3, .int x4, .int x5, .ref h1] (fun U => U.heap.size = sz ∧ va_P (dC, dI) vwCl [(h0, .inr (16, [v0, .ref h4, .ref h2, v1, v2, v3, v4, v5, v6, v7, v8, v9, v10, v11, v12, v13])), (h2, .inr (11, [.ref h3, v14])), (h3, .inl (cc0, 6, .inl (fun _ => 0))), (h4, .inr (11, [.ref h5, .int 0])), (h5, .inl (cc1, 60, .inl f0)), (h1, .inr (17, [v15, v16]))] U.heap ∧ va_K (dC, dI) vwCl [(cc0, .int), (cc1, .int)] U ∧ va_D (fun _ => True) [(h0, .inr (16, [v0, .ref h4, .ref h2, v1, v2, v3, v4, v5, v6, v7, v8, v9, v10, v11, v12, v13])), (h2, .inr (11, [.ref h3, v14])), (h3, .inl (cc0, 6, .inl (fun _ => 0))), (h4, .inr (11, [.ref h5, .int 0])), (h5, .inl (cc1, 60, .inl f0)), (h1, .inr (17, [v15, v16]))] ∧ ns_F g (va_A [(h0, .inr (16, [v0, .ref h4, .ref h2, v1, v2, v3, v4, v5, v6, v7, v8, v9, v10, v11, v12, v13])), (h2, .inr (11, [.ref h3, v14])), (h3, .inl (cc0, 6, .inl (fun _ => 0))), (h4, .inr (11, [.ref h5, .int 0])), (h5, .inl (cc1, 60, .inl f0)), (h1, .inr (17, [v15, v16]))] sz) U U.heap)) (va_Qi (fun (r : Int32) (_ : Unit) => r = 0) (fun _ t => ∃ kc0 : Nat → Int32, va_P (dC, dI) vwCl [(h1, .inr (17, [.long ((ns_len (ns_len (ns_len (ns_len (ns_len (ns_len 0 x0) x1) x2) x3) x4) x5).toInt64), v16])), (h3, .inl (cc0, 6, .inl (upd (upd (upd (upd (upd (upd (fun _ => 0) 0 x0) 1 x1) 2 x2) 3 x3) 4 x4) 5 x5))), (h0, .inr (16, [v0, .ref h4, .ref h2, v1, v2, v3, v4, v5, v6, v7, v8, v9, v10, v11, v12, v13])), (h5, .inl (cc1, 60, .inl kc0)), (h2, .inr (11, [.ref h3, .int 6])), (h4, .inr (11, [.ref h5, .int (ns_len (ns_len (ns_len (ns_len (ns_len (ns_len 0 x0) x1) x2) x3) x4) x5)]))] t.heap ∧ va_K (dC, dI) vwCl [(cc0, .int), (cc1, .int)] t ∧ va_D (va_A [(h0, .inr (16, [v0, .ref h4, .ref h2, v1, v2, v3, v4, v5, v6, v7, v8, v9, v10, v11, v12, v13])), (h2, .inr (11, [.ref h3, v14])), (h3, .inl (cc0, 6, .inl (fun _ => 0))), (h4, .inr (11, [.ref h5, .int 0])), (h5, .inl (cc1, 60, .inl f0)), (h1, .inr (17, [v15, v16]))] sz) [(h1, .inr (17, [.long ((ns_len (ns_len (ns_len (ns_len (ns_len (ns_len 0 x0) x1) x2) x3) x4) x5).toInt64), v16])), (h3, .inl (cc0, 6, .inl (upd (upd (upd (upd (upd (upd (fun _ => 0) 0 x0) 1 x1) 2 x2) 3 x3) 4 x4) 5 x5))), (h0, .inr (16, [v0, .ref h4, .ref h2, v1, v2, v3, v4, v5, v6, v7, v8, v9, v10, v11, v12, v13])), (h5, .inl (cc1, 60, .inl kc0)), (h2, .inr (11, [.ref h3, .int 6])), (h4, .inr (11, [.ref h5, .int (ns_len (ns_len (ns_len (ns_len (ns_len (ns_len 0 x0) x1) x2) x3) x4) x5)]))]) (va_A [(h0, .inr (16, [v0, .ref h4, .ref h2, v1, v2, v3, v4, v5, v6, v7, v8, v9, v10, v11, v12, v13])), (h2, .inr (11, [.ref h3, v14])), (h3, .inl (cc0, 6, .inl (fun _ => 0))), (h4, .inr (11, [.ref h5, .int 0])), (h5, .inl (cc1, 60, .inl f0)), (h1, .inr (17, [v15, v16]))] sz)) 0 0 (va_A [(h0, .inr (16, [v0, .ref h4, .ref h2, v1, v2, v3, v4, v5, v6, v7, v8, v9, v10, v11, v12, v13])), (h2, .inr (11, [.ref h3, v14])), (h3, .inl (cc0, 6, .inl (fun _ => 0))), (h4, .inr (11, [.ref h5, .int 0])), (h5, .inl (cc1, 60, .inl f0)), (h1, .inr (17, [v15, v16]))] sz) := by
  refine va_MetW (cc := cL_say) (maxL := 9) (ret := (some .int)) (hh := [(0, 19, 22, 19), (0, 19, 26, 21)]) (by decide) rfl ?_
  intro p e s m args below meth c s₁ B hml hv
  obtain ⟨rfl, hsz, hP, hK, hD0, hF⟩ := hv
  have hx := B.exec
  have hb := B.bytes
  have hr := B.returns
  have hts := atoms_spec (ws := wbL_say) B.pre
  have hta : ∀ w ∈ wsALL, w.before _ s = true := fun w h => hts w (List.mem_cons_of_mem _ h)
  have hown : s.vm.findClass RL = some m.cls := findClass_of_methodNamed B.named
  have hlocks := B.notSynchronized
  have htab : c.exceptionTable.toList = [⟨0, 19, 22, 19⟩, ⟨0, 19, 26, 21⟩] := vx_table (x := yL_say) B (hts _ List.mem_cons_self)
  subst hsz
  have hD := hD0.self (sz := s.heap.size)
  generalize hAe : va_A [(h0, .inr (16, [v0, .ref h4, .ref h2, v1, v2, v3, v4, v5, v6, v7, v8, v9, v10, v11, v12, v13])), (h2, .inr (11, [.ref h3, v14])), (h3, .inl (cc0, 6, .inl (fun _ => 0))), (h4, .inr (11, [.ref h5, .int 0])), (h5, .inl (cc1, 60, .inl f0)), (h1, .inr (17, [v15, v16]))] s.heap.size = A at hD hF ⊢
  have hA : ∀ q : Nat, s.heap.size ≤ q → A q := fun q h => by rw [← hAe]; exact Or.inr h
  have hS : va_S A s.heap s.heap [] := va_S.rf
  have hP : va_P (dC, dI) vwCl [(h0, .inr (16, [v0, .ref h4, .ref h2, v1, v2, v3, v4, v5, v6, v7, v8, v9, v10, v11, v12, v13])), (h2, .inr (11, [.ref h3, v14])), (h3, .inl (cc0, 6, .inl (fun _ => 0))), (h4, .inr (11, [.ref h5, .int 0])), (h5, .inl (cc1, 60, .inl f0)), (h1, .inr (17, [v15, v16]))] s.heap := hP
  have hl := lv_entry ([.ref h0, .int x0, .int x1, .int x2, .int x3, .int x4, .int x5, .ref h1]) (n := 9) (Nat.le_of_ble_eq_true rfl)
  rw [lg_entry_eq]
  generalize (lg_sl ([.ref h0, .int x0, .int x1, .int x2, .int x3, .int x4, .int x5, .ref h1]) ++ List.replicate (9 - (lg_sl ([.ref h0, .int x0, .int x1, .int x2, .int x3, .int x4, .int x5, .ref h1])).length) Slot.unset).toArray = ls at hl ⊢
  have hl : lv_has ls 9 [(0, .ref h0), (1, .int x0), (2, .int x1), (3, .int x2), (4, .int x3), (5, .int x4), (6, .int x5), (7, .ref h1)] := hl
  refine lv_aload hx hb dL_say_0 (lv_at hl 7 rfl) ?_
  refine lv_aload_n hx hb dL_say_2 rfl (lv_at hl 0 rfl) ?_
  refine lv_iload_n hx hb dL_say_3 rfl (lv_at hl 1 rfl) ?_
  refine lv_iload_n hx hb dL_say_4 rfl (lv_at hl 2 rfl) ?_
  refine lv_iload_n hx hb dL_say_5 rfl (lv_at hl 3 rfl) ?_
  refine lv_iload hx hb dL_say_6 (lv_at hl 4 rfl) ?_
  refine lv_iload hx hb dL_say_8 (lv_at hl 5 rfl) ?_
  refine lv_iload hx hb dL_say_10 (lv_at hl 6 rfl) ?_
  have hPc := hP.sub (ws' := [(h0, .inr (16, [v0, .ref h4, .ref h2, v1, v2, v3, v4, v5, v6, v7, v8, v9, v10, v11, v12, v13])), (h2, .inr (11, [.ref h3, v14])), (h3, .inl (cc0, 6, .inl (fun _ => 0))), (h4, .inr (11, [.ref h5, .int 0])), (h5, .inl (cc1, 60, .inl f0))]) [0, 1, 2, 3, 4] rfl
  have hDc := hD.sub (ws' := [(h0, .inr (16, [v0, .ref h4, .ref h2, v1, v2, v3, v4, v5, v6, v7, v8, v9, v10, v11, v12, v13])), (h2, .inr (11, [.ref h3, v14])), (h3, .inl (cc0, 6, .inl (fun _ => 0))), (h4, .inr (11, [.ref h5, .int 0])), (h5, .inl (cc1, 60, .inl f0))]) [0, 1, 2, 3, 4] (by decide) rfl
  have hKc := hK.sub (tys' := [(cc0, .int), (cc1, .int)]) [0, 1] rfl
  have hFc := va_free (wc := [(h0, .inr (16, [v0, .ref h4, .ref h2, v1, v2, v3, v4, v5, v6, v7, v8, v9, v10, v11, v12, v13])), (h2, .inr (11, [.ref h3, v14])), (h3, .inl (cc0, 6, .inl (fun _ => 0))), (h4, .inr (11, [.ref h5, .int 0])), (h5, .inl (cc1, 60, .inl f0))]) hD hS hA [0, 1, 2, 3, 4] rfl
  refine va_calli (va_runV (As := [.int x0, .int x1, .int x2, .int x3, .int x4, .int x5]) (rest := [.ref h1]) ⟨hx, hb, hml, hown, hts⟩ (kX9_say_7 l dC dI g s.heap.size h0 x0 x1 x2 x3 x4 x5 h2 h3 h4 h5 v0 v1 v2 v3 v4 v5 v6 v7 v8 v9 v10 v11 v12 v13 v14 cc0 cc1 f0 ⟨by omega, by omega⟩ ⟨by omega, by omega⟩ ⟨by omega, by omega⟩ ⟨by omega, by omega⟩ ⟨by omega, by omega⟩ ⟨by omega, by omega⟩) (cwV 6 hts (ns_gp (List.forall_mem_cons.mpr ⟨wm560, (List.forall_mem_cons.mpr ⟨wm561, (List.forall_mem_cons.mpr ⟨wm562, (List.forall_mem_cons.mpr ⟨wm2, (fun _ h9 => nomatch h9)⟩)⟩)⟩)⟩) wm559) rfl rfl rfl (by decide +kernel) ⟨Nat.le_of_ble_eq_true rfl, Nat.le_of_ble_eq_true rfl⟩) ⟨fun a U gg mk q => by obtain ⟨q0, q1, qP, qK, qD, qF⟩ := q; exact ⟨q0, q1, qP, va_K.moved (u := U) (U := U.calling gg mk a) (Vm.Alike.refl U.vm) qK, qD, ns_same qF⟩, va_recv hK hP (ci := 16) (q0 := 0) rfl rfl, fun U hU hW => ⟨rfl, by rw [hU], by rw [hU]; exact hPc, va_K.moved hW.alike hKc, hDc.weaken (fun _ _ _ _ => trivial), ns_call hF hS hFc hU hW⟩⟩ rfl rfl hl.1 rfl (lv_room (Nat.le_of_ble_eq_true rfl)) dL_say_12 ⟨Nat.le_of_ble_eq_true rfl, Nat.le_of_ble_eq_true rfl⟩) hS (fun q _ h => hFc q h) hFc (fun r9 u t H1 locs ht hvm hw hB hz1 hk1 hS => ?_)
  obtain rfl := hw.symm
  obtain ⟨q1, hP1, hK1, hD1⟩ := hB
  rw [ht] at hP1
  have hK1 := va_K.moved hvm.symm hK1
  obtain ⟨hP, hD⟩ := va_join (wr := [(h1, .inr (17, [v15, v16]))]) (w1 := [(h3, .inl (cc0, 6, .inl (upd (upd (upd (upd (upd (upd (fun _ => 0) 0 x0) 1 x1) 2 x2) 3 x3) 4 x4) 5 x5))), (h0, .inr (16, [v0, .ref h4, .ref h2, v1, v2, v3, v4, v5, v6, v7, v8, v9, v10, v11, v12, v13])), (h5, .inl (cc1, 60, .inl q1)), (h2, .inr (11, [.ref h3, .int 6])), (h4, .inr (11, [.ref h5, .int (ns_len (ns_len (ns_len (ns_len (ns_len (ns_len 0 x0) x1) x2) x3) x4) x5)]))]) hP hD [0, 1, 2, 3, 4] [5] rfl rfl (by decide) (by decide) hk1 hFc hP1 hD1
  have hK := (hK.sub (tys' := []) [] rfl).app hK1
  generalize H1 = H at hP hS ⊢
  have hP : va_P (dC, dI) vwCl [(h1, .inr (17, [v15, v16])), (h3, .inl (cc0, 6, .inl (upd (upd (upd (upd (upd (upd (fun _ => 0) 0 x0) 1 x1) 2 x2) 3 x3) 4 x4) 5 x5))), (h0, .inr (16, [v0, .ref h4, .ref h2, v1, v2, v3, v4, v5, v6, v7, v8, v9, v10, v11, v12, v13])), (h5, .inl (cc1, 60, .inl q1)), (h2, .inr (11, [.ref h3, .int 6])), (h4, .inr (11, [.ref h5, .int (ns_len (ns_len (ns_len (ns_len (ns_len (ns_len 0 x0) x1) x2) x3) x4) x5)]))] H := hP
  have hD : va_D A [(h1, .inr (17, [v15, v16])), (h3, .inl (cc0, 6, .inl (upd (upd (upd (upd (upd (upd (fun _ => 0) 0 x0) 1 x1) 2 x2) 3 x3) 4 x4) 5 x5))), (h0, .inr (16, [v0, .ref h4, .ref h2, v1, v2, v3, v4, v5, v6, v7, v8, v9, v10, v11, v12, v13])), (h5, .inl (cc1, 60, .inl q1)), (h2, .inr (11, [.ref h3, .int 6])), (h4, .inr (11, [.ref h5, .int (ns_len (ns_len (ns_len (ns_len (ns_len (ns_len 0 x0) x1) x2) x3) x4) x5)]))] := hD
  have hK : va_K (dC, dI) vwCl [(cc0, .int), (cc1, .int)] s := hK
  refine W.widen (k := 0) (n := 0) (Nat.le_of_ble_eq_true rfl) (Nat.le_of_ble_eq_true rfl) ?_
  have r8 : (0 : Int) ≤ (ns_len 0 x0).toInt ∧ (ns_len 0 x0).toInt ≤ (1 : Int) := ns_len_rng 0 x0 0 1 ⟨(by decide), (by decide)⟩ (by decide) (by decide)
  have r9 : (0 : Int) ≤ (ns_len (ns_len 0 x0) x1).toInt ∧ (ns_len (ns_len 0 x0) x1).toInt ≤ (2 : Int) := ns_len_rng (ns_len 0 x0) x1 1 2 ⟨(by omega), (by omega)⟩ (by decide) (by decide)
  have r10 : (0 : Int) ≤ (ns_len (ns_len (ns_len 0 x0) x1) x2).toInt ∧ (ns_len (ns_len (ns_len 0 x0) x1) x2).toInt ≤ (3 : Int) := ns_len_rng (ns_len (ns_len 0 x0) x1) x2 2 3 ⟨(by omega), (by omega)⟩ (by decide) (by decide)
  have r11 : (0 : Int) ≤ (ns_len (ns_len (ns_len (ns_len 0 x0) x1) x2) x3).toInt ∧ (ns_len (ns_len (ns_len (ns_len 0 x0) x1) x2) x3).toInt ≤ (4 : Int) := ns_len_rng (ns_len (ns_len (ns_len 0 x0) x1) x2) x3 3 4 ⟨(by omega), (by omega)⟩ (by decide) (by decide)
  have r12 : (0 : Int) ≤ (ns_len (ns_len (ns_len (ns_len (ns_len 0 x0) x1) x2) x3) x4).toInt ∧ (ns_len (ns_len (ns_len (ns_len (ns_len 0 x0) x1) x2) x3) x4).toInt ≤ (5 : Int) := ns_len_rng (ns_len (ns_len (ns_len (ns_len 0 x0) x1) x2) x3) x4 4 5 ⟨(by omega), (by omega)⟩ (by decide) (by decide)
  have r13 : (0 : Int) ≤ (ns_len (ns_len (ns_len (ns_len (ns_len (ns_len 0 x0) x1) x2) x3) x4) x5).toInt ∧ (ns_len (ns_len (ns_len (ns_len (ns_len (ns_len 0 x0) x1) x2) x3) x4) x5).toInt ≤ (6 : Int) := ns_len_rng (ns_len (ns_len (ns_len (ns_len (ns_len 0 x0) x1) x2) x3) x4) x5 5 6 ⟨(by omega), (by omega)⟩ (by decide) (by decide)
  refine lv_i2l (v := (ns_len (ns_len (ns_len (ns_len (ns_len (ns_len 0 x0) x1) x2) x3) x4) x5).toInt64) hx hb dL_say_15 rfl ?_
  refine va_putN (D := (dC, dI)) (ci := 17) (v := .long ((ns_len (ns_len (ns_len (ns_len (ns_len (ns_len 0 x0) x1) x2) x3) x4) x5).toInt64)) (ty := .long) (C := RX10) (T := TX10) (N := 2) hx hb hta naX10 tyX10 tyX10_ok nmX10 hown hK hP hD hS 0 rfl rfl 0 (by decide) (va_Nw.use rfl (ns_f7 hF)) (fun _ h9 => h9) rfl (by decide +kernel) rfl rfl (Nat.le_of_ble_eq_true rfl) dL_say_16 (fun H locs hP hD hS => ?_)
  have hP : va_P (dC, dI) vwCl [(h1, .inr (17, [.long ((ns_len (ns_len (ns_len (ns_len (ns_len (ns_len 0 x0) x1) x2) x3) x4) x5).toInt64), v16])), (h3, .inl (cc0, 6, .inl (upd (upd (upd (upd (upd (upd (fun _ => 0) 0 x0) 1 x1) 2 x2) 3 x3) 4 x4) 5 x5))), (h0, .inr (16, [v0, .ref h4, .ref h2, v1, v2, v3, v4, v5, v6, v7, v8, v9, v10, v11, v12, v13])), (h5, .inl (cc1, 60, .inl q1)), (h2, .inr (11, [.ref h3, .int 6])), (h4, .inr (11, [.ref h5, .int (ns_len (ns_len (ns_len (ns_len (ns_len (ns_len 0 x0) x1) x2) x3) x4) x5)]))] H := hP
  have hD : va_D A [(h1, .inr (17, [.long ((ns_len (ns_len (ns_len (ns_len (ns_len (ns_len 0 x0) x1) x2) x3) x4) x5).toInt64), v16])), (h3, .inl (cc0, 6, .inl (upd (upd (upd (upd (upd (upd (fun _ => 0) 0 x0) 1 x1) 2 x2) 3 x3) 4 x4) 5 x5))), (h0, .inr (16, [v0, .ref h4, .ref h2, v1, v2, v3, v4, v5, v6, v7, v8, v9, v10, v11, v12, v13])), (h5, .inl (cc1, 60, .inl q1)), (h2, .inr (11, [.ref h3, .int 6])), (h4, .inr (11, [.ref h5, .int (ns_len (ns_len (ns_len (ns_len (ns_len (ns_len 0 x0) x1) x2) x3) x4) x5)]))] := hD
  refine lv_goto (tgt := 30) hx hb dL_say_19 (by decide) ?_
  refine lv_iconst (v := 0) hx hb dL_say_30 (by decide) ?_
  have hP9 := hP.sub (ws' := [(h1, .inr (17, [.long ((ns_len (ns_len (ns_len (ns_len (ns_len (ns_len 0 x0) x1) x2) x3) x4) x5).toInt64), v16])), (h3, .inl (cc0, 6, .inl (upd (upd (upd (upd (upd (upd (fun _ => 0) 0 x0) 1 x1) 2 x2) 3 x3) 4 x4) 5 x5))), (h0, .inr (16, [v0, .ref h4, .ref h2, v1, v2, v3, v4, v5, v6, v7, v8, v9, v10, v11, v12, v13])), (h5, .inl (cc1, 60, .inl q1)), (h2, .inr (11, [.ref h3, .int 6])), (h4, .inr (11, [.ref h5, .int (ns_len (ns_len (ns_len (ns_len (ns_len (ns_len 0 x0) x1) x2) x3) x4) x5)]))]) [0, 1, 2, 3, 4, 5] rfl
  have hD9 := hD.sub (ws' := [(h1, .inr (17, [.long ((ns_len (ns_len (ns_len (ns_len (ns_len (ns_len 0 x0) x1) x2) x3) x4) x5).toInt64), v16])), (h3, .inl (cc0, 6, .inl (upd (upd (upd (upd (upd (upd (fun _ => 0) 0 x0) 1 x1) 2 x2) 3 x3) 4 x4) 5 x5))), (h0, .inr (16, [v0, .ref h4, .ref h2, v1, v2, v3, v4, v5, v6, v7, v8, v9, v10, v11, v12, v13])), (h5, .inl (cc1, 60, .inl q1)), (h2, .inr (11, [.ref h3, .int 6])), (h4, .inr (11, [.ref h5, .int (ns_len (ns_len (ns_len (ns_len (ns_len (ns_len 0 x0) x1) x2) x3) x4) x5)]))]) [0, 1, 2, 3, 4, 5] (by decide) rfl
  have hK9 := hK.sub (tys' := [(cc0, .int), (cc1, .int)]) [0, 1] rfl
  refine W.widen (k := 0) (n := 0) (Nat.le_of_ble_eq_true rfl) (Nat.le_of_ble_eq_true rfl) ?_
  exact W.iret (v := 0) hx hb hr (fun t ht hW => ⟨⟨_, (), rfl, rfl, q1, by rw [ht]; exact hP9, va_K.moved hW.alike hK9, hD9⟩, hS.F ht⟩) hS.2.2 dL_say_31
