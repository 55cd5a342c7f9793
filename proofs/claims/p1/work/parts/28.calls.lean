
set_option maxHeartbeats 4000000 in
set_option maxRecDepth 100000 in
theorem kX16_say_12 (l : Launch) (dC : Nat → ClassId) (dI : Nat → Nat → Nat) (g : Nat → Nat) (sz : Nat) (h0 : Nat) (x0 : Int32) (x1 : Int32) (x2 : Int32) (x3 : Int32) (x4 : Int32) (x5 : Int32) (v0 : Value) (v1 : Value) (v2 : Value) (v3 : Value) (v4 : Value) (v5 : Value) (v6 : Value) (v7 : Value) (v8 : Value) (ex0 : (-1 : Int) ≤ x0.toInt ∧ x0.toInt ≤ (21 : Int)) (ex1 : (22 : Int) ≤ x1.toInt ∧ x1.toInt ≤ (2147483647 : Int)) : Met l yX16_say wbX16_say ({ frames := 2, cells := 1, slots := 6, locals := 44 }) (va_Pc [.ref h0, .int x0, .int x1, .int x2, .int x3, .int x4, .int x5] (fun U => U.heap.size = sz ∧ va_P (dC, dI) vwCl [(h0, .inr (23, [v0, v1, v2, v3, v4, v5, v6, v7, v8]))] U.heap ∧ va_K (dC, dI) vwCl [] U ∧ va_D (fun _ => True) [(h0, .inr (23, [v0, v1, v2, v3, v4, v5, v6, v7, v8]))] ∧ ns_F g (va_A [(h0, .inr (23, [v0, v1, v2, v3, v4, v5, v6, v7, v8]))] sz) U U.heap)) (va_Qi (fun (r : Int32) (_ : Unit) => r = 0) (fun _ t => va_P (dC, dI) vwCl [(h0, .inr (23, [.int 1, v1, v2, v3, v4, v5, v6, v7, v8]))] t.heap ∧ va_K (dC, dI) vwCl [] t ∧ va_D (va_A [(h0, .inr (23, [v0, v1, v2, v3, v4, v5, v6, v7, v8]))] sz) [(h0, .inr (23, [.int 1, v1, v2, v3, v4, v5, v6, v7, v8]))]) (va_A [(h0, .inr (23, [v0, v1, v2, v3, v4, v5, v6, v7, v8]))] sz)) 1 6 (va_A [(h0, .inr (23, [v0, v1, v2, v3, v4, v5, v6, v7, v8]))] sz) := by
  refine Met.ofW (cc := cX16_say) (maxL := 14) (ret := (some .int)) (by decide) rfl ?_
  intro p e s m args below meth c s₁ B hml hv
  obtain ⟨rfl, hsz, hP, hK, hD0, hF⟩ := hv
  have hx := B.exec
  have hb := B.bytes
  have hr := B.returns
  have hts := atoms_spec (ws := wbX16_say) B.pre
  have hta : ∀ w ∈ wsALL, w.before _ s = true := fun w h => hts w (List.mem_cons_of_mem _ h)
  have hown : s.vm.findClass RX16 = some m.cls := findClass_of_methodNamed B.named
  have hlocks := B.notSynchronized
  subst hsz
  have hD := hD0.self (sz := s.heap.size)
  generalize hAe : va_A [(h0, .inr (23, [v0, v1, v2, v3, v4, v5, v6, v7, v8]))] s.heap.size = A at hD hF ⊢
  have hA : ∀ q : Nat, s.heap.size ≤ q → A q := fun q h => by rw [← hAe]; exact Or.inr h
  have hS : va_S A s.heap s.heap [] := va_S.rf
  have hP : va_P (dC, dI) vwCl [(h0, .inr (23, [v0, v1, v2, v3, v4, v5, v6, v7, v8]))] s.heap := hP
  have hl := lv_entry ([.ref h0, .int x0, .int x1, .int x2, .int x3, .int x4, .int x5]) (n := 14) (Nat.le_of_ble_eq_true rfl)
  rw [lg_entry_eq]
  generalize (lg_sl ([.ref h0, .int x0, .int x1, .int x2, .int x3, .int x4, .int x5]) ++ List.replicate (14 - (lg_sl ([.ref h0, .int x0, .int x1, .int x2, .int x3, .int x4, .int x5])).length) Slot.unset).toArray = ls at hl ⊢
  have hl : lv_has ls 14 [(0, .ref h0), (1, .int x0), (2, .int x1), (3, .int x2), (4, .int x3), (5, .int x4), (6, .int x5)] := hl
  refine lv_bipush (v := 6) hx hb dX16_say_0 (by decide) ?_
  refine va_newa (atype := .int) hx hb (hta _ wm15) rfl hK hP hD hS hA (N' := 6) (a0 := (6, .inl (fun _ => 0))) (fun _ => rfl) (by decide) (by decide) (Nat.le_of_ble_eq_true rfl) (Nat.le_of_ble_eq_true rfl) (Nat.le_of_ble_eq_true rfl) dX16_say_2 (fun q1 cyq1 H hK hP hD hS => ?_)
  have hP : va_P (dC, dI) vwCl [(h0, .inr (23, [v0, v1, v2, v3, v4, v5, v6, v7, v8])), (q1, .inl (cyq1, 6, .inl (fun _ => 0)))] H := hP
  have hD : va_D A [(h0, .inr (23, [v0, v1, v2, v3, v4, v5, v6, v7, v8])), (q1, .inl (cyq1, 6, .inl (fun _ => 0)))] := hD
  have hK : va_K (dC, dI) vwCl [(cyq1, .int)] s := hK
  refine W.widen (k := 1) (n := 6) (Nat.le_of_ble_eq_true rfl) (Nat.le_of_ble_eq_true rfl) ?_
  refine lv_dup hx hb dX16_say_4 rfl ?_
  refine lv_iconst (v := 0) hx hb dX16_say_5 (by decide) ?_
  refine lv_iload_n hx hb dX16_say_6 rfl (lv_at hl 1 rfl) ?_
  refine va_iast hx hb hK hP hD hS 1 0 rfl rfl (vp_in_nI (n := 0) (by decide) (by decide)) dX16_say_7 (fun H locs hP hD hS => ?_)
  have hP : va_P (dC, dI) vwCl [(h0, .inr (23, [v0, v1, v2, v3, v4, v5, v6, v7, v8])), (q1, .inl (cyq1, 6, .inl (upd (fun _ => 0) 0 x0)))] H := hP
  have hD : va_D A [(h0, .inr (23, [v0, v1, v2, v3, v4, v5, v6, v7, v8])), (q1, .inl (cyq1, 6, .inl (upd (fun _ => 0) 0 x0)))] := hD
  refine lv_dup hx hb dX16_say_8 rfl ?_
  refine lv_iconst (v := 1) hx hb dX16_say_9 (by decide) ?_
  refine lv_iload_n hx hb dX16_say_10 rfl (lv_at hl 2 rfl) ?_
  refine va_iast hx hb hK hP hD hS 1 0 rfl rfl (vp_in_nI (n := 1) (by decide) (by decide)) dX16_say_11 (fun H locs hP hD hS => ?_)
  have hP : va_P (dC, dI) vwCl [(h0, .inr (23, [v0, v1, v2, v3, v4, v5, v6, v7, v8])), (q1, .inl (cyq1, 6, .inl (upd (upd (fun _ => 0) 0 x0) 1 x1)))] H := hP
  have hD : va_D A [(h0, .inr (23, [v0, v1, v2, v3, v4, v5, v6, v7, v8])), (q1, .inl (cyq1, 6, .inl (upd (upd (fun _ => 0) 0 x0) 1 x1)))] := hD
  refine lv_dup hx hb dX16_say_12 rfl ?_
  refine lv_iconst (v := 2) hx hb dX16_say_13 (by decide) ?_
  refine lv_iload_n hx hb dX16_say_14 rfl (lv_at hl 3 rfl) ?_
  refine va_iast hx hb hK hP hD hS 1 0 rfl rfl (vp_in_nI (n := 2) (by decide) (by decide)) dX16_say_15 (fun H locs hP hD hS => ?_)
  have hP : va_P (dC, dI) vwCl [(h0, .inr (23, [v0, v1, v2, v3, v4, v5, v6, v7, v8])), (q1, .inl (cyq1, 6, .inl (upd (upd (upd (fun _ => 0) 0 x0) 1 x1) 2 x2)))] H := hP
  have hD : va_D A [(h0, .inr (23, [v0, v1, v2, v3, v4, v5, v6, v7, v8])), (q1, .inl (cyq1, 6, .inl (upd (upd (upd (fun _ => 0) 0 x0) 1 x1) 2 x2)))] := hD
  refine lv_dup hx hb dX16_say_16 rfl ?_
  refine lv_iconst (v := 3) hx hb dX16_say_17 (by decide) ?_
  refine lv_iload hx hb dX16_say_18 (lv_at hl 4 rfl) ?_
  refine va_iast hx hb hK hP hD hS 1 0 rfl rfl (vp_in_nI (n := 3) (by decide) (by decide)) dX16_say_20 (fun H locs hP hD hS => ?_)
  have hP : va_P (dC, dI) vwCl [(h0, .inr (23, [v0, v1, v2, v3, v4, v5, v6, v7, v8])), (q1, .inl (cyq1, 6, .inl (upd (upd (upd (upd (fun _ => 0) 0 x0) 1 x1) 2 x2) 3 x3)))] H := hP
  have hD : va_D A [(h0, .inr (23, [v0, v1, v2, v3, v4, v5, v6, v7, v8])), (q1, .inl (cyq1, 6, .inl (upd (upd (upd (upd (fun _ => 0) 0 x0) 1 x1) 2 x2) 3 x3)))] := hD
  refine lv_dup hx hb dX16_say_21 rfl ?_
  refine lv_iconst (v := 4) hx hb dX16_say_22 (by decide) ?_
  refine lv_iload hx hb dX16_say_23 (lv_at hl 5 rfl) ?_
  refine va_iast hx hb hK hP hD hS 1 0 rfl rfl (vp_in_nI (n := 4) (by decide) (by decide)) dX16_say_25 (fun H locs hP hD hS => ?_)
  have hP : va_P (dC, dI) vwCl [(h0, .inr (23, [v0, v1, v2, v3, v4, v5, v6, v7, v8])), (q1, .inl (cyq1, 6, .inl (upd (upd (upd (upd (upd (fun _ => 0) 0 x0) 1 x1) 2 x2) 3 x3) 4 x4)))] H := hP
  have hD : va_D A [(h0, .inr (23, [v0, v1, v2, v3, v4, v5, v6, v7, v8])), (q1, .inl (cyq1, 6, .inl (upd (upd (upd (upd (upd (fun _ => 0) 0 x0) 1 x1) 2 x2) 3 x3) 4 x4)))] := hD
  refine lv_dup hx hb dX16_say_26 rfl ?_
  refine lv_iconst (v := 5) hx hb dX16_say_27 (by decide) ?_
  refine lv_iload hx hb dX16_say_28 (lv_at hl 6 rfl) ?_
  refine va_iast hx hb hK hP hD hS 1 0 rfl rfl (vp_in_nI (n := 5) (by decide) (by decide)) dX16_say_30 (fun H locs hP hD hS => ?_)
  have hP : va_P (dC, dI) vwCl [(h0, .inr (23, [v0, v1, v2, v3, v4, v5, v6, v7, v8])), (q1, .inl (cyq1, 6, .inl (upd (upd (upd (upd (upd (upd (fun _ => 0) 0 x0) 1 x1) 2 x2) 3 x3) 4 x4) 5 x5)))] H := hP
  have hD : va_D A [(h0, .inr (23, [v0, v1, v2, v3, v4, v5, v6, v7, v8])), (q1, .inl (cyq1, 6, .inl (upd (upd (upd (upd (upd (upd (fun _ => 0) 0 x0) 1 x1) 2 x2) 3 x3) 4 x4) 5 x5)))] := hD
  refine lv_astore (lv' := [(7, .ref q1), (0, .ref h0), (1, .int x0), (2, .int x1), (3, .int x2), (4, .int x3), (5, .int x4), (6, .int x5)]) hx hb dX16_say_31 hl (by decide) rfl (fun ls hl => ?_)
  refine lv_iconst (v := 0) hx hb dX16_say_33 (by decide) ?_
  refine lv_istore (lv' := [(8, .int 0), (7, .ref q1), (0, .ref h0), (1, .int x0), (2, .int x1), (3, .int x2), (4, .int x3), (5, .int x4), (6, .int x5)]) hx hb dX16_say_34 hl (by decide) rfl (fun ls hl => ?_)
  refine lv_aload hx hb dX16_say_36 (lv_at hl 1 rfl) ?_
  refine lv_astore (lv' := [(9, .ref q1), (8, .int 0), (7, .ref q1), (0, .ref h0), (1, .int x0), (2, .int x1), (3, .int x2), (4, .int x3), (5, .int x4), (6, .int x5)]) hx hb dX16_say_38 hl (by decide) rfl (fun ls hl => ?_)
  refine lv_aload hx hb dX16_say_40 (lv_at hl 0 rfl) ?_
  refine va_alen (v := 6) hx hb hK hP 1 0 rfl rfl (show Int32.ofNat 6 = 6 by decide) dX16_say_42 ?_
  refine lv_istore (lv' := [(10, .int 6), (9, .ref q1), (8, .int 0), (7, .ref q1), (0, .ref h0), (1, .int x0), (2, .int x1), (3, .int x2), (4, .int x3), (5, .int x4), (6, .int x5)]) hx hb dX16_say_43 hl (by decide) rfl (fun ls hl => ?_)
  refine lv_iconst (v := 0) hx hb dX16_say_45 (by decide) ?_
  refine lv_istore (lv' := [(11, .int 0), (10, .int 6), (9, .ref q1), (8, .int 0), (7, .ref q1), (0, .ref h0), (1, .int x0), (2, .int x1), (3, .int x2), (4, .int x3), (5, .int x4), (6, .int x5)]) hx hb dX16_say_46 hl (by decide) rfl (fun ls hl => ?_)
  refine lv_iload hx hb dX16_say_48 (lv_at hl 0 rfl) ?_
  refine lv_iload hx hb dX16_say_50 (lv_at hl 1 rfl) ?_
  refine lv_icmp_ge (tgt := 89) hx hb dX16_say_52 (by decide) (fun c2 => absurd c2 (by decide)) (fun c2 => ?_)
  refine lv_aload hx hb dX16_say_55 (lv_at hl 2 rfl) ?_
  refine lv_iload hx hb dX16_say_57 (lv_at hl 0 rfl) ?_
  refine va_iald hx hb hK hP 1 0 rfl rfl (vp_in_nI (n := 0) (by decide) (by decide)) dX16_say_59 ?_
  refine lv_topi (fun y3 ey3 => ?_)
  obtain rfl : x0 = y3 := ey3.symm
  refine lv_istore (lv' := [(12, .int x0), (11, .int 0), (10, .int 6), (9, .ref q1), (8, .int 0), (7, .ref q1), (0, .ref h0), (1, .int x0), (2, .int x1), (3, .int x2), (4, .int x3), (5, .int x4), (6, .int x5)]) hx hb dX16_say_60 hl (by decide) rfl (fun ls hl => ?_)
  refine lv_iload hx hb dX16_say_62 (lv_at hl 4 rfl) ?_
  refine lv_iload hx hb dX16_say_64 (lv_at hl 0 rfl) ?_
  refine lv_iconst (v := (-1)) hx hb dX16_say_66 (by decide) ?_
  refine lv_bipush (v := 21) hx hb dX16_say_67 (by decide) ?_
  have hPc := hP.sub (ws' := []) [] rfl
  have hDc := hD.sub (ws' := []) [] (by decide) rfl
  have hKc := hK.sub (tys' := []) [] rfl
  have hFc := va_free (wc := []) hD hS hA [] rfl
  refine va_calli (va_runS (As := [.int x0, .int (-1), .int 21]) (rest := [.int 0]) ⟨hx, hb, hml, hown, hts⟩ (kX16_isIn_24 l dC dI g H.size x0 ⟨by omega, by omega⟩) (va_cwS 3 hts (ns_gp (List.forall_mem_cons.mpr ⟨wm240, (List.forall_mem_cons.mpr ⟨wm241, (List.forall_mem_cons.mpr ⟨wm192, (fun _ h9 => nomatch h9)⟩)⟩)⟩) wm233) rfl rfl rfl (by decide +kernel) ⟨Nat.le_of_ble_eq_true rfl, Nat.le_of_ble_eq_true rfl⟩) ⟨fun a U gg mk q => by obtain ⟨q0, q1, qP, qK, qD, qF⟩ := q; exact ⟨q0, q1, qP, va_K.moved (u := U) (U := U.calling gg mk a) (Vm.Alike.refl U.vm) qK, qD, ns_same qF⟩, fun U hU hW => ⟨rfl, by rw [hU], by rw [hU]; exact hPc, va_K.moved hW.alike hKc, hDc.weaken (fun _ _ _ _ => trivial), ns_call hF hS hFc hU hW⟩⟩ rfl rfl hl.1 rfl (lv_room (Nat.le_of_ble_eq_true rfl)) dX16_say_69 ⟨Nat.le_of_ble_eq_true rfl, Nat.le_of_ble_eq_true rfl⟩) hS (fun q _ h => hFc q h) hFc (fun r9 u t H1 locs ht hvm hw hB hz1 hk1 hS => ?_)
  obtain rfl := hw.symm
  obtain ⟨hP1, hK1, hD1⟩ := hB
  rw [ht] at hP1
  have hK1 := va_K.moved hvm.symm hK1
  obtain ⟨hP, hD⟩ := va_join (wr := [(h0, .inr (23, [v0, v1, v2, v3, v4, v5, v6, v7, v8])), (q1, .inl (cyq1, 6, .inl (upd (upd (upd (upd (upd (upd (fun _ => 0) 0 x0) 1 x1) 2 x2) 3 x3) 4 x4) 5 x5)))]) (w1 := []) hP hD [] [0, 1] rfl rfl (by decide) (by decide) hk1 hFc hP1 hD1
  have hK := (hK.sub (tys' := [(cyq1, .int)]) [0] rfl).app hK1
  generalize H1 = H at hP hS ⊢
  have hP : va_P (dC, dI) vwCl [(h0, .inr (23, [v0, v1, v2, v3, v4, v5, v6, v7, v8])), (q1, .inl (cyq1, 6, .inl (upd (upd (upd (upd (upd (upd (fun _ => 0) 0 x0) 1 x1) 2 x2) 3 x3) 4 x4) 5 x5)))] H := hP
  have hD : va_D A [(h0, .inr (23, [v0, v1, v2, v3, v4, v5, v6, v7, v8])), (q1, .inl (cyq1, 6, .inl (upd (upd (upd (upd (upd (upd (fun _ => 0) 0 x0) 1 x1) 2 x2) 3 x3) 4 x4) 5 x5)))] := hD
  have hK : va_K (dC, dI) vwCl [(cyq1, .int)] s := hK
  refine W.widen (k := 1) (n := 6) (Nat.le_of_ble_eq_true rfl) (Nat.le_of_ble_eq_true rfl) ?_
  refine lv_if_ne (tgt := 79) hx hb dX16_say_72 (by decide) (fun c4 => ?_) (fun c4 => absurd c4 (by decide))
  refine lv_iconst (v := 0) hx hb dX16_say_79 (by decide) ?_
  refine lv_ior hx hb dX16_say_80 ?_
  refine lv_topi (fun y5 ey5 => ?_)
  obtain rfl : y5 = 0 := ey5.trans (by decide)
  refine lv_istore (lv' := [(8, .int 0), (12, .int x0), (11, .int 0), (10, .int 6), (9, .ref q1), (7, .ref q1), (0, .ref h0), (1, .int x0), (2, .int x1), (3, .int x2), (4, .int x3), (5, .int x4), (6, .int x5)]) hx hb dX16_say_81 hl (by decide) rfl (fun ls hl => ?_)
  refine lv_iinc (v := 1) (lv' := [(11, .int 1), (8, .int 0), (12, .int x0), (10, .int 6), (9, .ref q1), (7, .ref q1), (0, .ref h0), (1, .int x0), (2, .int x1), (3, .int x2), (4, .int x3), (5, .int x4), (6, .int x5)]) hx hb dX16_say_83 hl (k := 2) rfl (by decide) (by decide) rfl (fun ls hl => ?_)
  refine lv_goto (tgt := 48) hx hb dX16_say_86 (by decide) ?_
  refine lv_iload hx hb dX16_say_48 (lv_at hl 0 rfl) ?_
  refine lv_iload hx hb dX16_say_50 (lv_at hl 3 rfl) ?_
  refine lv_icmp_ge (tgt := 89) hx hb dX16_say_52 (by decide) (fun c6 => absurd c6 (by decide)) (fun c6 => ?_)
  refine lv_aload hx hb dX16_say_55 (lv_at hl 4 rfl) ?_
  refine lv_iload hx hb dX16_say_57 (lv_at hl 0 rfl) ?_
  refine va_iald hx hb hK hP 1 0 rfl rfl (vp_in_nI (n := 1) (by decide) (by decide)) dX16_say_59 ?_
  refine lv_topi (fun y7 ey7 => ?_)
  obtain rfl : x1 = y7 := ey7.symm
  refine lv_istore (lv' := [(12, .int x1), (11, .int 1), (8, .int 0), (10, .int 6), (9, .ref q1), (7, .ref q1), (0, .ref h0), (1, .int x0), (2, .int x1), (3, .int x2), (4, .int x3), (5, .int x4), (6, .int x5)]) hx hb dX16_say_60 hl (by decide) rfl (fun ls hl => ?_)
  refine lv_iload hx hb dX16_say_62 (lv_at hl 2 rfl) ?_
  refine lv_iload hx hb dX16_say_64 (lv_at hl 0 rfl) ?_
  refine lv_iconst (v := (-1)) hx hb dX16_say_66 (by decide) ?_
  refine lv_bipush (v := 21) hx hb dX16_say_67 (by decide) ?_
  have hPc := hP.sub (ws' := []) [] rfl
  have hDc := hD.sub (ws' := []) [] (by decide) rfl
  have hKc := hK.sub (tys' := []) [] rfl
  have hFc := va_free (wc := []) hD hS hA [] rfl
  refine va_calli (va_runS (As := [.int x1, .int (-1), .int 21]) (rest := [.int 0]) ⟨hx, hb, hml, hown, hts⟩ (kX16_isIn_25 l dC dI g H.size x1 ⟨by omega, by omega⟩) (va_cwS 3 hts (ns_gp (List.forall_mem_cons.mpr ⟨wm240, (List.forall_mem_cons.mpr ⟨wm241, (List.forall_mem_cons.mpr ⟨wm192, (fun _ h9 => nomatch h9)⟩)⟩)⟩) wm233) rfl rfl rfl (by decide +kernel) ⟨Nat.le_of_ble_eq_true rfl, Nat.le_of_ble_eq_true rfl⟩) ⟨fun a U gg mk q => by obtain ⟨q0, q1, qP, qK, qD, qF⟩ := q; exact ⟨q0, q1, qP, va_K.moved (u := U) (U := U.calling gg mk a) (Vm.Alike.refl U.vm) qK, qD, ns_same qF⟩, fun U hU hW => ⟨rfl, by rw [hU], by rw [hU]; exact hPc, va_K.moved hW.alike hKc, hDc.weaken (fun _ _ _ _ => trivial), ns_call hF hS hFc hU hW⟩⟩ rfl rfl hl.1 rfl (lv_room (Nat.le_of_ble_eq_true rfl)) dX16_say_69 ⟨Nat.le_of_ble_eq_true rfl, Nat.le_of_ble_eq_true rfl⟩) hS (fun q _ h => hFc q h) hFc (fun r9 u t H1 locs ht hvm hw hB hz1 hk1 hS => ?_)
  obtain rfl := hw.symm
  obtain ⟨hP1, hK1, hD1⟩ := hB
  rw [ht] at hP1
  have hK1 := va_K.moved hvm.symm hK1
  obtain ⟨hP, hD⟩ := va_join (wr := [(h0, .inr (23, [v0, v1, v2, v3, v4, v5, v6, v7, v8])), (q1, .inl (cyq1, 6, .inl (upd (upd (upd (upd (upd (upd (fun _ => 0) 0 x0) 1 x1) 2 x2) 3 x3) 4 x4) 5 x5)))]) (w1 := []) hP hD [] [0, 1] rfl rfl (by decide) (by decide) hk1 hFc hP1 hD1
  have hK := (hK.sub (tys' := [(cyq1, .int)]) [0] rfl).app hK1
  generalize H1 = H at hP hS ⊢
  have hP : va_P (dC, dI) vwCl [(h0, .inr (23, [v0, v1, v2, v3, v4, v5, v6, v7, v8])), (q1, .inl (cyq1, 6, .inl (upd (upd (upd (upd (upd (upd (fun _ => 0) 0 x0) 1 x1) 2 x2) 3 x3) 4 x4) 5 x5)))] H := hP
  have hD : va_D A [(h0, .inr (23, [v0, v1, v2, v3, v4, v5, v6, v7, v8])), (q1, .inl (cyq1, 6, .inl (upd (upd (upd (upd (upd (upd (fun _ => 0) 0 x0) 1 x1) 2 x2) 3 x3) 4 x4) 5 x5)))] := hD
  have hK : va_K (dC, dI) vwCl [(cyq1, .int)] s := hK
  refine W.widen (k := 1) (n := 6) (Nat.le_of_ble_eq_true rfl) (Nat.le_of_ble_eq_true rfl) ?_
  refine lv_if_ne (tgt := 79) hx hb dX16_say_72 (by decide) (fun c8 => absurd (by decide) c8) (fun c8 => ?_)
  refine lv_iconst (v := 1) hx hb dX16_say_75 (by decide) ?_
  refine lv_goto (tgt := 80) hx hb dX16_say_76 (by decide) ?_
  refine lv_ior hx hb dX16_say_80 ?_
  refine lv_topi (fun y9 ey9 => ?_)
  obtain rfl : y9 = 1 := ey9.trans (by decide)
  refine lv_istore (lv' := [(8, .int 1), (12, .int x1), (11, .int 1), (10, .int 6), (9, .ref q1), (7, .ref q1), (0, .ref h0), (1, .int x0), (2, .int x1), (3, .int x2), (4, .int x3), (5, .int x4), (6, .int x5)]) hx hb dX16_say_81 hl (by decide) rfl (fun ls hl => ?_)
  refine lv_iinc (v := 2) (lv' := [(11, .int 2), (8, .int 1), (12, .int x1), (10, .int 6), (9, .ref q1), (7, .ref q1), (0, .ref h0), (1, .int x0), (2, .int x1), (3, .int x2), (4, .int x3), (5, .int x4), (6, .int x5)]) hx hb dX16_say_83 hl (k := 2) rfl (by decide) (by decide) rfl (fun ls hl => ?_)
  refine lv_goto (tgt := 48) hx hb dX16_say_86 (by decide) ?_
  refine lv_iload hx hb dX16_say_48 (lv_at hl 0 rfl) ?_
  refine lv_iload hx hb dX16_say_50 (lv_at hl 3 rfl) ?_
  refine lv_icmp_ge (tgt := 89) hx hb dX16_say_52 (by decide) (fun c10 => absurd c10 (by decide)) (fun c10 => ?_)
  refine lv_aload hx hb dX16_say_55 (lv_at hl 4 rfl) ?_
  refine lv_iload hx hb dX16_say_57 (lv_at hl 0 rfl) ?_
  refine va_iald hx hb hK hP 1 0 rfl rfl (vp_in_nI (n := 2) (by decide) (by decide)) dX16_say_59 ?_
  refine lv_topi (fun y11 ey11 => ?_)
  obtain rfl : x2 = y11 := ey11.symm
  refine lv_istore (lv' := [(12, .int x2), (11, .int 2), (8, .int 1), (10, .int 6), (9, .ref q1), (7, .ref q1), (0, .ref h0), (1, .int x0), (2, .int x1), (3, .int x2), (4, .int x3), (5, .int x4), (6, .int x5)]) hx hb dX16_say_60 hl (by decide) rfl (fun ls hl => ?_)
  refine lv_iload hx hb dX16_say_62 (lv_at hl 2 rfl) ?_
  refine lv_iload hx hb dX16_say_64 (lv_at hl 0 rfl) ?_
  refine lv_iconst (v := (-1)) hx hb dX16_say_66 (by decide) ?_
  refine lv_bipush (v := 21) hx hb dX16_say_67 (by decide) ?_
  have hPc := hP.sub (ws' := []) [] rfl
  have hDc := hD.sub (ws' := []) [] (by decide) rfl
  have hKc := hK.sub (tys' := []) [] rfl
  have hFc := va_free (wc := []) hD hS hA [] rfl
  refine va_calli (va_runS (As := [.int x2, .int (-1), .int 21]) (rest := [.int 1]) ⟨hx, hb, hml, hown, hts⟩ (kX16_isIn_23 l dC dI g H.size x2 ) (va_cwS 3 hts (ns_gp (List.forall_mem_cons.mpr ⟨wm240, (List.forall_mem_cons.mpr ⟨wm241, (List.forall_mem_cons.mpr ⟨wm192, (fun _ h9 => nomatch h9)⟩)⟩)⟩) wm233) rfl rfl rfl (by decide +kernel) ⟨Nat.le_of_ble_eq_true rfl, Nat.le_of_ble_eq_true rfl⟩) ⟨fun a U gg mk q => by obtain ⟨q0, q1, qP, qK, qD, qF⟩ := q; exact ⟨q0, q1, qP, va_K.moved (u := U) (U := U.calling gg mk a) (Vm.Alike.refl U.vm) qK, qD, ns_same qF⟩, fun U hU hW => ⟨rfl, by rw [hU], by rw [hU]; exact hPc, va_K.moved hW.alike hKc, hDc.weaken (fun _ _ _ _ => trivial), ns_call hF hS hFc hU hW⟩⟩ rfl rfl hl.1 rfl (lv_room (Nat.le_of_ble_eq_true rfl)) dX16_say_69 ⟨Nat.le_of_ble_eq_true rfl, Nat.le_of_ble_eq_true rfl⟩) hS (fun q _ h => hFc q h) hFc (fun r9 u t H1 locs ht hvm hw hB hz1 hk1 hS => ?_)
  obtain rfl := hw.symm
  obtain ⟨hP1, hK1, hD1⟩ := hB
  rw [ht] at hP1
  have hK1 := va_K.moved hvm.symm hK1
  obtain ⟨hP, hD⟩ := va_join (wr := [(h0, .inr (23, [v0, v1, v2, v3, v4, v5, v6, v7, v8])), (q1, .inl (cyq1, 6, .inl (upd (upd (upd (upd (upd (upd (fun _ => 0) 0 x0) 1 x1) 2 x2) 3 x3) 4 x4) 5 x5)))]) (w1 := []) hP hD [] [0, 1] rfl rfl (by decide) (by decide) hk1 hFc hP1 hD1
  have hK := (hK.sub (tys' := [(cyq1, .int)]) [0] rfl).app hK1
  generalize H1 = H at hP hS ⊢
  have hP : va_P (dC, dI) vwCl [(h0, .inr (23, [v0, v1, v2, v3, v4, v5, v6, v7, v8])), (q1, .inl (cyq1, 6, .inl (upd (upd (upd (upd (upd (upd (fun _ => 0) 0 x0) 1 x1) 2 x2) 3 x3) 4 x4) 5 x5)))] H := hP
  have hD : va_D A [(h0, .inr (23, [v0, v1, v2, v3, v4, v5, v6, v7, v8])), (q1, .inl (cyq1, 6, .inl (upd (upd (upd (upd (upd (upd (fun _ => 0) 0 x0) 1 x1) 2 x2) 3 x3) 4 x4) 5 x5)))] := hD
  have hK : va_K (dC, dI) vwCl [(cyq1, .int)] s := hK
  refine W.widen (k := 1) (n := 6) (Nat.le_of_ble_eq_true rfl) (Nat.le_of_ble_eq_true rfl) ?_
  have r12 := ns_in_rng x2 (-1) 21
  refine ns_bool hx hb dX16_say_72 dX16_say_75 dX16_say_76 dX16_say_79 ?_
  have r13 := ns_not_rng (ns_in x2 (-1) 21)
  refine lv_ior hx hb dX16_say_80 ?_
  refine lv_topi (fun y14 ey14 => ?_)
  obtain rfl : y14 = 1 := ey14.trans (ns_or1 (by omega) (by omega))
  refine lv_istore (lv' := [(8, .int 1), (12, .int x2), (11, .int 2), (10, .int 6), (9, .ref q1), (7, .ref q1), (0, .ref h0), (1, .int x0), (2, .int x1), (3, .int x2), (4, .int x3), (5, .int x4), (6, .int x5)]) hx hb dX16_say_81 hl (by decide) rfl (fun ls hl => ?_)
  refine lv_iinc (v := 3) (lv' := [(11, .int 3), (8, .int 1), (12, .int x2), (10, .int 6), (9, .ref q1), (7, .ref q1), (0, .ref h0), (1, .int x0), (2, .int x1), (3, .int x2), (4, .int x3), (5, .int x4), (6, .int x5)]) hx hb dX16_say_83 hl (k := 2) rfl (by decide) (by decide) rfl (fun ls hl => ?_)
  refine lv_goto (tgt := 48) hx hb dX16_say_86 (by decide) ?_
  refine lv_iload hx hb dX16_say_48 (lv_at hl 0 rfl) ?_
  refine lv_iload hx hb dX16_say_50 (lv_at hl 3 rfl) ?_
  refine lv_icmp_ge (tgt := 89) hx hb dX16_say_52 (by decide) (fun c15 => absurd c15 (by decide)) (fun c15 => ?_)
  refine lv_aload hx hb dX16_say_55 (lv_at hl 4 rfl) ?_
  refine lv_iload hx hb dX16_say_57 (lv_at hl 0 rfl) ?_
  refine va_iald hx hb hK hP 1 0 rfl rfl (vp_in_nI (n := 3) (by decide) (by decide)) dX16_say_59 ?_
  refine lv_topi (fun y16 ey16 => ?_)
  obtain rfl : x3 = y16 := ey16.symm
  refine lv_istore (lv' := [(12, .int x3), (11, .int 3), (8, .int 1), (10, .int 6), (9, .ref q1), (7, .ref q1), (0, .ref h0), (1, .int x0), (2, .int x1), (3, .int x2), (4, .int x3), (5, .int x4), (6, .int x5)]) hx hb dX16_say_60 hl (by decide) rfl (fun ls hl => ?_)
  refine lv_iload hx hb dX16_say_62 (lv_at hl 2 rfl) ?_
  refine lv_iload hx hb dX16_say_64 (lv_at hl 0 rfl) ?_
  refine lv_iconst (v := (-1)) hx hb dX16_say_66 (by decide) ?_
  refine lv_bipush (v := 21) hx hb dX16_say_67 (by decide) ?_
  have hPc := hP.sub (ws' := []) [] rfl
  have hDc := hD.sub (ws' := []) [] (by decide) rfl
  have hKc := hK.sub (tys' := []) [] rfl
  have hFc := va_free (wc := []) hD hS hA [] rfl
  refine va_calli (va_runS (As := [.int x3, .int (-1), .int 21]) (rest := [.int 1]) ⟨hx, hb, hml, hown, hts⟩ (kX16_isIn_23 l dC dI g H.size x3 ) (va_cwS 3 hts (ns_gp (List.forall_mem_cons.mpr ⟨wm240, (List.forall_mem_cons.mpr ⟨wm241, (List.forall_mem_cons.mpr ⟨wm192, (fun _ h9 => nomatch h9)⟩)⟩)⟩) wm233) rfl rfl rfl (by decide +kernel) ⟨Nat.le_of_ble_eq_true rfl, Nat.le_of_ble_eq_true rfl⟩) ⟨fun a U gg mk q => by obtain ⟨q0, q1, qP, qK, qD, qF⟩ := q; exact ⟨q0, q1, qP, va_K.moved (u := U) (U := U.calling gg mk a) (Vm.Alike.refl U.vm) qK, qD, ns_same qF⟩, fun U hU hW => ⟨rfl, by rw [hU], by rw [hU]; exact hPc, va_K.moved hW.alike hKc, hDc.weaken (fun _ _ _ _ => trivial), ns_call hF hS hFc hU hW⟩⟩ rfl rfl hl.1 rfl (lv_room (Nat.le_of_ble_eq_true rfl)) dX16_say_69 ⟨Nat.le_of_ble_eq_true rfl, Nat.le_of_ble_eq_true rfl⟩) hS (fun q _ h => hFc q h) hFc (fun r9 u t H1 locs ht hvm hw hB hz1 hk1 hS => ?_)
  obtain rfl := hw.symm
  obtain ⟨hP1, hK1, hD1⟩ := hB
  rw [ht] at hP1
  have hK1 := va_K.moved hvm.symm hK1
  obtain ⟨hP, hD⟩ := va_join (wr := [(h0, .inr (23, [v0, v1, v2, v3, v4, v5, v6, v7, v8])), (q1, .inl (cyq1, 6, .inl (upd (upd (upd (upd (upd (upd (fun _ => 0) 0 x0) 1 x1) 2 x2) 3 x3) 4 x4) 5 x5)))]) (w1 := []) hP hD [] [0, 1] rfl rfl (by decide) (by decide) hk1 hFc hP1 hD1
  have hK := (hK.sub (tys' := [(cyq1, .int)]) [0] rfl).app hK1
  generalize H1 = H at hP hS ⊢
  have hP : va_P (dC, dI) vwCl [(h0, .inr (23, [v0, v1, v2, v3, v4, v5, v6, v7, v8])), (q1, .inl (cyq1, 6, .inl (upd (upd (upd (upd (upd (upd (fun _ => 0) 0 x0) 1 x1) 2 x2) 3 x3) 4 x4) 5 x5)))] H := hP
  have hD : va_D A [(h0, .inr (23, [v0, v1, v2, v3, v4, v5, v6, v7, v8])), (q1, .inl (cyq1, 6, .inl (upd (upd (upd (upd (upd (upd (fun _ => 0) 0 x0) 1 x1) 2 x2) 3 x3) 4 x4) 5 x5)))] := hD
  have hK : va_K (dC, dI) vwCl [(cyq1, .int)] s := hK
  refine W.widen (k := 1) (n := 6) (Nat.le_of_ble_eq_true rfl) (Nat.le_of_ble_eq_true rfl) ?_
  have r17 := ns_in_rng x3 (-1) 21
  refine ns_bool hx hb dX16_say_72 dX16_say_75 dX16_say_76 dX16_say_79 ?_
  have r18 := ns_not_rng (ns_in x3 (-1) 21)
  refine lv_ior hx hb dX16_say_80 ?_
  refine lv_topi (fun y19 ey19 => ?_)
  obtain rfl : y19 = 1 := ey19.trans (ns_or1 (by omega) (by omega))
  refine lv_istore (lv' := [(8, .int 1), (12, .int x3), (11, .int 3), (10, .int 6), (9, .ref q1), (7, .ref q1), (0, .ref h0), (1, .int x0), (2, .int x1), (3, .int x2), (4, .int x3), (5, .int x4), (6, .int x5)]) hx hb dX16_say_81 hl (by decide) rfl (fun ls hl => ?_)
  refine lv_iinc (v := 4) (lv' := [(11, .int 4), (8, .int 1), (12, .int x3), (10, .int 6), (9, .ref q1), (7, .ref q1), (0, .ref h0), (1, .int x0), (2, .int x1), (3, .int x2), (4, .int x3), (5, .int x4), (6, .int x5)]) hx hb dX16_say_83 hl (k := 2) rfl (by decide) (by decide) rfl (fun ls hl => ?_)
  refine lv_goto (tgt := 48) hx hb dX16_say_86 (by decide) ?_
  refine lv_iload hx hb dX16_say_48 (lv_at hl 0 rfl) ?_
  refine lv_iload hx hb dX16_say_50 (lv_at hl 3 rfl) ?_
  refine lv_icmp_ge (tgt := 89) hx hb dX16_say_52 (by decide) (fun c20 => absurd c20 (by decide)) (fun c20 => ?_)
  refine lv_aload hx hb dX16_say_55 (lv_at hl 4 rfl) ?_
  refine lv_iload hx hb dX16_say_57 (lv_at hl 0 rfl) ?_
  refine va_iald hx hb hK hP 1 0 rfl rfl (vp_in_nI (n := 4) (by decide) (by decide)) dX16_say_59 ?_
  refine lv_topi (fun y21 ey21 => ?_)
  obtain rfl : x4 = y21 := ey21.symm
  refine lv_istore (lv' := [(12, .int x4), (11, .int 4), (8, .int 1), (10, .int 6), (9, .ref q1), (7, .ref q1), (0, .ref h0), (1, .int x0), (2, .int x1), (3, .int x2), (4, .int x3), (5, .int x4), (6, .int x5)]) hx hb dX16_say_60 hl (by decide) rfl (fun ls hl => ?_)
  refine lv_iload hx hb dX16_say_62 (lv_at hl 2 rfl) ?_
  refine lv_iload hx hb dX16_say_64 (lv_at hl 0 rfl) ?_
  refine lv_iconst (v := (-1)) hx hb dX16_say_66 (by decide) ?_
  refine lv_bipush (v := 21) hx hb dX16_say_67 (by decide) ?_
  have hPc := hP.sub (ws' := []) [] rfl
  have hDc := hD.sub (ws' := []) [] (by decide) rfl
  have hKc := hK.sub (tys' := []) [] rfl
  have hFc := va_free (wc := []) hD hS hA [] rfl
  refine va_calli (va_runS (As := [.int x4, .int (-1), .int 21]) (rest := [.int 1]) ⟨hx, hb, hml, hown, hts⟩ (kX16_isIn_23 l dC dI g H.size x4 ) (va_cwS 3 hts (ns_gp (List.forall_mem_cons.mpr ⟨wm240, (List.forall_mem_cons.mpr ⟨wm241, (List.forall_mem_cons.mpr ⟨wm192, (fun _ h9 => nomatch h9)⟩)⟩)⟩) wm233) rfl rfl rfl (by decide +kernel) ⟨Nat.le_of_ble_eq_true rfl, Nat.le_of_ble_eq_true rfl⟩) ⟨fun a U gg mk q => by obtain ⟨q0, q1, qP, qK, qD, qF⟩ := q; exact ⟨q0, q1, qP, va_K.moved (u := U) (U := U.calling gg mk a) (Vm.Alike.refl U.vm) qK, qD, ns_same qF⟩, fun U hU hW => ⟨rfl, by rw [hU], by rw [hU]; exact hPc, va_K.moved hW.alike hKc, hDc.weaken (fun _ _ _ _ => trivial), ns_call hF hS hFc hU hW⟩⟩ rfl rfl hl.1 rfl (lv_room (Nat.le_of_ble_eq_true rfl)) dX16_say_69 ⟨Nat.le_of_ble_eq_true rfl, Nat.le_of_ble_eq_true rfl⟩) hS (fun q _ h => hFc q h) hFc (fun r9 u t H1 locs ht hvm hw hB hz1 hk1 hS => ?_)
  obtain rfl := hw.symm
  obtain ⟨hP1, hK1, hD1⟩ := hB
  rw [ht] at hP1
  have hK1 := va_K.moved hvm.symm hK1
  obtain ⟨hP, hD⟩ := va_join (wr := [(h0, .inr (23, [v0, v1, v2, v3, v4, v5, v6, v7, v8])), (q1, .inl (cyq1, 6, .inl (upd (upd (upd (upd (upd (upd (fun _ => 0) 0 x0) 1 x1) 2 x2) 3 x3) 4 x4) 5 x5)))]) (w1 := []) hP hD [] [0, 1] rfl rfl (by decide) (by decide) hk1 hFc hP1 hD1
  have hK := (hK.sub (tys' := [(cyq1, .int)]) [0] rfl).app hK1
  generalize H1 = H at hP hS ⊢
  have hP : va_P (dC, dI) vwCl [(h0, .inr (23, [v0, v1, v2, v3, v4, v5, v6, v7, v8])), (q1, .inl (cyq1, 6, .inl (upd (upd (upd (upd (upd (upd (fun _ => 0) 0 x0) 1 x1) 2 x2) 3 x3) 4 x4) 5 x5)))] H := hP
  have hD : va_D A [(h0, .inr (23, [v0, v1, v2, v3, v4, v5, v6, v7, v8])), (q1, .inl (cyq1, 6, .inl (upd (upd (upd (upd (upd (upd (fun _ => 0) 0 x0) 1 x1) 2 x2) 3 x3) 4 x4) 5 x5)))] := hD
  have hK : va_K (dC, dI) vwCl [(cyq1, .int)] s := hK
  refine W.widen (k := 1) (n := 6) (Nat.le_of_ble_eq_true rfl) (Nat.le_of_ble_eq_true rfl) ?_
  have r22 := ns_in_rng x4 (-1) 21
  refine ns_bool hx hb dX16_say_72 dX16_say_75 dX16_say_76 dX16_say_79 ?_
  have r23 := ns_not_rng (ns_in x4 (-1) 21)
  refine lv_ior hx hb dX16_say_80 ?_
  refine lv_topi (fun y24 ey24 => ?_)
  obtain rfl : y24 = 1 := ey24.trans (ns_or1 (by omega) (by omega))
  refine lv_istore (lv' := [(8, .int 1), (12, .int x4), (11, .int 4), (10, .int 6), (9, .ref q1), (7, .ref q1), (0, .ref h0), (1, .int x0), (2, .int x1), (3, .int x2), (4, .int x3), (5, .int x4), (6, .int x5)]) hx hb dX16_say_81 hl (by decide) rfl (fun ls hl => ?_)
  refine lv_iinc (v := 5) (lv' := [(11, .int 5), (8, .int 1), (12, .int x4), (10, .int 6), (9, .ref q1), (7, .ref q1), (0, .ref h0), (1, .int x0), (2, .int x1), (3, .int x2), (4, .int x3), (5, .int x4), (6, .int x5)]) hx hb dX16_say_83 hl (k := 2) rfl (by decide) (by decide) rfl (fun ls hl => ?_)
  refine lv_goto (tgt := 48) hx hb dX16_say_86 (by decide) ?_
  refine lv_iload hx hb dX16_say_48 (lv_at hl 0 rfl) ?_
  refine lv_iload hx hb dX16_say_50 (lv_at hl 3 rfl) ?_
  refine lv_icmp_ge (tgt := 89) hx hb dX16_say_52 (by decide) (fun c25 => absurd c25 (by decide)) (fun c25 => ?_)
  refine lv_aload hx hb dX16_say_55 (lv_at hl 4 rfl) ?_
  refine lv_iload hx hb dX16_say_57 (lv_at hl 0 rfl) ?_
  refine va_iald hx hb hK hP 1 0 rfl rfl (vp_in_nI (n := 5) (by decide) (by decide)) dX16_say_59 ?_
  refine lv_topi (fun y26 ey26 => ?_)
  obtain rfl : x5 = y26 := ey26.symm
  refine lv_istore (lv' := [(12, .int x5), (11, .int 5), (8, .int 1), (10, .int 6), (9, .ref q1), (7, .ref q1), (0, .ref h0), (1, .int x0), (2, .int x1), (3, .int x2), (4, .int x3), (5, .int x4), (6, .int x5)]) hx hb dX16_say_60 hl (by decide) rfl (fun ls hl => ?_)
  refine lv_iload hx hb dX16_say_62 (lv_at hl 2 rfl) ?_
  refine lv_iload hx hb dX16_say_64 (lv_at hl 0 rfl) ?_
  refine lv_iconst (v := (-1)) hx hb dX16_say_66 (by decide) ?_
  refine lv_bipush (v := 21) hx hb dX16_say_67 (by decide) ?_
  have hPc := hP.sub (ws' := []) [] rfl
  have hDc := hD.sub (ws' := []) [] (by decide) rfl
  have hKc := hK.sub (tys' := []) [] rfl
  have hFc := va_free (wc := []) hD hS hA [] rfl
  refine va_calli (va_runS (As := [.int x5, .int (-1), .int 21]) (rest := [.int 1]) ⟨hx, hb, hml, hown, hts⟩ (kX16_isIn_23 l dC dI g H.size x5 ) (va_cwS 3 hts (ns_gp (List.forall_mem_cons.mpr ⟨wm240, (List.forall_mem_cons.mpr ⟨wm241, (List.forall_mem_cons.mpr ⟨wm192, (fun _ h9 => nomatch h9)⟩)⟩)⟩) wm233) rfl rfl rfl (by decide +kernel) ⟨Nat.le_of_ble_eq_true rfl, Nat.le_of_ble_eq_true rfl⟩) ⟨fun a U gg mk q => by obtain ⟨q0, q1, qP, qK, qD, qF⟩ := q; exact ⟨q0, q1, qP, va_K.moved (u := U) (U := U.calling gg mk a) (Vm.Alike.refl U.vm) qK, qD, ns_same qF⟩, fun U hU hW => ⟨rfl, by rw [hU], by rw [hU]; exact hPc, va_K.moved hW.alike hKc, hDc.weaken (fun _ _ _ _ => trivial), ns_call hF hS hFc hU hW⟩⟩ rfl rfl hl.1 rfl (lv_room (Nat.le_of_ble_eq_true rfl)) dX16_say_69 ⟨Nat.le_of_ble_eq_true rfl, Nat.le_of_ble_eq_true rfl⟩) hS (fun q _ h => hFc q h) hFc (fun r9 u t H1 locs ht hvm hw hB hz1 hk1 hS => ?_)
  obtain rfl := hw.symm
  obtain ⟨hP1, hK1, hD1⟩ := hB
  rw [ht] at hP1
  have hK1 := va_K.moved hvm.symm hK1
  obtain ⟨hP, hD⟩ := va_join (wr := [(h0, .inr (23, [v0, v1, v2, v3, v4, v5, v6, v7, v8])), (q1, .inl (cyq1, 6, .inl (upd (upd (upd (upd (upd (upd (fun _ => 0) 0 x0) 1 x1) 2 x2) 3 x3) 4 x4) 5 x5)))]) (w1 := []) hP hD [] [0, 1] rfl rfl (by decide) (by decide) hk1 hFc hP1 hD1
  have hK := (hK.sub (tys' := [(cyq1, .int)]) [0] rfl).app hK1
  generalize H1 = H at hP hS ⊢
  have hP : va_P (dC, dI) vwCl [(h0, .inr (23, [v0, v1, v2, v3, v4, v5, v6, v7, v8])), (q1, .inl (cyq1, 6, .inl (upd (upd (upd (upd (upd (upd (fun _ => 0) 0 x0) 1 x1) 2 x2) 3 x3) 4 x4) 5 x5)))] H := hP
  have hD : va_D A [(h0, .inr (23, [v0, v1, v2, v3, v4, v5, v6, v7, v8])), (q1, .inl (cyq1, 6, .inl (upd (upd (upd (upd (upd (upd (fun _ => 0) 0 x0) 1 x1) 2 x2) 3 x3) 4 x4) 5 x5)))] := hD
  have hK : va_K (dC, dI) vwCl [(cyq1, .int)] s := hK
  refine W.widen (k := 1) (n := 6) (Nat.le_of_ble_eq_true rfl) (Nat.le_of_ble_eq_true rfl) ?_
  have r27 := ns_in_rng x5 (-1) 21
  refine ns_bool hx hb dX16_say_72 dX16_say_75 dX16_say_76 dX16_say_79 ?_
  have r28 := ns_not_rng (ns_in x5 (-1) 21)
  refine lv_ior hx hb dX16_say_80 ?_
  refine lv_topi (fun y29 ey29 => ?_)
  obtain rfl : y29 = 1 := ey29.trans (ns_or1 (by omega) (by omega))
  refine lv_istore (lv' := [(8, .int 1), (12, .int x5), (11, .int 5), (10, .int 6), (9, .ref q1), (7, .ref q1), (0, .ref h0), (1, .int x0), (2, .int x1), (3, .int x2), (4, .int x3), (5, .int x4), (6, .int x5)]) hx hb dX16_say_81 hl (by decide) rfl (fun ls hl => ?_)
  refine lv_iinc (v := 6) (lv' := [(11, .int 6), (8, .int 1), (12, .int x5), (10, .int 6), (9, .ref q1), (7, .ref q1), (0, .ref h0), (1, .int x0), (2, .int x1), (3, .int x2), (4, .int x3), (5, .int x4), (6, .int x5)]) hx hb dX16_say_83 hl (k := 2) rfl (by decide) (by decide) rfl (fun ls hl => ?_)
  refine lv_goto (tgt := 48) hx hb dX16_say_86 (by decide) ?_
  refine lv_iload hx hb dX16_say_48 (lv_at hl 0 rfl) ?_
  refine lv_iload hx hb dX16_say_50 (lv_at hl 3 rfl) ?_
  refine lv_icmp_ge (tgt := 89) hx hb dX16_say_52 (by decide) (fun c30 => ?_) (fun c30 => absurd (by decide) c30)
  refine lv_aload_n hx hb dX16_say_89 rfl (lv_at hl 6 rfl) ?_
  refine lv_iload hx hb dX16_say_90 (lv_at hl 1 rfl) ?_
  refine lv_iconst (v := 1) hx hb dX16_say_92 (by decide) ?_
  have hPc := hP.sub (ws' := [(h0, .inr (23, [v0, v1, v2, v3, v4, v5, v6, v7, v8]))]) [0] rfl
  have hDc := hD.sub (ws' := [(h0, .inr (23, [v0, v1, v2, v3, v4, v5, v6, v7, v8]))]) [0] (by decide) rfl
  have hKc := hK.sub (tys' := []) [] rfl
  have hFc := va_free (wc := [(h0, .inr (23, [v0, v1, v2, v3, v4, v5, v6, v7, v8]))]) hD hS hA [0] rfl
  refine va_calli (va_runV (As := [.int 1, .int 1]) (rest := []) ⟨hx, hb, hml, hown, hts⟩ (kX16_start l dC dI g H.size h0 v0 v1 v2 v3 v4 v5 v6 v7 v8 ) (cwV 2 hts (ns_gp (List.forall_mem_cons.mpr ⟨wm242, (List.forall_mem_cons.mpr ⟨wm243, (List.forall_mem_cons.mpr ⟨wm244, (List.forall_mem_cons.mpr ⟨wm192, (fun _ h9 => nomatch h9)⟩)⟩)⟩)⟩) wm239) rfl rfl rfl (by decide +kernel) ⟨Nat.le_of_ble_eq_true rfl, Nat.le_of_ble_eq_true rfl⟩) ⟨fun a U gg mk q => by obtain ⟨q0, q1, qP, qK, qD, qF⟩ := q; exact ⟨q0, q1, qP, va_K.moved (u := U) (U := U.calling gg mk a) (Vm.Alike.refl U.vm) qK, qD, ns_same qF⟩, va_recv hK hP (ci := 23) (q0 := 0) rfl rfl, fun U hU hW => ⟨rfl, by rw [hU], by rw [hU]; exact hPc, va_K.moved hW.alike hKc, hDc.weaken (fun _ _ _ _ => trivial), ns_call hF hS hFc hU hW⟩⟩ rfl rfl hl.1 rfl (lv_room (Nat.le_of_ble_eq_true rfl)) dX16_say_93 ⟨Nat.le_of_ble_eq_true rfl, Nat.le_of_ble_eq_true rfl⟩) hS (fun q _ h => hFc q h) hFc (fun r9 u t H1 locs ht hvm hw hB hz1 hk1 hS => ?_)
  obtain rfl := hw.symm
  obtain ⟨hP1, hK1, hD1⟩ := hB
  rw [ht] at hP1
  have hK1 := va_K.moved hvm.symm hK1
  obtain ⟨hP, hD⟩ := va_join (wr := [(q1, .inl (cyq1, 6, .inl (upd (upd (upd (upd (upd (upd (fun _ => 0) 0 x0) 1 x1) 2 x2) 3 x3) 4 x4) 5 x5)))]) (w1 := [(h0, .inr (23, [.int 1, v1, v2, v3, v4, v5, v6, v7, v8]))]) hP hD [0] [1] rfl rfl (by decide) (by decide) hk1 hFc hP1 hD1
  have hK := (hK.sub (tys' := [(cyq1, .int)]) [0] rfl).app hK1
  generalize H1 = H at hP hS ⊢
  have hP : va_P (dC, dI) vwCl [(q1, .inl (cyq1, 6, .inl (upd (upd (upd (upd (upd (upd (fun _ => 0) 0 x0) 1 x1) 2 x2) 3 x3) 4 x4) 5 x5))), (h0, .inr (23, [.int 1, v1, v2, v3, v4, v5, v6, v7, v8]))] H := hP
  have hD : va_D A [(q1, .inl (cyq1, 6, .inl (upd (upd (upd (upd (upd (upd (fun _ => 0) 0 x0) 1 x1) 2 x2) 3 x3) 4 x4) 5 x5))), (h0, .inr (23, [.int 1, v1, v2, v3, v4, v5, v6, v7, v8]))] := hD
  have hK : va_K (dC, dI) vwCl [(cyq1, .int)] s := hK
  refine W.widen (k := 1) (n := 6) (Nat.le_of_ble_eq_true rfl) (Nat.le_of_ble_eq_true rfl) ?_
  refine lv_if_eq (tgt := 101) hx hb dX16_say_96 (by decide) (fun c31 => absurd c31 (by decide)) (fun c31 => ?_)
  refine lv_iconst (v := 0) hx hb dX16_say_99 (by decide) ?_
  have hP9 := hP.sub (ws' := [(h0, .inr (23, [.int 1, v1, v2, v3, v4, v5, v6, v7, v8]))]) [1] rfl
  have hD9 := hD.sub (ws' := [(h0, .inr (23, [.int 1, v1, v2, v3, v4, v5, v6, v7, v8]))]) [1] (by decide) rfl
  have hK9 := hK.sub (tys' := []) [] rfl
  refine W.widen (k := 1) (n := 6) (Nat.le_of_ble_eq_true rfl) (Nat.le_of_ble_eq_true rfl) ?_
  exact W.iret (v := 0) hx hb hr (fun t ht hW => ⟨⟨_, (), rfl, rfl, by rw [ht]; exact hP9, va_K.moved hW.alike hK9, hD9⟩, hS.F ht⟩) hS.2.2 dX16_say_100
set_option maxHeartbeats 4000000 in
set_option maxRecDepth 100000 in
theorem kX9_say_10 (l : Launch) (dC : Nat → ClassId) (dI : Nat → Nat → Nat) (g : Nat → Nat) (sz : Nat) (h0 : Nat) (x0 : Int32) (x1 : Int32) (x2 : Int32) (x3 : Int32) (x4 : Int32) (x5 : Int32) (h1 : Nat) (h2 : Nat) (v0 : Value) (v1 : Value) (v2 : Value) (v3 : Value) (v4 : Value) (v5 : Value) (v6 : Value) (v7 : Value) (v8 : Value) (v9 : Value) (v10 : Value) (v11 : Value) (v12 : Value) (v13 : Value) (v14 : Value) (v15 : Value) (cc0 : ClassId) (ex0 : (-1 : Int) ≤ x0.toInt ∧ x0.toInt ≤ (21 : Int)) (ex1 : (-1 : Int) ≤ x1.toInt ∧ x1.toInt ≤ (21 : Int)) (ex2 : (-1 : Int) ≤ x2.toInt ∧ x2.toInt ≤ (21 : Int)) (ex3 : (22 : Int) ≤ x3.toInt ∧ x3.toInt ≤ (2147483647 : Int)) (hlt : l.stackTraces = false) : vx_Met l yX9_say wbX9_say ({ frames := 7, cells := 1, slots := 6, locals := 104 }) (va_Pc [.ref h0, .int x0, .int x1, .int x2, .int x3, .int x4, .int x5] (fun U => U.heap.size = sz ∧ va_P (dC, dI) vwCl [(h0, .inr (16, [v0, v1, .ref h1, v2, v3, v4, v5, v6, v7, v8, v9, v10, v11, v12, v13, v14])), (h1, .inr (11, [.ref h2, v15])), (h2, .inl (cc0, 6, .inl (fun _ => 0)))] U.heap ∧ va_K (dC, dI) vwCl [(cc0, .int)] U ∧ va_D (fun _ => True) [(h0, .inr (16, [v0, v1, .ref h1, v2, v3, v4, v5, v6, v7, v8, v9, v10, v11, v12, v13, v14])), (h1, .inr (11, [.ref h2, v15])), (h2, .inl (cc0, 6, .inl (fun _ => 0)))] ∧ ns_F g (va_A [(h0, .inr (16, [v0, v1, .ref h1, v2, v3, v4, v5, v6, v7, v8, v9, v10, v11, v12, v13, v14])), (h1, .inr (11, [.ref h2, v15])), (h2, .inl (cc0, 6, .inl (fun _ => 0)))] sz) U U.heap)) (va_Qv (fun _ : Unit => False) (fun _ _ => True) (va_A [(h0, .inr (16, [v0, v1, .ref h1, v2, v3, v4, v5, v6, v7, v8, v9, v10, v11, v12, v13, v14])), (h1, .inr (11, [.ref h2, v15])), (h2, .inl (cc0, 6, .inl (fun _ => 0)))] sz)) (vx_X (fun _ : Unit => True) (fun E _ _ => E = "java/lang/IllegalArgumentException") (va_A [(h0, .inr (16, [v0, v1, .ref h1, v2, v3, v4, v5, v6, v7, v8, v9, v10, v11, v12, v13, v14])), (h1, .inr (11, [.ref h2, v15])), (h2, .inl (cc0, 6, .inl (fun _ => 0)))] sz)) 1 6 (va_A [(h0, .inr (16, [v0, v1, .ref h1, v2, v3, v4, v5, v6, v7, v8, v9, v10, v11, v12, v13, v14])), (h1, .inr (11, [.ref h2, v15])), (h2, .inl (cc0, 6, .inl (fun _ => 0)))] sz) := by
  refine vx_ofW (cc := cX9_say) (maxL := 8) (ret := (some .int)) (by decide) rfl ?_
  intro p e s m args below meth c s₁ B hml hnox hv
  obtain ⟨rfl, hsz, hP, hK, hD0, hF⟩ := hv
  have hx := B.exec
  have hb := B.bytes
  have hr := B.returns
  have hts := atoms_spec (ws := wbX9_say) B.pre
  have hta : ∀ w ∈ wsALL, w.before _ s = true := fun w h => hts w (List.mem_cons_of_mem _ h)
  have hown : s.vm.findClass RX9 = some m.cls := findClass_of_methodNamed B.named
  have hlocks := B.notSynchronized
  subst hsz
  have hD := hD0.self (sz := s.heap.size)
  generalize hAe : va_A [(h0, .inr (16, [v0, v1, .ref h1, v2, v3, v4, v5, v6, v7, v8, v9, v10, v11, v12, v13, v14])), (h1, .inr (11, [.ref h2, v15])), (h2, .inl (cc0, 6, .inl (fun _ => 0)))] s.heap.size = A at hD hF ⊢
  have hA : ∀ q : Nat, s.heap.size ≤ q → A q := fun q h => by rw [← hAe]; exact Or.inr h
  have hS : va_S A s.heap s.heap [] := va_S.rf
  have hP : va_P (dC, dI) vwCl [(h0, .inr (16, [v0, v1, .ref h1, v2, v3, v4, v5, v6, v7, v8, v9, v10, v11, v12, v13, v14])), (h1, .inr (11, [.ref h2, v15])), (h2, .inl (cc0, 6, .inl (fun _ => 0)))] s.heap := hP
  have hl := lv_entry ([.ref h0, .int x0, .int x1, .int x2, .int x3, .int x4, .int x5]) (n := 8) (Nat.le_of_ble_eq_true rfl)
  rw [lg_entry_eq]
  generalize (lg_sl ([.ref h0, .int x0, .int x1, .int x2, .int x3, .int x4, .int x5]) ++ List.replicate (8 - (lg_sl ([.ref h0, .int x0, .int x1, .int x2, .int x3, .int x4, .int x5])).length) Slot.unset).toArray = ls at hl ⊢
  have hl : lv_has ls 8 [(0, .ref h0), (1, .int x0), (2, .int x1), (3, .int x2), (4, .int x3), (5, .int x4), (6, .int x5)] := hl
  refine lv_aload_n hx hb dX9_say_0 rfl (lv_at hl 0 rfl) ?_
  refine va_get (D := (dC, dI)) (ci := 16) (v := .ref h1) (C := RX9) (T := TX9) (N := 16) hx hb hta naX9 hown hK hP 0 rfl rfl 2 (by decide) (hta _ wm33) (fun _ h9 => h9) rfl dX9_say_1 ?_
  have hPc := hP.sub (ws' := [(h1, .inr (11, [.ref h2, v15]))]) [1] rfl
  have hDc := hD.sub (ws' := [(h1, .inr (11, [.ref h2, v15]))]) [1] (by decide) rfl
  have hKc := hK.sub (tys' := []) [] rfl
  have hFc := va_free (wc := [(h1, .inr (11, [.ref h2, v15]))]) hD hS hA [1] rfl
  refine va_callv (va_runV (As := []) (rest := []) ⟨hx, hb, hml, hown, hts⟩ (kX4_clear l dC dI g s.heap.size h1 (.ref h2) v15 ) (cwV 0 hts (ns_gp (List.forall_mem_cons.mpr ⟨wm554, (List.forall_mem_cons.mpr ⟨wm504, (List.forall_mem_cons.mpr ⟨wm505, (List.forall_mem_cons.mpr ⟨wm12, (fun _ h9 => nomatch h9)⟩)⟩)⟩)⟩) wm502) rfl rfl rfl (by decide +kernel) ⟨Nat.le_of_ble_eq_true rfl, Nat.le_of_ble_eq_true rfl⟩) ⟨fun a U gg mk q => by obtain ⟨q0, q1, qP, qK, qD, qF⟩ := q; exact ⟨q0, q1, qP, va_K.moved (u := U) (U := U.calling gg mk a) (Vm.Alike.refl U.vm) qK, qD, ns_same qF⟩, va_recv hK hP (ci := 11) (q0 := 1) rfl rfl, fun U hU hW => ⟨rfl, by rw [hU], by rw [hU]; exact hPc, va_K.moved hW.alike hKc, hDc.weaken (fun _ _ _ _ => trivial), ns_call hF hS hFc hU hW⟩⟩ rfl rfl hl.1 rfl (lv_room (Nat.le_of_ble_eq_true rfl)) dX9_say_4 ⟨Nat.le_of_ble_eq_true rfl, Nat.le_of_ble_eq_true rfl⟩) hS (fun q _ h => hFc q h) hFc (fun u t H1 locs ht hvm hw hB hz1 hk1 hS => ?_)
  obtain ⟨hP1, hK1, hD1⟩ := hB
  rw [ht] at hP1
  have hK1 := va_K.moved hvm.symm hK1
  obtain ⟨hP, hD⟩ := va_join (wr := [(h0, .inr (16, [v0, v1, .ref h1, v2, v3, v4, v5, v6, v7, v8, v9, v10, v11, v12, v13, v14])), (h2, .inl (cc0, 6, .inl (fun _ => 0)))]) (w1 := [(h1, .inr (11, [.ref h2, .int 0]))]) hP hD [1] [0, 2] rfl rfl (by decide) (by decide) hk1 hFc hP1 hD1
  have hK := (hK.sub (tys' := [(cc0, .int)]) [0] rfl).app hK1
  generalize H1 = H at hP hS ⊢
  have hP : va_P (dC, dI) vwCl [(h0, .inr (16, [v0, v1, .ref h1, v2, v3, v4, v5, v6, v7, v8, v9, v10, v11, v12, v13, v14])), (h2, .inl (cc0, 6, .inl (fun _ => 0))), (h1, .inr (11, [.ref h2, .int 0]))] H := hP
  have hD : va_D A [(h0, .inr (16, [v0, v1, .ref h1, v2, v3, v4, v5, v6, v7, v8, v9, v10, v11, v12, v13, v14])), (h2, .inl (cc0, 6, .inl (fun _ => 0))), (h1, .inr (11, [.ref h2, .int 0]))] := hD
  have hK : va_K (dC, dI) vwCl [(cc0, .int)] s := hK
  refine W.widen (k := 0) (n := 0) (Nat.le_of_ble_eq_true rfl) (Nat.le_of_ble_eq_true rfl) ?_
  refine lv_aload_n hx hb dX9_say_7 rfl (lv_at hl 0 rfl) ?_
  refine va_get (D := (dC, dI)) (ci := 16) (v := .ref h1) (C := RX9) (T := TX9) (N := 16) hx hb hta naX9 hown hK hP 0 rfl rfl 2 (by decide) (hta _ wm33) (fun _ h9 => h9) rfl dX9_say_8 ?_
  refine lv_iload_n hx hb dX9_say_11 rfl (lv_at hl 1 rfl) ?_
  have hPc := hP.sub (ws' := [(h1, .inr (11, [.ref h2, .int 0])), (h2, .inl (cc0, 6, .inl (fun _ => 0)))]) [2, 1] rfl
  have hDc := hD.sub (ws' := [(h1, .inr (11, [.ref h2, .int 0])), (h2, .inl (cc0, 6, .inl (fun _ => 0)))]) [2, 1] (by decide) rfl
  have hKc := hK.sub (tys' := [(cc0, .int)]) [0] rfl
  have hFc := va_free (wc := [(h1, .inr (11, [.ref h2, .int 0])), (h2, .inl (cc0, 6, .inl (fun _ => 0)))]) hD hS hA [2, 1] rfl
  refine va_callv (va_runV (As := [.int x0]) (rest := []) ⟨hx, hb, hml, hown, hts⟩ (kX4_add_28 l dC dI g H.size h1 x0 h2 cc0 (fun _ => 0) ⟨by omega, by omega⟩) (cwV 1 hts (ns_gp (List.forall_mem_cons.mpr ⟨wm555, (List.forall_mem_cons.mpr ⟨wm258, (List.forall_mem_cons.mpr ⟨wm259, (List.forall_mem_cons.mpr ⟨wm12, (fun _ h9 => nomatch h9)⟩)⟩)⟩)⟩) wm256) rfl rfl rfl (by decide +kernel) ⟨Nat.le_of_ble_eq_true rfl, Nat.le_of_ble_eq_true rfl⟩) ⟨fun a U gg mk q => by obtain ⟨q0, q1, qP, qK, qD, qF⟩ := q; exact ⟨q0, q1, qP, va_K.moved (u := U) (U := U.calling gg mk a) (Vm.Alike.refl U.vm) qK, qD, ns_same qF⟩, va_recv hK hP (ci := 11) (q0 := 2) rfl rfl, fun U hU hW => ⟨rfl, by rw [hU], by rw [hU]; exact hPc, va_K.moved hW.alike hKc, hDc.weaken (fun _ _ _ _ => trivial), ns_call hF hS hFc hU hW⟩⟩ rfl rfl hl.1 rfl (lv_room (Nat.le_of_ble_eq_true rfl)) dX9_say_12 ⟨Nat.le_of_ble_eq_true rfl, Nat.le_of_ble_eq_true rfl⟩) hS (fun q _ h => hFc q h) hFc (fun u t H1 locs ht hvm hw hB hz1 hk1 hS => ?_)
  obtain ⟨hP1, hK1, hD1⟩ := hB
  rw [ht] at hP1
  have hK1 := va_K.moved hvm.symm hK1
  obtain ⟨hP, hD⟩ := va_join (wr := [(h0, .inr (16, [v0, v1, .ref h1, v2, v3, v4, v5, v6, v7, v8, v9, v10, v11, v12, v13, v14]))]) (w1 := [(h1, .inr (11, [.ref h2, .int 1])), (h2, .inl (cc0, 6, .inl (upd ((fun _ => 0)) 0 x0)))]) hP hD [2, 1] [0] rfl rfl (by decide) (by decide) hk1 hFc hP1 hD1
  have hK := (hK.sub (tys' := []) [] rfl).app hK1
  generalize H1 = H at hP hS ⊢
  have hP : va_P (dC, dI) vwCl [(h0, .inr (16, [v0, v1, .ref h1, v2, v3, v4, v5, v6, v7, v8, v9, v10, v11, v12, v13, v14])), (h1, .inr (11, [.ref h2, .int 1])), (h2, .inl (cc0, 6, .inl (upd ((fun _ => 0)) 0 x0)))] H := hP
  have hD : va_D A [(h0, .inr (16, [v0, v1, .ref h1, v2, v3, v4, v5, v6, v7, v8, v9, v10, v11, v12, v13, v14])), (h1, .inr (11, [.ref h2, .int 1])), (h2, .inl (cc0, 6, .inl (upd ((fun _ => 0)) 0 x0)))] := hD
  have hK : va_K (dC, dI) vwCl [(cc0, .int)] s := hK
  refine W.widen (k := 0) (n := 0) (Nat.le_of_ble_eq_true rfl) (Nat.le_of_ble_eq_true rfl) ?_
  refine lv_aload_n hx hb dX9_say_15 rfl (lv_at hl 0 rfl) ?_
  refine va_get (D := (dC, dI)) (ci := 16) (v := .ref h1) (C := RX9) (T := TX9) (N := 16) hx hb hta naX9 hown hK hP 0 rfl rfl 2 (by decide) (hta _ wm33) (fun _ h9 => h9) rfl dX9_say_16 ?_
  refine lv_iload_n hx hb dX9_say_19 rfl (lv_at hl 2 rfl) ?_
  have hPc := hP.sub (ws' := [(h1, .inr (11, [.ref h2, .int 1])), (h2, .inl (cc0, 6, .inl (upd ((fun _ => 0)) 0 x0)))]) [1, 2] rfl
  have hDc := hD.sub (ws' := [(h1, .inr (11, [.ref h2, .int 1])), (h2, .inl (cc0, 6, .inl (upd ((fun _ => 0)) 0 x0)))]) [1, 2] (by decide) rfl
  have hKc := hK.sub (tys' := [(cc0, .int)]) [0] rfl
  have hFc := va_free (wc := [(h1, .inr (11, [.ref h2, .int 1])), (h2, .inl (cc0, 6, .inl (upd ((fun _ => 0)) 0 x0)))]) hD hS hA [1, 2] rfl
  refine va_callv (va_runV (As := [.int x1]) (rest := []) ⟨hx, hb, hml, hown, hts⟩ (kX4_add_30 l dC dI g H.size h1 x1 h2 cc0 (upd ((fun _ => 0)) 0 x0) ⟨by omega, by omega⟩) (cwV 1 hts (ns_gp (List.forall_mem_cons.mpr ⟨wm555, (List.forall_mem_cons.mpr ⟨wm258, (List.forall_mem_cons.mpr ⟨wm259, (List.forall_mem_cons.mpr ⟨wm12, (fun _ h9 => nomatch h9)⟩)⟩)⟩)⟩) wm256) rfl rfl rfl (by decide +kernel) ⟨Nat.le_of_ble_eq_true rfl, Nat.le_of_ble_eq_true rfl⟩) ⟨fun a U gg mk q => by obtain ⟨q0, q1, qP, qK, qD, qF⟩ := q; exact ⟨q0, q1, qP, va_K.moved (u := U) (U := U.calling gg mk a) (Vm.Alike.refl U.vm) qK, qD, ns_same qF⟩, va_recv hK hP (ci := 11) (q0 := 1) rfl rfl, fun U hU hW => ⟨rfl, by rw [hU], by rw [hU]; exact hPc, va_K.moved hW.alike hKc, hDc.weaken (fun _ _ _ _ => trivial), ns_call hF hS hFc hU hW⟩⟩ rfl rfl hl.1 rfl (lv_room (Nat.le_of_ble_eq_true rfl)) dX9_say_20 ⟨Nat.le_of_ble_eq_true rfl, Nat.le_of_ble_eq_true rfl⟩) hS (fun q _ h => hFc q h) hFc (fun u t H1 locs ht hvm hw hB hz1 hk1 hS => ?_)
  obtain ⟨hP1, hK1, hD1⟩ := hB
  rw [ht] at hP1
  have hK1 := va_K.moved hvm.symm hK1
  obtain ⟨hP, hD⟩ := va_join (wr := [(h0, .inr (16, [v0, v1, .ref h1, v2, v3, v4, v5, v6, v7, v8, v9, v10, v11, v12, v13, v14]))]) (w1 := [(h1, .inr (11, [.ref h2, .int 2])), (h2, .inl (cc0, 6, .inl (upd ((upd ((fun _ => 0)) 0 x0)) 1 x1)))]) hP hD [1, 2] [0] rfl rfl (by decide) (by decide) hk1 hFc hP1 hD1
  have hK := (hK.sub (tys' := []) [] rfl).app hK1
  generalize H1 = H at hP hS ⊢
  have hP : va_P (dC, dI) vwCl [(h0, .inr (16, [v0, v1, .ref h1, v2, v3, v4, v5, v6, v7, v8, v9, v10, v11, v12, v13, v14])), (h1, .inr (11, [.ref h2, .int 2])), (h2, .inl (cc0, 6, .inl (upd ((upd ((fun _ => 0)) 0 x0)) 1 x1)))] H := hP
  have hD : va_D A [(h0, .inr (16, [v0, v1, .ref h1, v2, v3, v4, v5, v6, v7, v8, v9, v10, v11, v12, v13, v14])), (h1, .inr (11, [.ref h2, .int 2])), (h2, .inl (cc0, 6, .inl (upd ((upd ((fun _ => 0)) 0 x0)) 1 x1)))] := hD
  have hK : va_K (dC, dI) vwCl [(cc0, .int)] s := hK
  refine W.widen (k := 0) (n := 0) (Nat.le_of_ble_eq_true rfl) (Nat.le_of_ble_eq_true rfl) ?_
  refine lv_aload_n hx hb dX9_say_23 rfl (lv_at hl 0 rfl) ?_
  refine va_get (D := (dC, dI)) (ci := 16) (v := .ref h1) (C := RX9) (T := TX9) (N := 16) hx hb hta naX9 hown hK hP 0 rfl rfl 2 (by decide) (hta _ wm33) (fun _ h9 => h9) rfl dX9_say_24 ?_
  refine lv_iload_n hx hb dX9_say_27 rfl (lv_at hl 3 rfl) ?_
  have hPc := hP.sub (ws' := [(h1, .inr (11, [.ref h2, .int 2])), (h2, .inl (cc0, 6, .inl (upd ((upd ((fun _ => 0)) 0 x0)) 1 x1)))]) [1, 2] rfl
  have hDc := hD.sub (ws' := [(h1, .inr (11, [.ref h2, .int 2])), (h2, .inl (cc0, 6, .inl (upd ((upd ((fun _ => 0)) 0 x0)) 1 x1)))]) [1, 2] (by decide) rfl
  have hKc := hK.sub (tys' := [(cc0, .int)]) [0] rfl
  have hFc := va_free (wc := [(h1, .inr (11, [.ref h2, .int 2])), (h2, .inl (cc0, 6, .inl (upd ((upd ((fun _ => 0)) 0 x0)) 1 x1)))]) hD hS hA [1, 2] rfl
  refine va_callv (va_runV (As := [.int x2]) (rest := []) ⟨hx, hb, hml, hown, hts⟩ (kX4_add_32 l dC dI g H.size h1 x2 h2 cc0 (upd ((upd ((fun _ => 0)) 0 x0)) 1 x1) ⟨by omega, by omega⟩) (cwV 1 hts (ns_gp (List.forall_mem_cons.mpr ⟨wm555, (List.forall_mem_cons.mpr ⟨wm258, (List.forall_mem_cons.mpr ⟨wm259, (List.forall_mem_cons.mpr ⟨wm12, (fun _ h9 => nomatch h9)⟩)⟩)⟩)⟩) wm256) rfl rfl rfl (by decide +kernel) ⟨Nat.le_of_ble_eq_true rfl, Nat.le_of_ble_eq_true rfl⟩) ⟨fun a U gg mk q => by obtain ⟨q0, q1, qP, qK, qD, qF⟩ := q; exact ⟨q0, q1, qP, va_K.moved (u := U) (U := U.calling gg mk a) (Vm.Alike.refl U.vm) qK, qD, ns_same qF⟩, va_recv hK hP (ci := 11) (q0 := 1) rfl rfl, fun U hU hW => ⟨rfl, by rw [hU], by rw [hU]; exact hPc, va_K.moved hW.alike hKc, hDc.weaken (fun _ _ _ _ => trivial), ns_call hF hS hFc hU hW⟩⟩ rfl rfl hl.1 rfl (lv_room (Nat.le_of_ble_eq_true rfl)) dX9_say_28 ⟨Nat.le_of_ble_eq_true rfl, Nat.le_of_ble_eq_true rfl⟩) hS (fun q _ h => hFc q h) hFc (fun u t H1 locs ht hvm hw hB hz1 hk1 hS => ?_)
  obtain ⟨hP1, hK1, hD1⟩ := hB
  rw [ht] at hP1
  have hK1 := va_K.moved hvm.symm hK1
  obtain ⟨hP, hD⟩ := va_join (wr := [(h0, .inr (16, [v0, v1, .ref h1, v2, v3, v4, v5, v6, v7, v8, v9, v10, v11, v12, v13, v14]))]) (w1 := [(h1, .inr (11, [.ref h2, .int 3])), (h2, .inl (cc0, 6, .inl (upd ((upd ((upd ((fun _ => 0)) 0 x0)) 1 x1)) 2 x2)))]) hP hD [1, 2] [0] rfl rfl (by decide) (by decide) hk1 hFc hP1 hD1
  have hK := (hK.sub (tys' := []) [] rfl).app hK1
  generalize H1 = H at hP hS ⊢
  have hP : va_P (dC, dI) vwCl [(h0, .inr (16, [v0, v1, .ref h1, v2, v3, v4, v5, v6, v7, v8, v9, v10, v11, v12, v13, v14])), (h1, .inr (11, [.ref h2, .int 3])), (h2, .inl (cc0, 6, .inl (upd ((upd ((upd ((fun _ => 0)) 0 x0)) 1 x1)) 2 x2)))] H := hP
  have hD : va_D A [(h0, .inr (16, [v0, v1, .ref h1, v2, v3, v4, v5, v6, v7, v8, v9, v10, v11, v12, v13, v14])), (h1, .inr (11, [.ref h2, .int 3])), (h2, .inl (cc0, 6, .inl (upd ((upd ((upd ((fun _ => 0)) 0 x0)) 1 x1)) 2 x2)))] := hD
  have hK : va_K (dC, dI) vwCl [(cc0, .int)] s := hK
  refine W.widen (k := 0) (n := 0) (Nat.le_of_ble_eq_true rfl) (Nat.le_of_ble_eq_true rfl) ?_
  refine lv_aload_n hx hb dX9_say_31 rfl (lv_at hl 0 rfl) ?_
  refine va_get (D := (dC, dI)) (ci := 16) (v := .ref h1) (C := RX9) (T := TX9) (N := 16) hx hb hta naX9 hown hK hP 0 rfl rfl 2 (by decide) (hta _ wm33) (fun _ h9 => h9) rfl dX9_say_32 ?_
  refine lv_iload hx hb dX9_say_35 (lv_at hl 4 rfl) ?_
  have hPc := hP.sub (ws' := [(h1, .inr (11, [.ref h2, .int 3])), (h2, .inl (cc0, 6, .inl (upd ((upd ((upd ((fun _ => 0)) 0 x0)) 1 x1)) 2 x2)))]) [1, 2] rfl
  have hDc := hD.sub (ws' := [(h1, .inr (11, [.ref h2, .int 3])), (h2, .inl (cc0, 6, .inl (upd ((upd ((upd ((fun _ => 0)) 0 x0)) 1 x1)) 2 x2)))]) [1, 2] (by decide) rfl
  have hKc := hK.sub (tys' := [(cc0, .int)]) [0] rfl
  have hFc := va_free (wc := [(h1, .inr (11, [.ref h2, .int 3])), (h2, .inl (cc0, 6, .inl (upd ((upd ((upd ((fun _ => 0)) 0 x0)) 1 x1)) 2 x2)))]) hD hS hA [1, 2] rfl
  refine va_callv (va_runV (As := [.int x3]) (rest := []) ⟨hx, hb, hml, hown, hts⟩ (kX4_add_47 l dC dI g H.size h1 x3 h2 cc0 (upd ((upd ((upd ((fun _ => 0)) 0 x0)) 1 x1)) 2 x2) ⟨by omega, by omega⟩) (cwV 1 hts (ns_gp (List.forall_mem_cons.mpr ⟨wm555, (List.forall_mem_cons.mpr ⟨wm258, (List.forall_mem_cons.mpr ⟨wm259, (List.forall_mem_cons.mpr ⟨wm12, (fun _ h9 => nomatch h9)⟩)⟩)⟩)⟩) wm256) rfl rfl rfl (by decide +kernel) ⟨Nat.le_of_ble_eq_true rfl, Nat.le_of_ble_eq_true rfl⟩) ⟨fun a U gg mk q => by obtain ⟨q0, q1, qP, qK, qD, qF⟩ := q; exact ⟨q0, q1, qP, va_K.moved (u := U) (U := U.calling gg mk a) (Vm.Alike.refl U.vm) qK, qD, ns_same qF⟩, va_recv hK hP (ci := 11) (q0 := 1) rfl rfl, fun U hU hW => ⟨rfl, by rw [hU], by rw [hU]; exact hPc, va_K.moved hW.alike hKc, hDc.weaken (fun _ _ _ _ => trivial), ns_call hF hS hFc hU hW⟩⟩ rfl rfl hl.1 rfl (lv_room (Nat.le_of_ble_eq_true rfl)) dX9_say_37 ⟨Nat.le_of_ble_eq_true rfl, Nat.le_of_ble_eq_true rfl⟩) hS (fun q _ h => hFc q h) hFc (fun u t H1 locs ht hvm hw hB hz1 hk1 hS => ?_)
  obtain ⟨hP1, hK1, hD1⟩ := hB
  rw [ht] at hP1
  have hK1 := va_K.moved hvm.symm hK1
  obtain ⟨hP, hD⟩ := va_join (wr := [(h0, .inr (16, [v0, v1, .ref h1, v2, v3, v4, v5, v6, v7, v8, v9, v10, v11, v12, v13, v14]))]) (w1 := [(h1, .inr (11, [.ref h2, .int 4])), (h2, .inl (cc0, 6, .inl (upd ((upd ((upd ((upd ((fun _ => 0)) 0 x0)) 1 x1)) 2 x2)) 3 x3)))]) hP hD [1, 2] [0] rfl rfl (by decide) (by decide) hk1 hFc hP1 hD1
  have hK := (hK.sub (tys' := []) [] rfl).app hK1
  generalize H1 = H at hP hS ⊢
  have hP : va_P (dC, dI) vwCl [(h0, .inr (16, [v0, v1, .ref h1, v2, v3, v4, v5, v6, v7, v8, v9, v10, v11, v12, v13, v14])), (h1, .inr (11, [.ref h2, .int 4])), (h2, .inl (cc0, 6, .inl (upd ((upd ((upd ((upd ((fun _ => 0)) 0 x0)) 1 x1)) 2 x2)) 3 x3)))] H := hP
  have hD : va_D A [(h0, .inr (16, [v0, v1, .ref h1, v2, v3, v4, v5, v6, v7, v8, v9, v10, v11, v12, v13, v14])), (h1, .inr (11, [.ref h2, .int 4])), (h2, .inl (cc0, 6, .inl (upd ((upd ((upd ((upd ((fun _ => 0)) 0 x0)) 1 x1)) 2 x2)) 3 x3)))] := hD
  have hK : va_K (dC, dI) vwCl [(cc0, .int)] s := hK
  refine W.widen (k := 0) (n := 0) (Nat.le_of_ble_eq_true rfl) (Nat.le_of_ble_eq_true rfl) ?_
  refine lv_aload_n hx hb dX9_say_40 rfl (lv_at hl 0 rfl) ?_
  refine va_get (D := (dC, dI)) (ci := 16) (v := .ref h1) (C := RX9) (T := TX9) (N := 16) hx hb hta naX9 hown hK hP 0 rfl rfl 2 (by decide) (hta _ wm33) (fun _ h9 => h9) rfl dX9_say_41 ?_
  refine lv_iload hx hb dX9_say_44 (lv_at hl 5 rfl) ?_
  have hPc := hP.sub (ws' := [(h1, .inr (11, [.ref h2, .int 4])), (h2, .inl (cc0, 6, .inl (upd ((upd ((upd ((upd ((fun _ => 0)) 0 x0)) 1 x1)) 2 x2)) 3 x3)))]) [1, 2] rfl
  have hDc := hD.sub (ws' := [(h1, .inr (11, [.ref h2, .int 4])), (h2, .inl (cc0, 6, .inl (upd ((upd ((upd ((upd ((fun _ => 0)) 0 x0)) 1 x1)) 2 x2)) 3 x3)))]) [1, 2] (by decide) rfl
  have hKc := hK.sub (tys' := [(cc0, .int)]) [0] rfl
  have hFc := va_free (wc := [(h1, .inr (11, [.ref h2, .int 4])), (h2, .inl (cc0, 6, .inl (upd ((upd ((upd ((upd ((fun _ => 0)) 0 x0)) 1 x1)) 2 x2)) 3 x3)))]) hD hS hA [1, 2] rfl
  refine va_callv (va_runV (As := [.int x4]) (rest := []) ⟨hx, hb, hml, hown, hts⟩ (kX4_add_26 l dC dI g H.size h1 x4 h2 cc0 (upd ((upd ((upd ((upd ((fun _ => 0)) 0 x0)) 1 x1)) 2 x2)) 3 x3) ) (cwV 1 hts (ns_gp (List.forall_mem_cons.mpr ⟨wm555, (List.forall_mem_cons.mpr ⟨wm258, (List.forall_mem_cons.mpr ⟨wm259, (List.forall_mem_cons.mpr ⟨wm12, (fun _ h9 => nomatch h9)⟩)⟩)⟩)⟩) wm256) rfl rfl rfl (by decide +kernel) ⟨Nat.le_of_ble_eq_true rfl, Nat.le_of_ble_eq_true rfl⟩) ⟨fun a U gg mk q => by obtain ⟨q0, q1, qP, qK, qD, qF⟩ := q; exact ⟨q0, q1, qP, va_K.moved (u := U) (U := U.calling gg mk a) (Vm.Alike.refl U.vm) qK, qD, ns_same qF⟩, va_recv hK hP (ci := 11) (q0 := 1) rfl rfl, fun U hU hW => ⟨rfl, by rw [hU], by rw [hU]; exact hPc, va_K.moved hW.alike hKc, hDc.weaken (fun _ _ _ _ => trivial), ns_call hF hS hFc hU hW⟩⟩ rfl rfl hl.1 rfl (lv_room (Nat.le_of_ble_eq_true rfl)) dX9_say_46 ⟨Nat.le_of_ble_eq_true rfl, Nat.le_of_ble_eq_true rfl⟩) hS (fun q _ h => hFc q h) hFc (fun u t H1 locs ht hvm hw hB hz1 hk1 hS => ?_)
  obtain ⟨hP1, hK1, hD1⟩ := hB
  rw [ht] at hP1
  have hK1 := va_K.moved hvm.symm hK1
  obtain ⟨hP, hD⟩ := va_join (wr := [(h0, .inr (16, [v0, v1, .ref h1, v2, v3, v4, v5, v6, v7, v8, v9, v10, v11, v12, v13, v14]))]) (w1 := [(h1, .inr (11, [.ref h2, .int 5])), (h2, .inl (cc0, 6, .inl (upd ((upd ((upd ((upd ((upd ((fun _ => 0)) 0 x0)) 1 x1)) 2 x2)) 3 x3)) 4 x4)))]) hP hD [1, 2] [0] rfl rfl (by decide) (by decide) hk1 hFc hP1 hD1
  have hK := (hK.sub (tys' := []) [] rfl).app hK1
  generalize H1 = H at hP hS ⊢
  have hP : va_P (dC, dI) vwCl [(h0, .inr (16, [v0, v1, .ref h1, v2, v3, v4, v5, v6, v7, v8, v9, v10, v11, v12, v13, v14])), (h1, .inr (11, [.ref h2, .int 5])), (h2, .inl (cc0, 6, .inl (upd ((upd ((upd ((upd ((upd ((fun _ => 0)) 0 x0)) 1 x1)) 2 x2)) 3 x3)) 4 x4)))] H := hP
  have hD : va_D A [(h0, .inr (16, [v0, v1, .ref h1, v2, v3, v4, v5, v6, v7, v8, v9, v10, v11, v12, v13, v14])), (h1, .inr (11, [.ref h2, .int 5])), (h2, .inl (cc0, 6, .inl (upd ((upd ((upd ((upd ((upd ((fun _ => 0)) 0 x0)) 1 x1)) 2 x2)) 3 x3)) 4 x4)))] := hD
  have hK : va_K (dC, dI) vwCl [(cc0, .int)] s := hK
  refine W.widen (k := 0) (n := 0) (Nat.le_of_ble_eq_true rfl) (Nat.le_of_ble_eq_true rfl) ?_
  refine lv_aload_n hx hb dX9_say_49 rfl (lv_at hl 0 rfl) ?_
  refine va_get (D := (dC, dI)) (ci := 16) (v := .ref h1) (C := RX9) (T := TX9) (N := 16) hx hb hta naX9 hown hK hP 0 rfl rfl 2 (by decide) (hta _ wm33) (fun _ h9 => h9) rfl dX9_say_50 ?_
  refine lv_iload hx hb dX9_say_53 (lv_at hl 6 rfl) ?_
  have hPc := hP.sub (ws' := [(h1, .inr (11, [.ref h2, .int 5])), (h2, .inl (cc0, 6, .inl (upd ((upd ((upd ((upd ((upd ((fun _ => 0)) 0 x0)) 1 x1)) 2 x2)) 3 x3)) 4 x4)))]) [1, 2] rfl
  have hDc := hD.sub (ws' := [(h1, .inr (11, [.ref h2, .int 5])), (h2, .inl (cc0, 6, .inl (upd ((upd ((upd ((upd ((upd ((fun _ => 0)) 0 x0)) 1 x1)) 2 x2)) 3 x3)) 4 x4)))]) [1, 2] (by decide) rfl
  have hKc := hK.sub (tys' := [(cc0, .int)]) [0] rfl
  have hFc := va_free (wc := [(h1, .inr (11, [.ref h2, .int 5])), (h2, .inl (cc0, 6, .inl (upd ((upd ((upd ((upd ((upd ((fun _ => 0)) 0 x0)) 1 x1)) 2 x2)) 3 x3)) 4 x4)))]) hD hS hA [1, 2] rfl
  refine va_callv (va_runV (As := [.int x5]) (rest := []) ⟨hx, hb, hml, hown, hts⟩ (kX4_add_27 l dC dI g H.size h1 x5 h2 cc0 (upd ((upd ((upd ((upd ((upd ((fun _ => 0)) 0 x0)) 1 x1)) 2 x2)) 3 x3)) 4 x4) ) (cwV 1 hts (ns_gp (List.forall_mem_cons.mpr ⟨wm555, (List.forall_mem_cons.mpr ⟨wm258, (List.forall_mem_cons.mpr ⟨wm259, (List.forall_mem_cons.mpr ⟨wm12, (fun _ h9 => nomatch h9)⟩)⟩)⟩)⟩) wm256) rfl rfl rfl (by decide +kernel) ⟨Nat.le_of_ble_eq_true rfl, Nat.le_of_ble_eq_true rfl⟩) ⟨fun a U gg mk q => by obtain ⟨q0, q1, qP, qK, qD, qF⟩ := q; exact ⟨q0, q1, qP, va_K.moved (u := U) (U := U.calling gg mk a) (Vm.Alike.refl U.vm) qK, qD, ns_same qF⟩, va_recv hK hP (ci := 11) (q0 := 1) rfl rfl, fun U hU hW => ⟨rfl, by rw [hU], by rw [hU]; exact hPc, va_K.moved hW.alike hKc, hDc.weaken (fun _ _ _ _ => trivial), ns_call hF hS hFc hU hW⟩⟩ rfl rfl hl.1 rfl (lv_room (Nat.le_of_ble_eq_true rfl)) dX9_say_55 ⟨Nat.le_of_ble_eq_true rfl, Nat.le_of_ble_eq_true rfl⟩) hS (fun q _ h => hFc q h) hFc (fun u t H1 locs ht hvm hw hB hz1 hk1 hS => ?_)
  obtain ⟨hP1, hK1, hD1⟩ := hB
  rw [ht] at hP1
  have hK1 := va_K.moved hvm.symm hK1
  obtain ⟨hP, hD⟩ := va_join (wr := [(h0, .inr (16, [v0, v1, .ref h1, v2, v3, v4, v5, v6, v7, v8, v9, v10, v11, v12, v13, v14]))]) (w1 := [(h1, .inr (11, [.ref h2, .int 6])), (h2, .inl (cc0, 6, .inl (upd ((upd ((upd ((upd ((upd ((upd ((fun _ => 0)) 0 x0)) 1 x1)) 2 x2)) 3 x3)) 4 x4)) 5 x5)))]) hP hD [1, 2] [0] rfl rfl (by decide) (by decide) hk1 hFc hP1 hD1
  have hK := (hK.sub (tys' := []) [] rfl).app hK1
  generalize H1 = H at hP hS ⊢
  have hP : va_P (dC, dI) vwCl [(h0, .inr (16, [v0, v1, .ref h1, v2, v3, v4, v5, v6, v7, v8, v9, v10, v11, v12, v13, v14])), (h1, .inr (11, [.ref h2, .int 6])), (h2, .inl (cc0, 6, .inl (upd ((upd ((upd ((upd ((upd ((upd ((fun _ => 0)) 0 x0)) 1 x1)) 2 x2)) 3 x3)) 4 x4)) 5 x5)))] H := hP
  have hD : va_D A [(h0, .inr (16, [v0, v1, .ref h1, v2, v3, v4, v5, v6, v7, v8, v9, v10, v11, v12, v13, v14])), (h1, .inr (11, [.ref h2, .int 6])), (h2, .inl (cc0, 6, .inl (upd ((upd ((upd ((upd ((upd ((upd ((fun _ => 0)) 0 x0)) 1 x1)) 2 x2)) 3 x3)) 4 x4)) 5 x5)))] := hD
  have hK : va_K (dC, dI) vwCl [(cc0, .int)] s := hK
  refine W.widen (k := 0) (n := 0) (Nat.le_of_ble_eq_true rfl) (Nat.le_of_ble_eq_true rfl) ?_
  refine lv_aload_n hx hb dX9_say_58 rfl (lv_at hl 0 rfl) ?_
  have hPc := hP.sub (ws' := [(h0, .inr (16, [v0, v1, .ref h1, v2, v3, v4, v5, v6, v7, v8, v9, v10, v11, v12, v13, v14])), (h1, .inr (11, [.ref h2, .int 6])), (h2, .inl (cc0, 6, .inl (upd (upd (upd (upd (upd (upd (fun _ => 0) 0 x0) 1 x1) 2 x2) 3 x3) 4 x4) 5 x5)))]) [0, 1, 2] rfl
  have hDc := hD.sub (ws' := [(h0, .inr (16, [v0, v1, .ref h1, v2, v3, v4, v5, v6, v7, v8, v9, v10, v11, v12, v13, v14])), (h1, .inr (11, [.ref h2, .int 6])), (h2, .inl (cc0, 6, .inl (upd (upd (upd (upd (upd (upd (fun _ => 0) 0 x0) 1 x1) 2 x2) 3 x3) 4 x4) 5 x5)))]) [0, 1, 2] (by decide) rfl
  have hKc := hK.sub (tys' := [(cc0, .int)]) [0] rfl
  have hFc := va_free (wc := [(h0, .inr (16, [v0, v1, .ref h1, v2, v3, v4, v5, v6, v7, v8, v9, v10, v11, v12, v13, v14])), (h1, .inr (11, [.ref h2, .int 6])), (h2, .inl (cc0, 6, .inl (upd (upd (upd (upd (upd (upd (fun _ => 0) 0 x0) 1 x1) 2 x2) 3 x3) 4 x4) 5 x5)))]) hD hS hA [0, 1, 2] rfl
  refine vx_callv (vx_runV (As := []) (rest := []) ⟨hx, hb, hml, hown, hts⟩ (kX9_needCodes_10 l dC dI g H.size h0 h1 h2 v0 v1 v2 v3 v4 v5 v6 v7 v8 v9 v10 v11 v12 v13 v14 cc0 x0 x1 x2 x3 x4 x5 ⟨by omega, by omega⟩ ⟨by omega, by omega⟩ ⟨by omega, by omega⟩ ⟨by omega, by omega⟩ hlt) (cwV 0 hts (ns_gp (List.forall_mem_cons.mpr ⟨wm556, (List.forall_mem_cons.mpr ⟨wm557, (List.forall_mem_cons.mpr ⟨wm558, (List.forall_mem_cons.mpr ⟨wm2, (fun _ h9 => nomatch h9)⟩)⟩)⟩)⟩) wm553) rfl rfl rfl (by decide +kernel) ⟨Nat.le_of_ble_eq_true rfl, Nat.le_of_ble_eq_true rfl⟩) ⟨fun a U gg mk q => by obtain ⟨q0, q1, qP, qK, qD, qF⟩ := q; exact ⟨q0, q1, qP, va_K.moved (u := U) (U := U.calling gg mk a) (Vm.Alike.refl U.vm) qK, qD, ns_same qF⟩, va_recv hK hP (ci := 16) (q0 := 0) rfl rfl, fun U hU hW => ⟨rfl, by rw [hU], by rw [hU]; exact hPc, va_K.moved hW.alike hKc, hDc.weaken (fun _ _ _ _ => trivial), ns_call hF hS hFc hU hW⟩⟩ rfl rfl hl.1 rfl (lv_room (Nat.le_of_ble_eq_true rfl)) dX9_say_59 ⟨Nat.le_of_ble_eq_true rfl, Nat.le_of_ble_eq_true rfl⟩) hS (fun q _ h => hFc q h) hFc (fun q _ h => hFc q h) (fun E ce q9 u t H1 locs ht hvm hw hB hz1 hk1 hS hc1 hc2 hc3 => ?_) (fun _ _ _ _ _ _ hw _ _ _ _ => False.elim hw)
  obtain rfl : E = "java/lang/IllegalArgumentException" := hB
  exact vx_out (fun x hx => (hnox x hx).elim) hlocks hc1 hc2 hc3 (fun t9 ht9 hal => ⟨(), trivial, rfl, hS.F ht9⟩) hS.2.2 (Nat.le_of_ble_eq_true rfl) (Nat.le_of_ble_eq_true rfl)
set_option maxHeartbeats 4000000 in
set_option maxRecDepth 100000 in
theorem kX16_houseTold_8 (l : Launch) (dC : Nat → ClassId) (dI : Nat → Nat → Nat) (g : Nat → Nat) (sz : Nat) (h0 : Nat) (h1 : Nat) (v0 : Value) (v1 : Value) (v2 : Value) : Met l yX16_houseTold wbX16_houseTold ({ frames := 3, cells := 2, slots := 12, locals := 53 }) (va_Pc [.ref h0, .int 7] (fun U => U.heap.size = sz ∧ va_P (dC, dI) vwCl [(h0, .inr (23, [v0, .ref h1, .int 20, .int 60, .ref (g 34), v1, .int 0, .int 0, .int 0])), (h1, .inr (6, [.int 0, v2, .int 0]))] U.heap ∧ va_K (dC, dI) vwCl [] U ∧ va_D (fun _ => True) [(h0, .inr (23, [v0, .ref h1, .int 20, .int 60, .ref (g 34), v1, .int 0, .int 0, .int 0])), (h1, .inr (6, [.int 0, v2, .int 0]))] ∧ ns_F g (va_A [(h0, .inr (23, [v0, .ref h1, .int 20, .int 60, .ref (g 34), v1, .int 0, .int 0, .int 0])), (h1, .inr (6, [.int 0, v2, .int 0]))] sz) U U.heap)) (va_Qi (fun (r : Int32) (_ : Unit) => r = 0) (fun _ t => ∃ k0 : Nat, ∃ k1 : Nat, ∃ kc2 : ClassId, va_P (dC, dI) vwCl [(h0, .inr (23, [v0, .ref h1, .int 20, .int 60, .ref (g 34), v1, .int 0, .int 0, .int 0])), (k0, .inr (5, [.int 0, .int (-1), .int 0, .ref h1])), (k1, .inl (kc2, 8, .inl (upd (upd (upd (upd (upd (upd (upd (upd (fun _ => 0) 0 0) 1 20) 2 60) 3 0) 4 0) 5 0) 6 0) 7 0))), (h1, .inr (6, [.int 0, v2, .int 0]))] t.heap ∧ va_K (dC, dI) vwCl [(kc2, .int)] t ∧ va_D (va_A [(h0, .inr (23, [v0, .ref h1, .int 20, .int 60, .ref (g 34), v1, .int 0, .int 0, .int 0])), (h1, .inr (6, [.int 0, v2, .int 0]))] sz) [(h0, .inr (23, [v0, .ref h1, .int 20, .int 60, .ref (g 34), v1, .int 0, .int 0, .int 0])), (k0, .inr (5, [.int 0, .int (-1), .int 0, .ref h1])), (k1, .inl (kc2, 8, .inl (upd (upd (upd (upd (upd (upd (upd (upd (fun _ => 0) 0 0) 1 20) 2 60) 3 0) 4 0) 5 0) 6 0) 7 0))), (h1, .inr (6, [.int 0, v2, .int 0]))]) (va_A [(h0, .inr (23, [v0, .ref h1, .int 20, .int 60, .ref (g 34), v1, .int 0, .int 0, .int 0])), (h1, .inr (6, [.int 0, v2, .int 0]))] sz)) 2 12 (va_A [(h0, .inr (23, [v0, .ref h1, .int 20, .int 60, .ref (g 34), v1, .int 0, .int 0, .int 0])), (h1, .inr (6, [.int 0, v2, .int 0]))] sz) := by
  refine Met.ofW (cc := cX16_houseTold) (maxL := 5) (ret := (some .int)) (by decide) rfl ?_
  intro p e s m args below meth c s₁ B hml hv
  obtain ⟨rfl, hsz, hP, hK, hD0, hF⟩ := hv
  have hx := B.exec
  have hb := B.bytes
  have hr := B.returns
  have hts := atoms_spec (ws := wbX16_houseTold) B.pre
  have hta : ∀ w ∈ wsALL, w.before _ s = true := fun w h => hts w (List.mem_cons_of_mem _ h)
  have hown : s.vm.findClass RX16 = some m.cls := findClass_of_methodNamed B.named
  have hlocks := B.notSynchronized
  subst hsz
  have hD := hD0.self (sz := s.heap.size)
  generalize hAe : va_A [(h0, .inr (23, [v0, .ref h1, .int 20, .int 60, .ref (g 34), v1, .int 0, .int 0, .int 0])), (h1, .inr (6, [.int 0, v2, .int 0]))] s.heap.size = A at hD hF ⊢
  have hA : ∀ q : Nat, s.heap.size ≤ q → A q := fun q h => by rw [← hAe]; exact Or.inr h
  have hS : va_S A s.heap s.heap [] := va_S.rf
  have hP : va_P (dC, dI) vwCl [(h0, .inr (23, [v0, .ref h1, .int 20, .int 60, .ref (g 34), v1, .int 0, .int 0, .int 0])), (h1, .inr (6, [.int 0, v2, .int 0]))] s.heap := hP
  have hl := lv_entry ([.ref h0, .int 7]) (n := 5) (Nat.le_of_ble_eq_true rfl)
  rw [lg_entry_eq]
  generalize (lg_sl ([.ref h0, .int 7]) ++ List.replicate (5 - (lg_sl ([.ref h0, .int 7])).length) Slot.unset).toArray = ls at hl ⊢
  have hl : lv_has ls 5 [(0, .ref h0), (1, .int 7)] := hl
  refine lv_iconst (v := 0) hx hb dX16_houseTold_0 (by decide) ?_
  refine lv_istore_n (lv' := [(2, .int 0), (0, .ref h0), (1, .int 7)]) hx hb dX16_houseTold_1 rfl hl (by decide) rfl (fun ls hl => ?_)
  refine lv_aload_n hx hb dX16_houseTold_2 rfl (lv_at hl 1 rfl) ?_
  refine va_get (D := (dC, dI)) (ci := 23) (v := .ref h1) (C := RX16) (T := TX16) (N := 9) hx hb hta naX16 hown hK hP 0 rfl rfl 1 (by decide) (hta _ wm210) (fun _ h9 => h9) rfl dX16_houseTold_3 ?_
  have hPc := hP.sub (ws' := [(h1, .inr (6, [.int 0, v2, .int 0]))]) [1] rfl
  have hDc := hD.sub (ws' := [(h1, .inr (6, [.int 0, v2, .int 0]))]) [1] (by decide) rfl
  have hKc := hK.sub (tys' := []) [] rfl
  have hFc := va_free (wc := [(h1, .inr (6, [.int 0, v2, .int 0]))]) hD hS hA [1] rfl
  refine va_callr (va_runV (As := []) (rest := []) ⟨hx, hb, hml, hown, hts⟩ (kJx4a65c_iterator_32c93 l dC dI g s.heap.size h1 v2 (.int 0) ) (cwV 0 hts (ns_gp (List.forall_mem_cons.mpr ⟨wm994, (List.forall_mem_cons.mpr ⟨wm718, (List.forall_mem_cons.mpr ⟨wm719, (List.forall_mem_cons.mpr ⟨wm196, (fun _ h9 => nomatch h9)⟩)⟩)⟩)⟩) wm714) rfl rfl rfl (by decide +kernel) ⟨Nat.le_of_ble_eq_true rfl, Nat.le_of_ble_eq_true rfl⟩) ⟨fun a U gg mk q => by obtain ⟨q0, q1, qP, qK, qD, qF⟩ := q; exact ⟨q0, q1, qP, va_K.moved (u := U) (U := U.calling gg mk a) (Vm.Alike.refl U.vm) qK, qD, ns_same qF⟩, va_recv hK hP (ci := 6) (q0 := 1) rfl rfl, fun U hU hW => ⟨rfl, by rw [hU], by rw [hU]; exact hPc, va_K.moved hW.alike hKc, hDc.weaken (fun _ _ _ _ => trivial), ns_call hF hS hFc hU hW⟩⟩ rfl rfl hl.1 rfl (lv_room (Nat.le_of_ble_eq_true rfl)) dX16_houseTold_6 ⟨Nat.le_of_ble_eq_true rfl, Nat.le_of_ble_eq_true rfl⟩) hS (fun q _ h => hFc q h) hFc (fun u r9 t H1 locs ht hvm hw hB hz1 hk1 hS => ?_)
  obtain ⟨q1, hr9, hP1, hK1, hD1⟩ := hB
  obtain rfl := hr9.symm
  rw [ht] at hP1
  have hK1 := va_K.moved hvm.symm hK1
  obtain ⟨hP, hD⟩ := va_join (wr := [(h0, .inr (23, [v0, .ref h1, .int 20, .int 60, .ref (g 34), v1, .int 0, .int 0, .int 0]))]) (w1 := [(q1, .inr (5, [.int 0, .int (-1), .int 0, .ref h1])), (h1, .inr (6, [.int 0, v2, .int 0]))]) hP hD [1] [0] rfl rfl (by decide) (by decide) hk1 hFc hP1 hD1
  have hK := (hK.sub (tys' := []) [] rfl).app hK1
  generalize H1 = H at hP hS ⊢
  have hP : va_P (dC, dI) vwCl [(h0, .inr (23, [v0, .ref h1, .int 20, .int 60, .ref (g 34), v1, .int 0, .int 0, .int 0])), (q1, .inr (5, [.int 0, .int (-1), .int 0, .ref h1])), (h1, .inr (6, [.int 0, v2, .int 0]))] H := hP
  have hD : va_D A [(h0, .inr (23, [v0, .ref h1, .int 20, .int 60, .ref (g 34), v1, .int 0, .int 0, .int 0])), (q1, .inr (5, [.int 0, .int (-1), .int 0, .ref h1])), (h1, .inr (6, [.int 0, v2, .int 0]))] := hD
  have hK : va_K (dC, dI) vwCl [] s := hK
  refine W.widen (k := 1) (n := 4) (Nat.le_of_ble_eq_true rfl) (Nat.le_of_ble_eq_true rfl) ?_
  refine lv_astore_n (lv' := [(3, .ref q1), (2, .int 0), (0, .ref h0), (1, .int 7)]) hx hb dX16_houseTold_9 rfl hl (by decide) rfl (fun ls hl => ?_)
  refine lv_aload_n hx hb dX16_houseTold_10 rfl (lv_at hl 0 rfl) ?_
  have hPc := hP.sub (ws' := [(q1, .inr (5, [.int 0, .int (-1), .int 0, .ref h1])), (h1, .inr (6, [.int 0, v2, .int 0]))]) [1, 2] rfl
  have hDc := hD.sub (ws' := [(q1, .inr (5, [.int 0, .int (-1), .int 0, .ref h1])), (h1, .inr (6, [.int 0, v2, .int 0]))]) [1, 2] (by decide) rfl
  have hKc := hK.sub (tys' := []) [] rfl
  have hFc := va_free (wc := [(q1, .inr (5, [.int 0, .int (-1), .int 0, .ref h1])), (h1, .inr (6, [.int 0, v2, .int 0]))]) hD hS hA [1, 2] rfl
  refine va_callFi (va_runF (hK.1 5 _ rfl).2 (As := []) (rest := []) ⟨hx, hb, hml, hown, hts⟩ (kJx35411_hasNext_aae02 l dC dI g H.size q1 h1 (.int (-1)) (.int 0) (.int 0) v2 ) (va_cwF 0 hts (ns_gp (List.forall_mem_cons.mpr ⟨wm995, (List.forall_mem_cons.mpr ⟨wm721, (List.forall_mem_cons.mpr ⟨wm722, (List.forall_mem_cons.mpr ⟨wm705, (fun _ h9 => nomatch h9)⟩)⟩)⟩)⟩) wm716) rfl rfl rfl (ns_f52 hF) (by decide +kernel) ⟨Nat.le_of_ble_eq_true rfl, Nat.le_of_ble_eq_true rfl⟩) ⟨fun a U gg mk q => by obtain ⟨q0, q1, qP, qK, qD, qF⟩ := q; exact ⟨q0, q1, qP, va_K.moved (u := U) (U := U.calling gg mk a) (Vm.Alike.refl U.vm) qK, qD, ns_same qF⟩, va_recv hK hP (ci := 5) (q0 := 1) rfl rfl, fun U hU hW => ⟨rfl, by rw [hU], by rw [hU]; exact hPc, va_K.moved hW.alike hKc, hDc.weaken (fun _ _ _ _ => trivial), ns_call hF hS hFc hU hW⟩⟩ rfl rfl hl.1 rfl (lv_room (Nat.le_of_ble_eq_true rfl)) dX16_houseTold_11 ⟨Nat.le_of_ble_eq_true rfl, Nat.le_of_ble_eq_true rfl⟩) hS (fun q _ h => hFc q h) hFc (fun r9 u t H1 locs ht hvm hw hB hz1 hk1 hS => ?_)
  obtain rfl := hw.symm
  obtain ⟨hP1, hK1, hD1⟩ := hB
  rw [ht] at hP1
  have hK1 := va_K.moved hvm.symm hK1
  obtain ⟨hP, hD⟩ := va_join (wr := [(h0, .inr (23, [v0, .ref h1, .int 20, .int 60, .ref (g 34), v1, .int 0, .int 0, .int 0]))]) (w1 := [(q1, .inr (5, [.int 0, .int (-1), .int 0, .ref h1])), (h1, .inr (6, [.int 0, v2, .int 0]))]) hP hD [1, 2] [0] rfl rfl (by decide) (by decide) hk1 hFc hP1 hD1
  have hK := (hK.sub (tys' := []) [] rfl).app hK1
  generalize H1 = H at hP hS ⊢
  have hP : va_P (dC, dI) vwCl [(h0, .inr (23, [v0, .ref h1, .int 20, .int 60, .ref (g 34), v1, .int 0, .int 0, .int 0])), (q1, .inr (5, [.int 0, .int (-1), .int 0, .ref h1])), (h1, .inr (6, [.int 0, v2, .int 0]))] H := hP
  have hD : va_D A [(h0, .inr (23, [v0, .ref h1, .int 20, .int 60, .ref (g 34), v1, .int 0, .int 0, .int 0])), (q1, .inr (5, [.int 0, .int (-1), .int 0, .ref h1])), (h1, .inr (6, [.int 0, v2, .int 0]))] := hD
  have hK : va_K (dC, dI) vwCl [] s := hK
  refine W.widen (k := 1) (n := 4) (Nat.le_of_ble_eq_true rfl) (Nat.le_of_ble_eq_true rfl) ?_
  refine lv_if_eq (tgt := 41) hx hb dX16_houseTold_16 (by decide) (fun c2 => ?_) (fun c2 => absurd (by decide) c2)
  refine lv_bipush (v := 8) hx hb dX16_houseTold_41 (by decide) ?_
  refine va_newa (atype := .int) hx hb (hta _ wm15) rfl hK hP hD hS hA (N' := 8) (a0 := (8, .inl (fun _ => 0))) (fun _ => rfl) (by decide) (by decide) (Nat.le_of_ble_eq_true rfl) (Nat.le_of_ble_eq_true rfl) (Nat.le_of_ble_eq_true rfl) dX16_houseTold_43 (fun q3 cyq3 H hK hP hD hS => ?_)
  have hP : va_P (dC, dI) vwCl [(h0, .inr (23, [v0, .ref h1, .int 20, .int 60, .ref (g 34), v1, .int 0, .int 0, .int 0])), (q1, .inr (5, [.int 0, .int (-1), .int 0, .ref h1])), (h1, .inr (6, [.int 0, v2, .int 0])), (q3, .inl (cyq3, 8, .inl (fun _ => 0)))] H := hP
  have hD : va_D A [(h0, .inr (23, [v0, .ref h1, .int 20, .int 60, .ref (g 34), v1, .int 0, .int 0, .int 0])), (q1, .inr (5, [.int 0, .int (-1), .int 0, .ref h1])), (h1, .inr (6, [.int 0, v2, .int 0])), (q3, .inl (cyq3, 8, .inl (fun _ => 0)))] := hD
  have hK : va_K (dC, dI) vwCl [(cyq3, .int)] s := hK
  refine W.widen (k := 2) (n := 12) (Nat.le_of_ble_eq_true rfl) (Nat.le_of_ble_eq_true rfl) ?_
  refine lv_dup hx hb dX16_houseTold_45 rfl ?_
  refine lv_iconst (v := 0) hx hb dX16_houseTold_46 (by decide) ?_
  refine lv_aload_n hx hb dX16_houseTold_47 rfl (lv_at hl 2 rfl) ?_
  refine va_get (D := (dC, dI)) (ci := 23) (v := .ref h1) (C := RX16) (T := TX16) (N := 9) hx hb hta naX16 hown hK hP 0 rfl rfl 1 (by decide) (hta _ wm210) (fun _ h9 => h9) rfl dX16_houseTold_48 ?_
  have hPc := hP.sub (ws' := [(h1, .inr (6, [.int 0, v2, .int 0]))]) [2] rfl
  have hDc := hD.sub (ws' := [(h1, .inr (6, [.int 0, v2, .int 0]))]) [2] (by decide) rfl
  have hKc := hK.sub (tys' := []) [] rfl
  have hFc := va_free (wc := [(h1, .inr (6, [.int 0, v2, .int 0]))]) hD hS hA [2] rfl
  refine va_calli (va_runV (As := []) (rest := [.int 0, .ref q3, .ref q3]) ⟨hx, hb, hml, hown, hts⟩ (kJx4a65c_size_8abf5 l dC dI g H.size h1 (.int 0) v2 ) (cwV 0 hts (ns_gp (List.forall_mem_cons.mpr ⟨wm285, (List.forall_mem_cons.mpr ⟨wm286, (List.forall_mem_cons.mpr ⟨wm287, (List.forall_mem_cons.mpr ⟨wm196, (fun _ h9 => nomatch h9)⟩)⟩)⟩)⟩) wm284) rfl rfl rfl (by decide +kernel) ⟨Nat.le_of_ble_eq_true rfl, Nat.le_of_ble_eq_true rfl⟩) ⟨fun a U gg mk q => by obtain ⟨q0, q1, qP, qK, qD, qF⟩ := q; exact ⟨q0, q1, qP, va_K.moved (u := U) (U := U.calling gg mk a) (Vm.Alike.refl U.vm) qK, qD, ns_same qF⟩, va_recv hK hP (ci := 6) (q0 := 2) rfl rfl, fun U hU hW => ⟨rfl, by rw [hU], by rw [hU]; exact hPc, va_K.moved hW.alike hKc, hDc.weaken (fun _ _ _ _ => trivial), ns_call hF hS hFc hU hW⟩⟩ rfl rfl hl.1 rfl (lv_room (Nat.le_of_ble_eq_true rfl)) dX16_houseTold_51 ⟨Nat.le_of_ble_eq_true rfl, Nat.le_of_ble_eq_true rfl⟩) hS (fun q _ h => hFc q h) hFc (fun r9 u t H1 locs ht hvm hw hB hz1 hk1 hS => ?_)
  obtain rfl := hw.symm
  obtain ⟨hP1, hK1, hD1⟩ := hB
  rw [ht] at hP1
  have hK1 := va_K.moved hvm.symm hK1
  obtain ⟨hP, hD⟩ := va_join (wr := [(h0, .inr (23, [v0, .ref h1, .int 20, .int 60, .ref (g 34), v1, .int 0, .int 0, .int 0])), (q1, .inr (5, [.int 0, .int (-1), .int 0, .ref h1])), (q3, .inl (cyq3, 8, .inl (fun _ => 0)))]) (w1 := [(h1, .inr (6, [.int 0, v2, .int 0]))]) hP hD [2] [0, 1, 3] rfl rfl (by decide) (by decide) hk1 hFc hP1 hD1
  have hK := (hK.sub (tys' := [(cyq3, .int)]) [0] rfl).app hK1
  generalize H1 = H at hP hS ⊢
  have hP : va_P (dC, dI) vwCl [(h0, .inr (23, [v0, .ref h1, .int 20, .int 60, .ref (g 34), v1, .int 0, .int 0, .int 0])), (q1, .inr (5, [.int 0, .int (-1), .int 0, .ref h1])), (q3, .inl (cyq3, 8, .inl (fun _ => 0))), (h1, .inr (6, [.int 0, v2, .int 0]))] H := hP
  have hD : va_D A [(h0, .inr (23, [v0, .ref h1, .int 20, .int 60, .ref (g 34), v1, .int 0, .int 0, .int 0])), (q1, .inr (5, [.int 0, .int (-1), .int 0, .ref h1])), (q3, .inl (cyq3, 8, .inl (fun _ => 0))), (h1, .inr (6, [.int 0, v2, .int 0]))] := hD
  have hK : va_K (dC, dI) vwCl [(cyq3, .int)] s := hK
  refine W.widen (k := 2) (n := 12) (Nat.le_of_ble_eq_true rfl) (Nat.le_of_ble_eq_true rfl) ?_
  refine va_iast hx hb hK hP hD hS 2 0 rfl rfl (vp_in_nI (n := 0) (by decide) (by decide)) dX16_houseTold_54 (fun H locs hP hD hS => ?_)
  have hP : va_P (dC, dI) vwCl [(h0, .inr (23, [v0, .ref h1, .int 20, .int 60, .ref (g 34), v1, .int 0, .int 0, .int 0])), (q1, .inr (5, [.int 0, .int (-1), .int 0, .ref h1])), (q3, .inl (cyq3, 8, .inl (upd (fun _ => 0) 0 0))), (h1, .inr (6, [.int 0, v2, .int 0]))] H := hP
  have hD : va_D A [(h0, .inr (23, [v0, .ref h1, .int 20, .int 60, .ref (g 34), v1, .int 0, .int 0, .int 0])), (q1, .inr (5, [.int 0, .int (-1), .int 0, .ref h1])), (q3, .inl (cyq3, 8, .inl (upd (fun _ => 0) 0 0))), (h1, .inr (6, [.int 0, v2, .int 0]))] := hD
  refine lv_dup hx hb dX16_houseTold_55 rfl ?_
  refine lv_iconst (v := 1) hx hb dX16_houseTold_56 (by decide) ?_
  refine lv_aload_n hx hb dX16_houseTold_57 rfl (lv_at hl 2 rfl) ?_
  refine va_get (D := (dC, dI)) (ci := 23) (v := .int 20) (C := RX16) (T := TX16) (N := 9) hx hb hta naX16 hown hK hP 0 rfl rfl 2 (by decide) (hta _ wm211) (fun _ h9 => h9) rfl dX16_houseTold_58 ?_
  refine va_iast hx hb hK hP hD hS 2 0 rfl rfl (vp_in_nI (n := 1) (by decide) (by decide)) dX16_houseTold_61 (fun H locs hP hD hS => ?_)
  have hP : va_P (dC, dI) vwCl [(h0, .inr (23, [v0, .ref h1, .int 20, .int 60, .ref (g 34), v1, .int 0, .int 0, .int 0])), (q1, .inr (5, [.int 0, .int (-1), .int 0, .ref h1])), (q3, .inl (cyq3, 8, .inl (upd (upd (fun _ => 0) 0 0) 1 20))), (h1, .inr (6, [.int 0, v2, .int 0]))] H := hP
  have hD : va_D A [(h0, .inr (23, [v0, .ref h1, .int 20, .int 60, .ref (g 34), v1, .int 0, .int 0, .int 0])), (q1, .inr (5, [.int 0, .int (-1), .int 0, .ref h1])), (q3, .inl (cyq3, 8, .inl (upd (upd (fun _ => 0) 0 0) 1 20))), (h1, .inr (6, [.int 0, v2, .int 0]))] := hD
  refine lv_dup hx hb dX16_houseTold_62 rfl ?_
  refine lv_iconst (v := 2) hx hb dX16_houseTold_63 (by decide) ?_
  refine lv_aload_n hx hb dX16_houseTold_64 rfl (lv_at hl 2 rfl) ?_
  refine va_get (D := (dC, dI)) (ci := 23) (v := .int 60) (C := RX16) (T := TX16) (N := 9) hx hb hta naX16 hown hK hP 0 rfl rfl 3 (by decide) (hta _ wm212) (fun _ h9 => h9) rfl dX16_houseTold_65 ?_
  refine va_iast hx hb hK hP hD hS 2 0 rfl rfl (vp_in_nI (n := 2) (by decide) (by decide)) dX16_houseTold_68 (fun H locs hP hD hS => ?_)
  have hP : va_P (dC, dI) vwCl [(h0, .inr (23, [v0, .ref h1, .int 20, .int 60, .ref (g 34), v1, .int 0, .int 0, .int 0])), (q1, .inr (5, [.int 0, .int (-1), .int 0, .ref h1])), (q3, .inl (cyq3, 8, .inl (upd (upd (upd (fun _ => 0) 0 0) 1 20) 2 60))), (h1, .inr (6, [.int 0, v2, .int 0]))] H := hP
  have hD : va_D A [(h0, .inr (23, [v0, .ref h1, .int 20, .int 60, .ref (g 34), v1, .int 0, .int 0, .int 0])), (q1, .inr (5, [.int 0, .int (-1), .int 0, .ref h1])), (q3, .inl (cyq3, 8, .inl (upd (upd (upd (fun _ => 0) 0 0) 1 20) 2 60))), (h1, .inr (6, [.int 0, v2, .int 0]))] := hD
  refine lv_dup hx hb dX16_houseTold_69 rfl ?_
  refine lv_iconst (v := 3) hx hb dX16_houseTold_70 (by decide) ?_
  refine lv_aload_n hx hb dX16_houseTold_71 rfl (lv_at hl 2 rfl) ?_
  refine va_get (D := (dC, dI)) (ci := 23) (v := .ref (g 34)) (C := RX16) (T := TX16) (N := 9) hx hb hta naX16 hown hK hP 0 rfl rfl 4 (by decide) (hta _ wm213) (fun _ h9 => h9) rfl dX16_houseTold_72 ?_
  have hPc := hP.sub (ws' := []) [] rfl
  have hDc := hD.sub (ws' := []) [] (by decide) rfl
  have hKc := hK.sub (tys' := []) [] rfl
  have hFc := va_free (wc := []) hD hS hA [] rfl
  refine va_calli (va_runV (As := []) (rest := [.int 3, .ref q3, .ref q3]) ⟨hx, hb, hml, hown, hts⟩ (kJ0_length_8abf5_2 l dC dI g H.size  ) (cwV 0 hts (ns_gp (List.forall_mem_cons.mpr ⟨wm646, (List.forall_mem_cons.mpr ⟨wm595, (List.forall_mem_cons.mpr ⟨wm596, (List.forall_mem_cons.mpr ⟨wm316, (fun _ h9 => nomatch h9)⟩)⟩)⟩)⟩) wm574) rfl rfl rfl (by decide +kernel) ⟨Nat.le_of_ble_eq_true rfl, Nat.le_of_ble_eq_true rfl⟩) ⟨fun a U gg mk q => by obtain ⟨q0, q1, qP, qK, qD, qF⟩ := q; exact ⟨q0, q1, qP, va_K.moved (u := U) (U := U.calling gg mk a) (Vm.Alike.refl U.vm) qK, qD, ns_same qF⟩, va_Orecv (ns_f38 hF) hS, fun U hU hW => ⟨rfl, by rw [hU], by rw [hU]; exact hPc, va_K.moved hW.alike hKc, hDc.weaken (fun _ _ _ _ => trivial), ns_call hF hS hFc hU hW⟩⟩ rfl rfl hl.1 rfl (lv_room (Nat.le_of_ble_eq_true rfl)) dX16_houseTold_75 ⟨Nat.le_of_ble_eq_true rfl, Nat.le_of_ble_eq_true rfl⟩) hS (fun q _ h => hFc q h) hFc (fun r9 u t H1 locs ht hvm hw hB hz1 hk1 hS => ?_)
  obtain rfl := hw.symm
  obtain ⟨hP1, hK1, hD1⟩ := hB
  rw [ht] at hP1
  have hK1 := va_K.moved hvm.symm hK1
  obtain ⟨hP, hD⟩ := va_join (wr := [(h0, .inr (23, [v0, .ref h1, .int 20, .int 60, .ref (g 34), v1, .int 0, .int 0, .int 0])), (q1, .inr (5, [.int 0, .int (-1), .int 0, .ref h1])), (q3, .inl (cyq3, 8, .inl (upd (upd (upd (fun _ => 0) 0 0) 1 20) 2 60))), (h1, .inr (6, [.int 0, v2, .int 0]))]) (w1 := []) hP hD [] [0, 1, 2, 3] rfl rfl (by decide) (by decide) hk1 hFc hP1 hD1
  have hK := (hK.sub (tys' := [(cyq3, .int)]) [0] rfl).app hK1
  generalize H1 = H at hP hS ⊢
  have hP : va_P (dC, dI) vwCl [(h0, .inr (23, [v0, .ref h1, .int 20, .int 60, .ref (g 34), v1, .int 0, .int 0, .int 0])), (q1, .inr (5, [.int 0, .int (-1), .int 0, .ref h1])), (q3, .inl (cyq3, 8, .inl (upd (upd (upd (fun _ => 0) 0 0) 1 20) 2 60))), (h1, .inr (6, [.int 0, v2, .int 0]))] H := hP
  have hD : va_D A [(h0, .inr (23, [v0, .ref h1, .int 20, .int 60, .ref (g 34), v1, .int 0, .int 0, .int 0])), (q1, .inr (5, [.int 0, .int (-1), .int 0, .ref h1])), (q3, .inl (cyq3, 8, .inl (upd (upd (upd (fun _ => 0) 0 0) 1 20) 2 60))), (h1, .inr (6, [.int 0, v2, .int 0]))] := hD
  have hK : va_K (dC, dI) vwCl [(cyq3, .int)] s := hK
  refine W.widen (k := 2) (n := 12) (Nat.le_of_ble_eq_true rfl) (Nat.le_of_ble_eq_true rfl) ?_
  refine va_iast hx hb hK hP hD hS 2 0 rfl rfl (vp_in_nI (n := 3) (by decide) (by decide)) dX16_houseTold_78 (fun H locs hP hD hS => ?_)
  have hP : va_P (dC, dI) vwCl [(h0, .inr (23, [v0, .ref h1, .int 20, .int 60, .ref (g 34), v1, .int 0, .int 0, .int 0])), (q1, .inr (5, [.int 0, .int (-1), .int 0, .ref h1])), (q3, .inl (cyq3, 8, .inl (upd (upd (upd (upd (fun _ => 0) 0 0) 1 20) 2 60) 3 0))), (h1, .inr (6, [.int 0, v2, .int 0]))] H := hP
  have hD : va_D A [(h0, .inr (23, [v0, .ref h1, .int 20, .int 60, .ref (g 34), v1, .int 0, .int 0, .int 0])), (q1, .inr (5, [.int 0, .int (-1), .int 0, .ref h1])), (q3, .inl (cyq3, 8, .inl (upd (upd (upd (upd (fun _ => 0) 0 0) 1 20) 2 60) 3 0))), (h1, .inr (6, [.int 0, v2, .int 0]))] := hD
  refine lv_dup hx hb dX16_houseTold_79 rfl ?_
  refine lv_iconst (v := 4) hx hb dX16_houseTold_80 (by decide) ?_
  refine lv_aload_n hx hb dX16_houseTold_81 rfl (lv_at hl 2 rfl) ?_
  refine va_get (D := (dC, dI)) (ci := 23) (v := .int 0) (C := RX16) (T := TX16) (N := 9) hx hb hta naX16 hown hK hP 0 rfl rfl 6 (by decide) (hta _ wm791) (fun _ h9 => h9) rfl dX16_houseTold_82 ?_
  refine va_iast hx hb hK hP hD hS 2 0 rfl rfl (vp_in_nI (n := 4) (by decide) (by decide)) dX16_houseTold_85 (fun H locs hP hD hS => ?_)
  have hP : va_P (dC, dI) vwCl [(h0, .inr (23, [v0, .ref h1, .int 20, .int 60, .ref (g 34), v1, .int 0, .int 0, .int 0])), (q1, .inr (5, [.int 0, .int (-1), .int 0, .ref h1])), (q3, .inl (cyq3, 8, .inl (upd (upd (upd (upd (upd (fun _ => 0) 0 0) 1 20) 2 60) 3 0) 4 0))), (h1, .inr (6, [.int 0, v2, .int 0]))] H := hP
  have hD : va_D A [(h0, .inr (23, [v0, .ref h1, .int 20, .int 60, .ref (g 34), v1, .int 0, .int 0, .int 0])), (q1, .inr (5, [.int 0, .int (-1), .int 0, .ref h1])), (q3, .inl (cyq3, 8, .inl (upd (upd (upd (upd (upd (fun _ => 0) 0 0) 1 20) 2 60) 3 0) 4 0))), (h1, .inr (6, [.int 0, v2, .int 0]))] := hD
  refine lv_dup hx hb dX16_houseTold_86 rfl ?_
  refine lv_iconst (v := 5) hx hb dX16_houseTold_87 (by decide) ?_
  refine lv_aload_n hx hb dX16_houseTold_88 rfl (lv_at hl 2 rfl) ?_
  refine va_get (D := (dC, dI)) (ci := 23) (v := .int 0) (C := RX16) (T := TX16) (N := 9) hx hb hta naX16 hown hK hP 0 rfl rfl 7 (by decide) (hta _ wm800) (fun _ h9 => h9) rfl dX16_houseTold_89 ?_
  refine va_iast hx hb hK hP hD hS 2 0 rfl rfl (vp_in_nI (n := 5) (by decide) (by decide)) dX16_houseTold_92 (fun H locs hP hD hS => ?_)
  have hP : va_P (dC, dI) vwCl [(h0, .inr (23, [v0, .ref h1, .int 20, .int 60, .ref (g 34), v1, .int 0, .int 0, .int 0])), (q1, .inr (5, [.int 0, .int (-1), .int 0, .ref h1])), (q3, .inl (cyq3, 8, .inl (upd (upd (upd (upd (upd (upd (fun _ => 0) 0 0) 1 20) 2 60) 3 0) 4 0) 5 0))), (h1, .inr (6, [.int 0, v2, .int 0]))] H := hP
  have hD : va_D A [(h0, .inr (23, [v0, .ref h1, .int 20, .int 60, .ref (g 34), v1, .int 0, .int 0, .int 0])), (q1, .inr (5, [.int 0, .int (-1), .int 0, .ref h1])), (q3, .inl (cyq3, 8, .inl (upd (upd (upd (upd (upd (upd (fun _ => 0) 0 0) 1 20) 2 60) 3 0) 4 0) 5 0))), (h1, .inr (6, [.int 0, v2, .int 0]))] := hD
  refine lv_dup hx hb dX16_houseTold_93 rfl ?_
  refine lv_bipush (v := 6) hx hb dX16_houseTold_94 (by decide) ?_
  refine lv_aload_n hx hb dX16_houseTold_96 rfl (lv_at hl 2 rfl) ?_
  refine va_get (D := (dC, dI)) (ci := 23) (v := .int 0) (C := RX16) (T := TX16) (N := 9) hx hb hta naX16 hown hK hP 0 rfl rfl 8 (by decide) (hta _ wm388) (fun _ h9 => h9) rfl dX16_houseTold_97 ?_
  refine va_iast hx hb hK hP hD hS 2 0 rfl rfl (vp_in_nI (n := 6) (by decide) (by decide)) dX16_houseTold_100 (fun H locs hP hD hS => ?_)
  have hP : va_P (dC, dI) vwCl [(h0, .inr (23, [v0, .ref h1, .int 20, .int 60, .ref (g 34), v1, .int 0, .int 0, .int 0])), (q1, .inr (5, [.int 0, .int (-1), .int 0, .ref h1])), (q3, .inl (cyq3, 8, .inl (upd (upd (upd (upd (upd (upd (upd (fun _ => 0) 0 0) 1 20) 2 60) 3 0) 4 0) 5 0) 6 0))), (h1, .inr (6, [.int 0, v2, .int 0]))] H := hP
  have hD : va_D A [(h0, .inr (23, [v0, .ref h1, .int 20, .int 60, .ref (g 34), v1, .int 0, .int 0, .int 0])), (q1, .inr (5, [.int 0, .int (-1), .int 0, .ref h1])), (q3, .inl (cyq3, 8, .inl (upd (upd (upd (upd (upd (upd (upd (fun _ => 0) 0 0) 1 20) 2 60) 3 0) 4 0) 5 0) 6 0))), (h1, .inr (6, [.int 0, v2, .int 0]))] := hD
  refine lv_dup hx hb dX16_houseTold_101 rfl ?_
  refine lv_bipush (v := 7) hx hb dX16_houseTold_102 (by decide) ?_
  refine lv_iload_n hx hb dX16_houseTold_104 rfl (lv_at hl 1 rfl) ?_
  refine va_iast hx hb hK hP hD hS 2 0 rfl rfl (vp_in_nI (n := 7) (by decide) (by decide)) dX16_houseTold_105 (fun H locs hP hD hS => ?_)
  have hP : va_P (dC, dI) vwCl [(h0, .inr (23, [v0, .ref h1, .int 20, .int 60, .ref (g 34), v1, .int 0, .int 0, .int 0])), (q1, .inr (5, [.int 0, .int (-1), .int 0, .ref h1])), (q3, .inl (cyq3, 8, .inl (upd (upd (upd (upd (upd (upd (upd (upd (fun _ => 0) 0 0) 1 20) 2 60) 3 0) 4 0) 5 0) 6 0) 7 0))), (h1, .inr (6, [.int 0, v2, .int 0]))] H := hP
  have hD : va_D A [(h0, .inr (23, [v0, .ref h1, .int 20, .int 60, .ref (g 34), v1, .int 0, .int 0, .int 0])), (q1, .inr (5, [.int 0, .int (-1), .int 0, .ref h1])), (q3, .inl (cyq3, 8, .inl (upd (upd (upd (upd (upd (upd (upd (upd (fun _ => 0) 0 0) 1 20) 2 60) 3 0) 4 0) 5 0) 6 0) 7 0))), (h1, .inr (6, [.int 0, v2, .int 0]))] := hD
  refine lv_astore_n (lv' := [(3, .ref q3), (2, .int 0), (0, .ref h0), (1, .int 7)]) hx hb dX16_houseTold_106 rfl hl (by decide) rfl (fun ls hl => ?_)
  refine lv_aload_n hx hb dX16_houseTold_107 rfl (lv_at hl 0 rfl) ?_
  refine lv_iload_n hx hb dX16_houseTold_108 rfl (lv_at hl 3 rfl) ?_
  refine va_iald hx hb hK hP 2 0 rfl rfl (vp_in_nI (n := 7) (by decide) (by decide)) dX16_houseTold_109 ?_
  refine lv_topi (fun y4 ey4 => ?_)
  obtain rfl : 0 = y4 := ey4.symm
  have hP9 := hP.sub (ws' := [(h0, .inr (23, [v0, .ref h1, .int 20, .int 60, .ref (g 34), v1, .int 0, .int 0, .int 0])), (q1, .inr (5, [.int 0, .int (-1), .int 0, .ref h1])), (q3, .inl (cyq3, 8, .inl (upd (upd (upd (upd (upd (upd (upd (upd (fun _ => 0) 0 0) 1 20) 2 60) 3 0) 4 0) 5 0) 6 0) 7 0))), (h1, .inr (6, [.int 0, v2, .int 0]))]) [0, 1, 2, 3] rfl
  have hD9 := hD.sub (ws' := [(h0, .inr (23, [v0, .ref h1, .int 20, .int 60, .ref (g 34), v1, .int 0, .int 0, .int 0])), (q1, .inr (5, [.int 0, .int (-1), .int 0, .ref h1])), (q3, .inl (cyq3, 8, .inl (upd (upd (upd (upd (upd (upd (upd (upd (fun _ => 0) 0 0) 1 20) 2 60) 3 0) 4 0) 5 0) 6 0) 7 0))), (h1, .inr (6, [.int 0, v2, .int 0]))]) [0, 1, 2, 3] (by decide) rfl
  have hK9 := hK.sub (tys' := [(cyq3, .int)]) [0] rfl
  refine W.widen (k := 2) (n := 12) (Nat.le_of_ble_eq_true rfl) (Nat.le_of_ble_eq_true rfl) ?_
  exact W.iret (v := 0) hx hb hr (fun t ht hW => ⟨⟨_, (), rfl, rfl, q1, q3, cyq3, by rw [ht]; exact hP9, va_K.moved hW.alike hK9, hD9⟩, hS.F ht⟩) hS.2.2 dX16_houseTold_110
set_option maxHeartbeats 4000000 in
set_option maxRecDepth 100000 in
theorem kJ5_putStringAt_47b60_5 (l : Launch) (dC : Nat → ClassId) (dI : Nat → Nat → Nat) (g : Nat → Nat) (sz : Nat) (h0 : Nat) (h1 : Nat) (h2 : Nat) (h3 : Nat) (v0 : Value) (v1 : Value) (v2 : Value) (v3 : Value) (cc0 : ClassId) (f0 : Nat → Int32) (hf0 : sb_Fit f0) (cc1 : ClassId) (f1 : Nat → Int32) (hf1 : sb_Fit f1) : Met l yJ5_putStringAt_47b60 wbJ5_putStringAt_47b60 ({ frames := 2, cells := 0, slots := 0, locals := 63 }) (va_Pc [.ref h0, .int 0, .ref h1] (fun U => U.heap.size = sz ∧ va_P (dC, dI) vwCl [(h0, .inr (1, [.ref h3, .int 0, v0, v1])), (h1, .inr (0, [.ref h2, .int 0, v2, v3])), (h2, .inl (cc0, 4, .inl f0)), (h3, .inl (cc1, 16, .inl f1))] U.heap ∧ va_K (dC, dI) vwCl [(cc0, .byte), (cc1, .byte)] U ∧ va_D (fun _ => True) [(h0, .inr (1, [.ref h3, .int 0, v0, v1])), (h1, .inr (0, [.ref h2, .int 0, v2, v3])), (h2, .inl (cc0, 4, .inl f0)), (h3, .inl (cc1, 16, .inl f1))] ∧ ns_F g (va_A [(h0, .inr (1, [.ref h3, .int 0, v0, v1])), (h1, .inr (0, [.ref h2, .int 0, v2, v3])), (h2, .inl (cc0, 4, .inl f0)), (h3, .inl (cc1, 16, .inl f1))] sz) U U.heap)) (va_Qv (fun _ : Unit => True) (fun _ t => va_P (dC, dI) vwCl [(h0, .inr (1, [.ref h3, .int 0, v0, v1])), (h2, .inl (cc0, 4, .inl f0)), (h3, .inl (cc1, 16, .inl (va_cpy (f0) (f1) 0 0 4))), (h1, .inr (0, [.ref h2, .int 0, v2, v3]))] t.heap ∧ va_K (dC, dI) vwCl [(cc0, .byte), (cc1, .byte)] t ∧ va_D (va_A [(h0, .inr (1, [.ref h3, .int 0, v0, v1])), (h1, .inr (0, [.ref h2, .int 0, v2, v3])), (h2, .inl (cc0, 4, .inl f0)), (h3, .inl (cc1, 16, .inl f1))] sz) [(h0, .inr (1, [.ref h3, .int 0, v0, v1])), (h2, .inl (cc0, 4, .inl f0)), (h3, .inl (cc1, 16, .inl (va_cpy (f0) (f1) 0 0 4))), (h1, .inr (0, [.ref h2, .int 0, v2, v3]))]) (va_A [(h0, .inr (1, [.ref h3, .int 0, v0, v1])), (h1, .inr (0, [.ref h2, .int 0, v2, v3])), (h2, .inl (cc0, 4, .inl f0)), (h3, .inl (cc1, 16, .inl f1))] sz)) 0 0 (va_A [(h0, .inr (1, [.ref h3, .int 0, v0, v1])), (h1, .inr (0, [.ref h2, .int 0, v2, v3])), (h2, .inl (cc0, 4, .inl f0)), (h3, .inl (cc1, 16, .inl f1))] sz) := by
  refine Met.ofW (cc := cJ5_putStringAt_47b60) (maxL := 3) (ret := none) (by decide) rfl ?_
  intro p e s m args below meth c s₁ B hml hv
  obtain ⟨rfl, hsz, hP, hK, hD0, hF⟩ := hv
  have hx := B.exec
  have hb := B.bytes
  have hr := B.returns
  have hts := atoms_spec (ws := wbJ5_putStringAt_47b60) B.pre
  have hta : ∀ w ∈ wsALL, w.before _ s = true := fun w h => hts w (List.mem_cons_of_mem _ h)
  have hown : s.vm.findClass RJ5 = some m.cls := findClass_of_methodNamed B.named
  have hlocks := B.notSynchronized
  subst hsz
  have hD := hD0.self (sz := s.heap.size)
  generalize hAe : va_A [(h0, .inr (1, [.ref h3, .int 0, v0, v1])), (h1, .inr (0, [.ref h2, .int 0, v2, v3])), (h2, .inl (cc0, 4, .inl f0)), (h3, .inl (cc1, 16, .inl f1))] s.heap.size = A at hD hF ⊢
  have hA : ∀ q : Nat, s.heap.size ≤ q → A q := fun q h => by rw [← hAe]; exact Or.inr h
  have hS : va_S A s.heap s.heap [] := va_S.rf
  have hP : va_P (dC, dI) vwCl [(h0, .inr (1, [.ref h3, .int 0, v0, v1])), (h1, .inr (0, [.ref h2, .int 0, v2, v3])), (h2, .inl (cc0, 4, .inl f0)), (h3, .inl (cc1, 16, .inl f1))] s.heap := hP
  have hl := lv_entry ([.ref h0, .int 0, .ref h1]) (n := 3) (Nat.le_of_ble_eq_true rfl)
  rw [lg_entry_eq]
  generalize (lg_sl ([.ref h0, .int 0, .ref h1]) ++ List.replicate (3 - (lg_sl ([.ref h0, .int 0, .ref h1])).length) Slot.unset).toArray = ls at hl ⊢
  have hl : lv_has ls 3 [(0, .ref h0), (1, .int 0), (2, .ref h1)] := hl
  refine lv_aload_n hx hb dJ5_putStringAt_47b60_0 rfl (lv_at hl 0 rfl) ?_
  refine lv_aload_n hx hb dJ5_putStringAt_47b60_1 rfl (lv_at hl 2 rfl) ?_
  have hPc := hP.sub (ws' := [(h0, .inr (1, [.ref h3, .int 0, v0, v1])), (h1, .inr (0, [.ref h2, .int 0, v2, v3]))]) [0, 1] rfl
  have hDc := hD.sub (ws' := [(h0, .inr (1, [.ref h3, .int 0, v0, v1])), (h1, .inr (0, [.ref h2, .int 0, v2, v3]))]) [0, 1] (by decide) rfl
  have hKc := hK.sub (tys' := []) [] rfl
  have hFc := va_free (wc := [(h0, .inr (1, [.ref h3, .int 0, v0, v1])), (h1, .inr (0, [.ref h2, .int 0, v2, v3]))]) hD hS hA [0, 1] rfl
  refine va_callv (va_runU (As := [.ref h1]) (rest := []) ⟨hx, hb, hml, hown, hts⟩ (kJ5_inflateIfNeededFor_a7421_2 l dC dI g s.heap.size h0 h1 (.ref h3) v0 v1 (.ref h2) v2 v3 ) (va_cwU 1 hts (ns_gp (List.forall_mem_cons.mpr ⟨wm609, (List.forall_mem_cons.mpr ⟨wm610, (List.forall_mem_cons.mpr ⟨wm611, (List.forall_mem_cons.mpr ⟨wm612, (List.forall_mem_cons.mpr ⟨wm144, (fun _ h9 => nomatch h9)⟩)⟩)⟩)⟩)⟩) wm606) rfl rfl rfl rfl (by decide +kernel) ⟨Nat.le_of_ble_eq_true rfl, Nat.le_of_ble_eq_true rfl⟩) ⟨fun a U gg mk q => by obtain ⟨q0, q1, qP, qK, qD, qF⟩ := q; exact ⟨q0, q1, qP, va_K.moved (u := U) (U := U.calling gg mk a) (Vm.Alike.refl U.vm) qK, qD, ns_same qF⟩, va_recv hK hP (ci := 1) (q0 := 0) rfl rfl, fun U hU hW => ⟨rfl, by rw [hU], by rw [hU]; exact hPc, va_K.moved hW.alike hKc, hDc.weaken (fun _ _ _ _ => trivial), ns_call hF hS hFc hU hW⟩⟩ rfl rfl hl.1 rfl (lv_room (Nat.le_of_ble_eq_true rfl)) dJ5_putStringAt_47b60_2 ⟨Nat.le_of_ble_eq_true rfl, Nat.le_of_ble_eq_true rfl⟩) hS (fun q _ h => hFc q h) hFc (fun u t H1 locs ht hvm hw hB hz1 hk1 hS => ?_)
  obtain ⟨hP1, hK1, hD1⟩ := hB
  rw [ht] at hP1
  have hK1 := va_K.moved hvm.symm hK1
  obtain ⟨hP, hD⟩ := va_join (wr := [(h2, .inl (cc0, 4, .inl f0)), (h3, .inl (cc1, 16, .inl f1))]) (w1 := [(h0, .inr (1, [.ref h3, .int 0, v0, v1])), (h1, .inr (0, [.ref h2, .int 0, v2, v3]))]) hP hD [0, 1] [2, 3] rfl rfl (by decide) (by decide) hk1 hFc hP1 hD1
  have hK := (hK.sub (tys' := [(cc0, .byte), (cc1, .byte)]) [0, 1] rfl).app hK1
  generalize H1 = H at hP hS ⊢
  have hP : va_P (dC, dI) vwCl [(h2, .inl (cc0, 4, .inl f0)), (h3, .inl (cc1, 16, .inl f1)), (h0, .inr (1, [.ref h3, .int 0, v0, v1])), (h1, .inr (0, [.ref h2, .int 0, v2, v3]))] H := hP
  have hD : va_D A [(h2, .inl (cc0, 4, .inl f0)), (h3, .inl (cc1, 16, .inl f1)), (h0, .inr (1, [.ref h3, .int 0, v0, v1])), (h1, .inr (0, [.ref h2, .int 0, v2, v3]))] := hD
  have hK : va_K (dC, dI) vwCl [(cc0, .byte), (cc1, .byte)] s := hK
  refine W.widen (k := 0) (n := 0) (Nat.le_of_ble_eq_true rfl) (Nat.le_of_ble_eq_true rfl) ?_
  refine lv_aload_n hx hb dJ5_putStringAt_47b60_5 rfl (lv_at hl 2 rfl) ?_
  refine lv_aload_n hx hb dJ5_putStringAt_47b60_6 rfl (lv_at hl 0 rfl) ?_
  refine va_get (D := (dC, dI)) (ci := 1) (v := .ref h3) (C := RJ4) (T := TJ4) (N := 4) hx hb hta naJ4 hown hK hP 2 rfl rfl 0 (by decide) (hta _ wm141) (fun _ h9 => h9) rfl dJ5_putStringAt_47b60_7 ?_
  refine lv_iload_n hx hb dJ5_putStringAt_47b60_10 rfl (lv_at hl 1 rfl) ?_
  refine lv_aload_n hx hb dJ5_putStringAt_47b60_11 rfl (lv_at hl 0 rfl) ?_
  refine va_get (D := (dC, dI)) (ci := 1) (v := .int 0) (C := RJ4) (T := TJ4) (N := 4) hx hb hta naJ4 hown hK hP 2 rfl rfl 1 (by decide) (hta _ wm142) (fun _ h9 => h9) rfl dJ5_putStringAt_47b60_12 ?_
  have hPc := hP.sub (ws' := [(h1, .inr (0, [.ref h2, .int 0, v2, v3])), (h2, .inl (cc0, 4, .inl f0)), (h3, .inl (cc1, 16, .inl f1))]) [3, 0, 1] rfl
  have hDc := hD.sub (ws' := [(h1, .inr (0, [.ref h2, .int 0, v2, v3])), (h2, .inl (cc0, 4, .inl f0)), (h3, .inl (cc1, 16, .inl f1))]) [3, 0, 1] (by decide) rfl
  have hKc := hK.sub (tys' := [(cc0, .byte), (cc1, .byte)]) [0, 1] rfl
  have hFc := va_free (wc := [(h1, .inr (0, [.ref h2, .int 0, v2, v3])), (h2, .inl (cc0, 4, .inl f0)), (h3, .inl (cc1, 16, .inl f1))]) hD hS hA [3, 0, 1] rfl
  refine va_callv (va_runV (As := [.ref h3, .int 0, .int 0]) (rest := []) ⟨hx, hb, hml, hown, hts⟩ (kJ0_getBytes_840e7_5 l dC dI g H.size h1 h3 h2 v2 v3 cc0 f0 hf0 cc1 f1 hf1 ) (cwV 3 hts (ns_gp (List.forall_mem_cons.mpr ⟨wm613, (List.forall_mem_cons.mpr ⟨wm614, (List.forall_mem_cons.mpr ⟨wm615, (List.forall_mem_cons.mpr ⟨wm316, (fun _ h9 => nomatch h9)⟩)⟩)⟩)⟩) wm608) rfl rfl rfl (by decide +kernel) ⟨Nat.le_of_ble_eq_true rfl, Nat.le_of_ble_eq_true rfl⟩) ⟨fun a U gg mk q => by obtain ⟨q0, q1, qP, qK, qD, qF⟩ := q; exact ⟨q0, q1, qP, va_K.moved (u := U) (U := U.calling gg mk a) (Vm.Alike.refl U.vm) qK, qD, ns_same qF⟩, va_recv hK hP (ci := 0) (q0 := 3) rfl rfl, fun U hU hW => ⟨rfl, by rw [hU], by rw [hU]; exact hPc, va_K.moved hW.alike hKc, hDc.weaken (fun _ _ _ _ => trivial), ns_call hF hS hFc hU hW⟩⟩ rfl rfl hl.1 rfl (lv_room (Nat.le_of_ble_eq_true rfl)) dJ5_putStringAt_47b60_15 ⟨Nat.le_of_ble_eq_true rfl, Nat.le_of_ble_eq_true rfl⟩) hS (fun q _ h => hFc q h) hFc (fun u t H1 locs ht hvm hw hB hz1 hk1 hS => ?_)
  obtain ⟨hP1, hK1, hD1⟩ := hB
  rw [ht] at hP1
  have hK1 := va_K.moved hvm.symm hK1
  obtain ⟨hP, hD⟩ := va_join (wr := [(h0, .inr (1, [.ref h3, .int 0, v0, v1]))]) (w1 := [(h2, .inl (cc0, 4, .inl f0)), (h3, .inl (cc1, 16, .inl (va_cpy (f0) (f1) 0 0 4))), (h1, .inr (0, [.ref h2, .int 0, v2, v3]))]) hP hD [3, 0, 1] [2] rfl rfl (by decide) (by decide) hk1 hFc hP1 hD1
  have hK := (hK.sub (tys' := []) [] rfl).app hK1
  generalize H1 = H at hP hS ⊢
  have hP : va_P (dC, dI) vwCl [(h0, .inr (1, [.ref h3, .int 0, v0, v1])), (h2, .inl (cc0, 4, .inl f0)), (h3, .inl (cc1, 16, .inl (va_cpy (f0) (f1) 0 0 4))), (h1, .inr (0, [.ref h2, .int 0, v2, v3]))] H := hP
  have hD : va_D A [(h0, .inr (1, [.ref h3, .int 0, v0, v1])), (h2, .inl (cc0, 4, .inl f0)), (h3, .inl (cc1, 16, .inl (va_cpy (f0) (f1) 0 0 4))), (h1, .inr (0, [.ref h2, .int 0, v2, v3]))] := hD
  have hK : va_K (dC, dI) vwCl [(cc0, .byte), (cc1, .byte)] s := hK
  refine W.widen (k := 0) (n := 0) (Nat.le_of_ble_eq_true rfl) (Nat.le_of_ble_eq_true rfl) ?_
  have hP9 := hP.sub (ws' := [(h0, .inr (1, [.ref h3, .int 0, v0, v1])), (h2, .inl (cc0, 4, .inl f0)), (h3, .inl (cc1, 16, .inl (va_cpy (f0) (f1) 0 0 4))), (h1, .inr (0, [.ref h2, .int 0, v2, v3]))]) [0, 1, 2, 3] rfl
  have hD9 := hD.sub (ws' := [(h0, .inr (1, [.ref h3, .int 0, v0, v1])), (h2, .inl (cc0, 4, .inl f0)), (h3, .inl (cc1, 16, .inl (va_cpy (f0) (f1) 0 0 4))), (h1, .inr (0, [.ref h2, .int 0, v2, v3]))]) [0, 1, 2, 3] (by decide) rfl
  have hK9 := hK.sub (tys' := [(cc0, .byte), (cc1, .byte)]) [0, 1] rfl
  refine W.widen (k := 0) (n := 0) (Nat.le_of_ble_eq_true rfl) (Nat.le_of_ble_eq_true rfl) ?_
  exact W.vret hx hb hr (fun t ht hW => ⟨⟨(), rfl, trivial, by rw [ht]; exact hP9, va_K.moved hW.alike hK9, hD9⟩, hS.F ht⟩) hS.2.2 dJ5_putStringAt_47b60_18
set_option maxHeartbeats 4000000 in
set_option maxRecDepth 100000 in
theorem kX11_depth (l : Launch) (dC : Nat → ClassId) (dI : Nat → Nat → Nat) (g : Nat → Nat) (sz : Nat) (h0 : Nat) (h1 : Nat) (v0 : Value) (v1 : Value) (v2 : Value) (v3 : Value) : Met l yX11_depth wbX11_depth ({ frames := 3, cells := 1, slots := 4, locals := 53 }) (va_Pc [.ref h0] (fun U => U.heap.size = sz ∧ va_P (dC, dI) vwCl [(h0, .inr (18, [v0, v1, v2, .ref h1])), (h1, .inr (6, [.int 0, v3, .int 0]))] U.heap ∧ va_K (dC, dI) vwCl [] U ∧ va_D (fun _ => True) [(h0, .inr (18, [v0, v1, v2, .ref h1])), (h1, .inr (6, [.int 0, v3, .int 0]))] ∧ ns_F g (va_A [(h0, .inr (18, [v0, v1, v2, .ref h1])), (h1, .inr (6, [.int 0, v3, .int 0]))] sz) U U.heap)) (va_Qi (fun (r : Int32) (_ : Unit) => r = 1) (fun _ t => ∃ k0 : Nat, va_P (dC, dI) vwCl [(h0, .inr (18, [v0, v1, v2, .ref h1])), (k0, .inr (5, [.int 0, .int (-1), .int 0, .ref h1])), (h1, .inr (6, [.int 0, v3, .int 0]))] t.heap ∧ va_K (dC, dI) vwCl [] t ∧ va_D (va_A [(h0, .inr (18, [v0, v1, v2, .ref h1])), (h1, .inr (6, [.int 0, v3, .int 0]))] sz) [(h0, .inr (18, [v0, v1, v2, .ref h1])), (k0, .inr (5, [.int 0, .int (-1), .int 0, .ref h1])), (h1, .inr (6, [.int 0, v3, .int 0]))]) (va_A [(h0, .inr (18, [v0, v1, v2, .ref h1])), (h1, .inr (6, [.int 0, v3, .int 0]))] sz)) 1 4 (va_A [(h0, .inr (18, [v0, v1, v2, .ref h1])), (h1, .inr (6, [.int 0, v3, .int 0]))] sz) := by
  refine Met.ofW (cc := cX11_depth) (maxL := 4) (ret := (some .int)) (by decide) rfl ?_
  intro p e s m args below meth c s₁ B hml hv
  obtain ⟨rfl, hsz, hP, hK, hD0, hF⟩ := hv
  have hx := B.exec
  have hb := B.bytes
  have hr := B.returns
  have hts := atoms_spec (ws := wbX11_depth) B.pre
  have hta : ∀ w ∈ wsALL, w.before _ s = true := fun w h => hts w (List.mem_cons_of_mem _ h)
  have hown : s.vm.findClass RX11 = some m.cls := findClass_of_methodNamed B.named
  have hlocks := B.notSynchronized
  subst hsz
  have hD := hD0.self (sz := s.heap.size)
  generalize hAe : va_A [(h0, .inr (18, [v0, v1, v2, .ref h1])), (h1, .inr (6, [.int 0, v3, .int 0]))] s.heap.size = A at hD hF ⊢
  have hA : ∀ q : Nat, s.heap.size ≤ q → A q := fun q h => by rw [← hAe]; exact Or.inr h
  have hS : va_S A s.heap s.heap [] := va_S.rf
  have hP : va_P (dC, dI) vwCl [(h0, .inr (18, [v0, v1, v2, .ref h1])), (h1, .inr (6, [.int 0, v3, .int 0]))] s.heap := hP
  have hl := lv_entry ([.ref h0]) (n := 4) (Nat.le_of_ble_eq_true rfl)
  rw [lg_entry_eq]
  generalize (lg_sl ([.ref h0]) ++ List.replicate (4 - (lg_sl ([.ref h0])).length) Slot.unset).toArray = ls at hl ⊢
  have hl : lv_has ls 4 [(0, .ref h0)] := hl
  refine lv_iconst (v := 0) hx hb dX11_depth_0 (by decide) ?_
  refine lv_istore_n (lv' := [(1, .int 0), (0, .ref h0)]) hx hb dX11_depth_1 rfl hl (by decide) rfl (fun ls hl => ?_)
  refine lv_aload_n hx hb dX11_depth_2 rfl (lv_at hl 1 rfl) ?_
  refine va_get (D := (dC, dI)) (ci := 18) (v := .ref h1) (C := RX11) (T := TX11) (N := 4) hx hb hta naX11 hown hK hP 0 rfl rfl 3 (by decide) (hta _ wm363) (fun _ h9 => h9) rfl dX11_depth_3 ?_
  have hPc := hP.sub (ws' := [(h1, .inr (6, [.int 0, v3, .int 0]))]) [1] rfl
  have hDc := hD.sub (ws' := [(h1, .inr (6, [.int 0, v3, .int 0]))]) [1] (by decide) rfl
  have hKc := hK.sub (tys' := []) [] rfl
  have hFc := va_free (wc := [(h1, .inr (6, [.int 0, v3, .int 0]))]) hD hS hA [1] rfl
  refine va_callr (va_runV (As := []) (rest := []) ⟨hx, hb, hml, hown, hts⟩ (kJx4a65c_iterator_32c93 l dC dI g s.heap.size h1 v3 (.int 0) ) (cwV 0 hts (ns_gp (List.forall_mem_cons.mpr ⟨wm717, (List.forall_mem_cons.mpr ⟨wm718, (List.forall_mem_cons.mpr ⟨wm719, (List.forall_mem_cons.mpr ⟨wm196, (fun _ h9 => nomatch h9)⟩)⟩)⟩)⟩) wm714) rfl rfl rfl (by decide +kernel) ⟨Nat.le_of_ble_eq_true rfl, Nat.le_of_ble_eq_true rfl⟩) ⟨fun a U gg mk q => by obtain ⟨q0, q1, qP, qK, qD, qF⟩ := q; exact ⟨q0, q1, qP, va_K.moved (u := U) (U := U.calling gg mk a) (Vm.Alike.refl U.vm) qK, qD, ns_same qF⟩, va_recv hK hP (ci := 6) (q0 := 1) rfl rfl, fun U hU hW => ⟨rfl, by rw [hU], by rw [hU]; exact hPc, va_K.moved hW.alike hKc, hDc.weaken (fun _ _ _ _ => trivial), ns_call hF hS hFc hU hW⟩⟩ rfl rfl hl.1 rfl (lv_room (Nat.le_of_ble_eq_true rfl)) dX11_depth_6 ⟨Nat.le_of_ble_eq_true rfl, Nat.le_of_ble_eq_true rfl⟩) hS (fun q _ h => hFc q h) hFc (fun u r9 t H1 locs ht hvm hw hB hz1 hk1 hS => ?_)
  obtain ⟨q1, hr9, hP1, hK1, hD1⟩ := hB
  obtain rfl := hr9.symm
  rw [ht] at hP1
  have hK1 := va_K.moved hvm.symm hK1
  obtain ⟨hP, hD⟩ := va_join (wr := [(h0, .inr (18, [v0, v1, v2, .ref h1]))]) (w1 := [(q1, .inr (5, [.int 0, .int (-1), .int 0, .ref h1])), (h1, .inr (6, [.int 0, v3, .int 0]))]) hP hD [1] [0] rfl rfl (by decide) (by decide) hk1 hFc hP1 hD1
  have hK := (hK.sub (tys' := []) [] rfl).app hK1
  generalize H1 = H at hP hS ⊢
  have hP : va_P (dC, dI) vwCl [(h0, .inr (18, [v0, v1, v2, .ref h1])), (q1, .inr (5, [.int 0, .int (-1), .int 0, .ref h1])), (h1, .inr (6, [.int 0, v3, .int 0]))] H := hP
  have hD : va_D A [(h0, .inr (18, [v0, v1, v2, .ref h1])), (q1, .inr (5, [.int 0, .int (-1), .int 0, .ref h1])), (h1, .inr (6, [.int 0, v3, .int 0]))] := hD
  have hK : va_K (dC, dI) vwCl [] s := hK
  refine W.widen (k := 1) (n := 4) (Nat.le_of_ble_eq_true rfl) (Nat.le_of_ble_eq_true rfl) ?_
  refine lv_astore_n (lv' := [(2, .ref q1), (1, .int 0), (0, .ref h0)]) hx hb dX11_depth_9 rfl hl (by decide) rfl (fun ls hl => ?_)
  refine lv_aload_n hx hb dX11_depth_10 rfl (lv_at hl 0 rfl) ?_
  have hPc := hP.sub (ws' := [(q1, .inr (5, [.int 0, .int (-1), .int 0, .ref h1])), (h1, .inr (6, [.int 0, v3, .int 0]))]) [1, 2] rfl
  have hDc := hD.sub (ws' := [(q1, .inr (5, [.int 0, .int (-1), .int 0, .ref h1])), (h1, .inr (6, [.int 0, v3, .int 0]))]) [1, 2] (by decide) rfl
  have hKc := hK.sub (tys' := []) [] rfl
  have hFc := va_free (wc := [(q1, .inr (5, [.int 0, .int (-1), .int 0, .ref h1])), (h1, .inr (6, [.int 0, v3, .int 0]))]) hD hS hA [1, 2] rfl
  refine va_callFi (va_runF (hK.1 5 _ rfl).2 (As := []) (rest := []) ⟨hx, hb, hml, hown, hts⟩ (kJx35411_hasNext_aae02 l dC dI g H.size q1 h1 (.int (-1)) (.int 0) (.int 0) v3 ) (va_cwF 0 hts (ns_gp (List.forall_mem_cons.mpr ⟨wm720, (List.forall_mem_cons.mpr ⟨wm721, (List.forall_mem_cons.mpr ⟨wm722, (List.forall_mem_cons.mpr ⟨wm705, (fun _ h9 => nomatch h9)⟩)⟩)⟩)⟩) wm716) rfl rfl rfl (ns_f52 hF) (by decide +kernel) ⟨Nat.le_of_ble_eq_true rfl, Nat.le_of_ble_eq_true rfl⟩) ⟨fun a U gg mk q => by obtain ⟨q0, q1, qP, qK, qD, qF⟩ := q; exact ⟨q0, q1, qP, va_K.moved (u := U) (U := U.calling gg mk a) (Vm.Alike.refl U.vm) qK, qD, ns_same qF⟩, va_recv hK hP (ci := 5) (q0 := 1) rfl rfl, fun U hU hW => ⟨rfl, by rw [hU], by rw [hU]; exact hPc, va_K.moved hW.alike hKc, hDc.weaken (fun _ _ _ _ => trivial), ns_call hF hS hFc hU hW⟩⟩ rfl rfl hl.1 rfl (lv_room (Nat.le_of_ble_eq_true rfl)) dX11_depth_11 ⟨Nat.le_of_ble_eq_true rfl, Nat.le_of_ble_eq_true rfl⟩) hS (fun q _ h => hFc q h) hFc (fun r9 u t H1 locs ht hvm hw hB hz1 hk1 hS => ?_)
  obtain rfl := hw.symm
  obtain ⟨hP1, hK1, hD1⟩ := hB
  rw [ht] at hP1
  have hK1 := va_K.moved hvm.symm hK1
  obtain ⟨hP, hD⟩ := va_join (wr := [(h0, .inr (18, [v0, v1, v2, .ref h1]))]) (w1 := [(q1, .inr (5, [.int 0, .int (-1), .int 0, .ref h1])), (h1, .inr (6, [.int 0, v3, .int 0]))]) hP hD [1, 2] [0] rfl rfl (by decide) (by decide) hk1 hFc hP1 hD1
  have hK := (hK.sub (tys' := []) [] rfl).app hK1
  generalize H1 = H at hP hS ⊢
  have hP : va_P (dC, dI) vwCl [(h0, .inr (18, [v0, v1, v2, .ref h1])), (q1, .inr (5, [.int 0, .int (-1), .int 0, .ref h1])), (h1, .inr (6, [.int 0, v3, .int 0]))] H := hP
  have hD : va_D A [(h0, .inr (18, [v0, v1, v2, .ref h1])), (q1, .inr (5, [.int 0, .int (-1), .int 0, .ref h1])), (h1, .inr (6, [.int 0, v3, .int 0]))] := hD
  have hK : va_K (dC, dI) vwCl [] s := hK
  refine W.widen (k := 1) (n := 4) (Nat.le_of_ble_eq_true rfl) (Nat.le_of_ble_eq_true rfl) ?_
  refine lv_if_eq (tgt := 41) hx hb dX11_depth_16 (by decide) (fun c2 => ?_) (fun c2 => absurd (by decide) c2)
  refine lv_iload_n hx hb dX11_depth_41 rfl (lv_at hl 1 rfl) ?_
  refine lv_iconst (v := 1) hx hb dX11_depth_42 (by decide) ?_
  refine lv_iadd hx hb dX11_depth_43 ?_
  refine lv_topi (fun y3 ey3 => ?_)
  obtain rfl : y3 = 1 := ey3.trans (by decide)
  have hP9 := hP.sub (ws' := [(h0, .inr (18, [v0, v1, v2, .ref h1])), (q1, .inr (5, [.int 0, .int (-1), .int 0, .ref h1])), (h1, .inr (6, [.int 0, v3, .int 0]))]) [0, 1, 2] rfl
  have hD9 := hD.sub (ws' := [(h0, .inr (18, [v0, v1, v2, .ref h1])), (q1, .inr (5, [.int 0, .int (-1), .int 0, .ref h1])), (h1, .inr (6, [.int 0, v3, .int 0]))]) [0, 1, 2] (by decide) rfl
  have hK9 := hK.sub (tys' := []) [] rfl
  refine W.widen (k := 1) (n := 4) (Nat.le_of_ble_eq_true rfl) (Nat.le_of_ble_eq_true rfl) ?_
  exact W.iret (v := 1) hx hb hr (fun t ht hW => ⟨⟨_, (), rfl, rfl, q1, by rw [ht]; exact hP9, va_K.moved hW.alike hK9, hD9⟩, hS.F ht⟩) hS.2.2 dX11_depth_44
set_option maxHeartbeats 4000000 in
set_option maxRecDepth 100000 in
theorem kX16_measure (l : Launch) (dC : Nat → ClassId) (dI : Nat → Nat → Nat) (g : Nat → Nat) (sz : Nat) (h0 : Nat) (x0 : Int32) (x1 : Int32) (h1 : Nat) (v0 : Value) (v1 : Value) (v2 : Value) (v3 : Value) (v4 : Value) (v5 : Value) (v6 : Value) (v7 : Value) (v8 : Value) (v9 : Value) : Met l yX16_measure wbX16_measure ({ frames := 2, cells := 0, slots := 0, locals := 44 }) (va_Pc [.ref h0, .int x0, .int x1] (fun U => U.heap.size = sz ∧ va_P (dC, dI) vwCl [(h0, .inr (23, [v0, .ref h1, v1, v2, v3, v4, v5, v6, v7])), (h1, .inr (6, [v8, v9, .int 0]))] U.heap ∧ va_K (dC, dI) vwCl [] U ∧ va_D (fun _ => True) [(h0, .inr (23, [v0, .ref h1, v1, v2, v3, v4, v5, v6, v7])), (h1, .inr (6, [v8, v9, .int 0]))] ∧ ns_F g (va_A [(h0, .inr (23, [v0, .ref h1, v1, v2, v3, v4, v5, v6, v7])), (h1, .inr (6, [v8, v9, .int 0]))] sz) U U.heap)) (va_Qi (fun (r : Int32) (_ : Unit) => r = 0) (fun _ t => va_P (dC, dI) vwCl [(h1, .inr (6, [v8, v9, .int 0])), (h0, .inr (23, [.int 1, .ref h1, v1, v2, v3, v4, v5, v6, v7]))] t.heap ∧ va_K (dC, dI) vwCl [] t ∧ va_D (va_A [(h0, .inr (23, [v0, .ref h1, v1, v2, v3, v4, v5, v6, v7])), (h1, .inr (6, [v8, v9, .int 0]))] sz) [(h1, .inr (6, [v8, v9, .int 0])), (h0, .inr (23, [.int 1, .ref h1, v1, v2, v3, v4, v5, v6, v7]))]) (va_A [(h0, .inr (23, [v0, .ref h1, v1, v2, v3, v4, v5, v6, v7])), (h1, .inr (6, [v8, v9, .int 0]))] sz)) 0 0 (va_A [(h0, .inr (23, [v0, .ref h1, v1, v2, v3, v4, v5, v6, v7])), (h1, .inr (6, [v8, v9, .int 0]))] sz) := by
  refine Met.ofW (cc := cX16_measure) (maxL := 3) (ret := (some .int)) (by decide) rfl ?_
  intro p e s m args below meth c s₁ B hml hv
  obtain ⟨rfl, hsz, hP, hK, hD0, hF⟩ := hv
  have hx := B.exec
  have hb := B.bytes
  have hr := B.returns
  have hts := atoms_spec (ws := wbX16_measure) B.pre
  have hta : ∀ w ∈ wsALL, w.before _ s = true := fun w h => hts w (List.mem_cons_of_mem _ h)
  have hown : s.vm.findClass RX16 = some m.cls := findClass_of_methodNamed B.named
  have hlocks := B.notSynchronized
  subst hsz
  have hD := hD0.self (sz := s.heap.size)
  generalize hAe : va_A [(h0, .inr (23, [v0, .ref h1, v1, v2, v3, v4, v5, v6, v7])), (h1, .inr (6, [v8, v9, .int 0]))] s.heap.size = A at hD hF ⊢
  have hA : ∀ q : Nat, s.heap.size ≤ q → A q := fun q h => by rw [← hAe]; exact Or.inr h
  have hS : va_S A s.heap s.heap [] := va_S.rf
  have hP : va_P (dC, dI) vwCl [(h0, .inr (23, [v0, .ref h1, v1, v2, v3, v4, v5, v6, v7])), (h1, .inr (6, [v8, v9, .int 0]))] s.heap := hP
  have hl := lv_entry ([.ref h0, .int x0, .int x1]) (n := 3) (Nat.le_of_ble_eq_true rfl)
  rw [lg_entry_eq]
  generalize (lg_sl ([.ref h0, .int x0, .int x1]) ++ List.replicate (3 - (lg_sl ([.ref h0, .int x0, .int x1])).length) Slot.unset).toArray = ls at hl ⊢
  have hl : lv_has ls 3 [(0, .ref h0), (1, .int x0), (2, .int x1)] := hl
  refine lv_aload_n hx hb dX16_measure_0 rfl (lv_at hl 0 rfl) ?_
  refine lv_aload_n hx hb dX16_measure_1 rfl (lv_at hl 0 rfl) ?_
  refine lv_iload_n hx hb dX16_measure_2 rfl (lv_at hl 1 rfl) ?_
  have hPc := hP.sub (ws' := [(h0, .inr (23, [v0, .ref h1, v1, v2, v3, v4, v5, v6, v7])), (h1, .inr (6, [v8, v9, .int 0]))]) [0, 1] rfl
  have hDc := hD.sub (ws' := [(h0, .inr (23, [v0, .ref h1, v1, v2, v3, v4, v5, v6, v7])), (h1, .inr (6, [v8, v9, .int 0]))]) [0, 1] (by decide) rfl
  have hKc := hK.sub (tys' := []) [] rfl
  have hFc := va_free (wc := [(h0, .inr (23, [v0, .ref h1, v1, v2, v3, v4, v5, v6, v7])), (h1, .inr (6, [v8, v9, .int 0]))]) hD hS hA [0, 1] rfl
  refine va_calli (va_runV (As := [.int x0]) (rest := [.ref h0]) ⟨hx, hb, hml, hown, hts⟩ (kX16_isNoNode l dC dI g s.heap.size h0 x0 h1 v0 v1 v2 v3 v4 v5 v6 v7 v8 v9 ) (cwV 1 hts (ns_gp (List.forall_mem_cons.mpr ⟨wm449, (List.forall_mem_cons.mpr ⟨wm450, (List.forall_mem_cons.mpr ⟨wm451, (List.forall_mem_cons.mpr ⟨wm192, (fun _ h9 => nomatch h9)⟩)⟩)⟩)⟩) wm448) rfl rfl rfl (by decide +kernel) ⟨Nat.le_of_ble_eq_true rfl, Nat.le_of_ble_eq_true rfl⟩) ⟨fun a U gg mk q => by obtain ⟨q0, q1, qP, qK, qD, qF⟩ := q; exact ⟨q0, q1, qP, va_K.moved (u := U) (U := U.calling gg mk a) (Vm.Alike.refl U.vm) qK, qD, ns_same qF⟩, va_recv hK hP (ci := 23) (q0 := 0) rfl rfl, fun U hU hW => ⟨rfl, by rw [hU], by rw [hU]; exact hPc, va_K.moved hW.alike hKc, hDc.weaken (fun _ _ _ _ => trivial), ns_call hF hS hFc hU hW⟩⟩ rfl rfl hl.1 rfl (lv_room (Nat.le_of_ble_eq_true rfl)) dX16_measure_3 ⟨Nat.le_of_ble_eq_true rfl, Nat.le_of_ble_eq_true rfl⟩) hS (fun q _ h => hFc q h) hFc (fun r9 u t H1 locs ht hvm hw hB hz1 hk1 hS => ?_)
  obtain rfl := hw.symm
  obtain ⟨hP1, hK1, hD1⟩ := hB
  rw [ht] at hP1
  have hK1 := va_K.moved hvm.symm hK1
  obtain ⟨hP, hD⟩ := va_join (wr := []) (w1 := [(h0, .inr (23, [v0, .ref h1, v1, v2, v3, v4, v5, v6, v7])), (h1, .inr (6, [v8, v9, .int 0]))]) hP hD [0, 1] [] rfl rfl (by decide) (by decide) hk1 hFc hP1 hD1
  have hK := (hK.sub (tys' := []) [] rfl).app hK1
  generalize H1 = H at hP hS ⊢
  have hP : va_P (dC, dI) vwCl [(h0, .inr (23, [v0, .ref h1, v1, v2, v3, v4, v5, v6, v7])), (h1, .inr (6, [v8, v9, .int 0]))] H := hP
  have hD : va_D A [(h0, .inr (23, [v0, .ref h1, v1, v2, v3, v4, v5, v6, v7])), (h1, .inr (6, [v8, v9, .int 0]))] := hD
  have hK : va_K (dC, dI) vwCl [] s := hK
  refine W.widen (k := 0) (n := 0) (Nat.le_of_ble_eq_true rfl) (Nat.le_of_ble_eq_true rfl) ?_
  refine lv_iconst (v := 1) hx hb dX16_measure_6 (by decide) ?_
  have hPc := hP.sub (ws' := [(h0, .inr (23, [v0, .ref h1, v1, v2, v3, v4, v5, v6, v7]))]) [0] rfl
  have hDc := hD.sub (ws' := [(h0, .inr (23, [v0, .ref h1, v1, v2, v3, v4, v5, v6, v7]))]) [0] (by decide) rfl
  have hKc := hK.sub (tys' := []) [] rfl
  have hFc := va_free (wc := [(h0, .inr (23, [v0, .ref h1, v1, v2, v3, v4, v5, v6, v7]))]) hD hS hA [0] rfl
  refine va_calli (va_runV (As := [.int 1, .int 1]) (rest := []) ⟨hx, hb, hml, hown, hts⟩ (kX16_start l dC dI g H.size h0 v0 (.ref h1) v1 v2 v3 v4 v5 v6 v7 ) (cwV 2 hts (ns_gp (List.forall_mem_cons.mpr ⟨wm242, (List.forall_mem_cons.mpr ⟨wm243, (List.forall_mem_cons.mpr ⟨wm244, (List.forall_mem_cons.mpr ⟨wm192, (fun _ h9 => nomatch h9)⟩)⟩)⟩)⟩) wm239) rfl rfl rfl (by decide +kernel) ⟨Nat.le_of_ble_eq_true rfl, Nat.le_of_ble_eq_true rfl⟩) ⟨fun a U gg mk q => by obtain ⟨q0, q1, qP, qK, qD, qF⟩ := q; exact ⟨q0, q1, qP, va_K.moved (u := U) (U := U.calling gg mk a) (Vm.Alike.refl U.vm) qK, qD, ns_same qF⟩, va_recv hK hP (ci := 23) (q0 := 0) rfl rfl, fun U hU hW => ⟨rfl, by rw [hU], by rw [hU]; exact hPc, va_K.moved hW.alike hKc, hDc.weaken (fun _ _ _ _ => trivial), ns_call hF hS hFc hU hW⟩⟩ rfl rfl hl.1 rfl (lv_room (Nat.le_of_ble_eq_true rfl)) dX16_measure_7 ⟨Nat.le_of_ble_eq_true rfl, Nat.le_of_ble_eq_true rfl⟩) hS (fun q _ h => hFc q h) hFc (fun r9 u t H1 locs ht hvm hw hB hz1 hk1 hS => ?_)
  obtain rfl := hw.symm
  obtain ⟨hP1, hK1, hD1⟩ := hB
  rw [ht] at hP1
  have hK1 := va_K.moved hvm.symm hK1
  obtain ⟨hP, hD⟩ := va_join (wr := [(h1, .inr (6, [v8, v9, .int 0]))]) (w1 := [(h0, .inr (23, [.int 1, .ref h1, v1, v2, v3, v4, v5, v6, v7]))]) hP hD [0] [1] rfl rfl (by decide) (by decide) hk1 hFc hP1 hD1
  have hK := (hK.sub (tys' := []) [] rfl).app hK1
  generalize H1 = H at hP hS ⊢
  have hP : va_P (dC, dI) vwCl [(h1, .inr (6, [v8, v9, .int 0])), (h0, .inr (23, [.int 1, .ref h1, v1, v2, v3, v4, v5, v6, v7]))] H := hP
  have hD : va_D A [(h1, .inr (6, [v8, v9, .int 0])), (h0, .inr (23, [.int 1, .ref h1, v1, v2, v3, v4, v5, v6, v7]))] := hD
  have hK : va_K (dC, dI) vwCl [] s := hK
  refine W.widen (k := 0) (n := 0) (Nat.le_of_ble_eq_true rfl) (Nat.le_of_ble_eq_true rfl) ?_
  refine lv_if_ne (tgt := 36) hx hb dX16_measure_10 (by decide) (fun c1 => ?_) (fun c1 => absurd c1 (by decide))
  refine lv_iconst (v := 0) hx hb dX16_measure_36 (by decide) ?_
  refine lv_goto (tgt := 63) hx hb dX16_measure_37 (by decide) ?_
  have hP9 := hP.sub (ws' := [(h1, .inr (6, [v8, v9, .int 0])), (h0, .inr (23, [.int 1, .ref h1, v1, v2, v3, v4, v5, v6, v7]))]) [0, 1] rfl
  have hD9 := hD.sub (ws' := [(h1, .inr (6, [v8, v9, .int 0])), (h0, .inr (23, [.int 1, .ref h1, v1, v2, v3, v4, v5, v6, v7]))]) [0, 1] (by decide) rfl
  have hK9 := hK.sub (tys' := []) [] rfl
  refine W.widen (k := 0) (n := 0) (Nat.le_of_ble_eq_true rfl) (Nat.le_of_ble_eq_true rfl) ?_
  exact W.iret (v := 0) hx hb hr (fun t ht hW => ⟨⟨_, (), rfl, rfl, by rw [ht]; exact hP9, va_K.moved hW.alike hK9, hD9⟩, hS.F ht⟩) hS.2.2 dX16_measure_63
set_option maxHeartbeats 4000000 in
set_option maxRecDepth 100000 in
theorem kX9_fault (l : Launch) (dC : Nat → ClassId) (dI : Nat → Nat → Nat) (g : Nat → Nat) (sz : Nat) (h0 : Nat) (h1 : Nat) (h2 : Nat) (h3 : Nat) (v0 : Value) (v1 : Value) (v2 : Value) (v3 : Value) (v4 : Value) (v5 : Value) (v6 : Value) (v7 : Value) (v8 : Value) (v9 : Value) (v10 : Value) (v11 : Value) (v12 : Value) (v13 : Value) (v14 : Value) (v15 : Value) (v16 : Value) (v17 : Value) (v18 : Value) : Met l yX9_fault wbX9_fault ({ frames := 2, cells := 0, slots := 0, locals := 43 }) (va_Pc [.ref h0, .int 0] (fun U => U.heap.size = sz ∧ va_P (dC, dI) vwCl [(h0, .inr (16, [v0, .ref h3, v1, .ref h1, v2, v3, v4, v5, v6, v7, v8, v9, v10, v11, v12, v13])), (h1, .inr (8, [.ref h2, v14, v15])), (h2, .inr (11, [v16, v17])), (h3, .inr (11, [v18, .int 0]))] U.heap ∧ va_K (dC, dI) vwCl [] U ∧ va_D (fun _ => True) [(h0, .inr (16, [v0, .ref h3, v1, .ref h1, v2, v3, v4, v5, v6, v7, v8, v9, v10, v11, v12, v13])), (h1, .inr (8, [.ref h2, v14, v15])), (h2, .inr (11, [v16, v17])), (h3, .inr (11, [v18, .int 0]))] ∧ ns_F g (va_A [(h0, .inr (16, [v0, .ref h3, v1, .ref h1, v2, v3, v4, v5, v6, v7, v8, v9, v10, v11, v12, v13])), (h1, .inr (8, [.ref h2, v14, v15])), (h2, .inr (11, [v16, v17])), (h3, .inr (11, [v18, .int 0]))] sz) U U.heap)) (va_Qi (fun (r : Int32) (_ : Unit) => r = (-1)) (fun _ t => va_P (dC, dI) vwCl [(h0, .inr (16, [v0, .ref h3, v1, .ref h1, v2, v3, v4, v5, v6, v7, v8, v9, v10, v11, v12, v13])), (h1, .inr (8, [.ref h2, v14, v15])), (h3, .inr (11, [v18, .int 0])), (h2, .inr (11, [v16, .int 0]))] t.heap ∧ va_K (dC, dI) vwCl [] t ∧ va_D (va_A [(h0, .inr (16, [v0, .ref h3, v1, .ref h1, v2, v3, v4, v5, v6, v7, v8, v9, v10, v11, v12, v13])), (h1, .inr (8, [.ref h2, v14, v15])), (h2, .inr (11, [v16, v17])), (h3, .inr (11, [v18, .int 0]))] sz) [(h0, .inr (16, [v0, .ref h3, v1, .ref h1, v2, v3, v4, v5, v6, v7, v8, v9, v10, v11, v12, v13])), (h1, .inr (8, [.ref h2, v14, v15])), (h3, .inr (11, [v18, .int 0])), (h2, .inr (11, [v16, .int 0]))]) (va_A [(h0, .inr (16, [v0, .ref h3, v1, .ref h1, v2, v3, v4, v5, v6, v7, v8, v9, v10, v11, v12, v13])), (h1, .inr (8, [.ref h2, v14, v15])), (h2, .inr (11, [v16, v17])), (h3, .inr (11, [v18, .int 0]))] sz)) 0 0 (va_A [(h0, .inr (16, [v0, .ref h3, v1, .ref h1, v2, v3, v4, v5, v6, v7, v8, v9, v10, v11, v12, v13])), (h1, .inr (8, [.ref h2, v14, v15])), (h2, .inr (11, [v16, v17])), (h3, .inr (11, [v18, .int 0]))] sz) := by
  refine Met.ofW (cc := cX9_fault) (maxL := 2) (ret := (some .int)) (by decide) rfl ?_
  intro p e s m args below meth c s₁ B hml hv
  obtain ⟨rfl, hsz, hP, hK, hD0, hF⟩ := hv
  have hx := B.exec
  have hb := B.bytes
  have hr := B.returns
  have hts := atoms_spec (ws := wbX9_fault) B.pre
  have hta : ∀ w ∈ wsALL, w.before _ s = true := fun w h => hts w (List.mem_cons_of_mem _ h)
  have hown : s.vm.findClass RX9 = some m.cls := findClass_of_methodNamed B.named
  have hlocks := B.notSynchronized
  subst hsz
  have hD := hD0.self (sz := s.heap.size)
  generalize hAe : va_A [(h0, .inr (16, [v0, .ref h3, v1, .ref h1, v2, v3, v4, v5, v6, v7, v8, v9, v10, v11, v12, v13])), (h1, .inr (8, [.ref h2, v14, v15])), (h2, .inr (11, [v16, v17])), (h3, .inr (11, [v18, .int 0]))] s.heap.size = A at hD hF ⊢
  have hA : ∀ q : Nat, s.heap.size ≤ q → A q := fun q h => by rw [← hAe]; exact Or.inr h
  have hS : va_S A s.heap s.heap [] := va_S.rf
  have hP : va_P (dC, dI) vwCl [(h0, .inr (16, [v0, .ref h3, v1, .ref h1, v2, v3, v4, v5, v6, v7, v8, v9, v10, v11, v12, v13])), (h1, .inr (8, [.ref h2, v14, v15])), (h2, .inr (11, [v16, v17])), (h3, .inr (11, [v18, .int 0]))] s.heap := hP
  have hl := lv_entry ([.ref h0, .int 0]) (n := 2) (Nat.le_of_ble_eq_true rfl)
  rw [lg_entry_eq]
  generalize (lg_sl ([.ref h0, .int 0]) ++ List.replicate (2 - (lg_sl ([.ref h0, .int 0])).length) Slot.unset).toArray = ls at hl ⊢
  have hl : lv_has ls 2 [(0, .ref h0), (1, .int 0)] := hl
  refine lv_iload_n hx hb dX9_fault_0 rfl (lv_at hl 1 rfl) ?_
  refine lv_if_eq (tgt := 22) hx hb dX9_fault_1 (by decide) (fun c1 => ?_) (fun c1 => absurd (by decide) c1)
  refine lv_aload_n hx hb dX9_fault_22 rfl (lv_at hl 0 rfl) ?_
  refine va_get (D := (dC, dI)) (ci := 16) (v := .ref h1) (C := RX9) (T := TX9) (N := 16) hx hb hta naX9 hown hK hP 0 rfl rfl 3 (by decide) (hta _ wm44) (fun _ h9 => h9) rfl dX9_fault_23 ?_
  refine lv_aload_n hx hb dX9_fault_26 rfl (lv_at hl 0 rfl) ?_
  refine va_get (D := (dC, dI)) (ci := 16) (v := .ref h3) (C := RX9) (T := TX9) (N := 16) hx hb hta naX9 hown hK hP 0 rfl rfl 1 (by decide) (hta _ wm32) (fun _ h9 => h9) rfl dX9_fault_27 ?_
  have hPc := hP.sub (ws' := [(h1, .inr (8, [.ref h2, v14, v15])), (h2, .inr (11, [v16, v17])), (h3, .inr (11, [v18, .int 0]))]) [1, 2, 3] rfl
  have hDc := hD.sub (ws' := [(h1, .inr (8, [.ref h2, v14, v15])), (h2, .inr (11, [v16, v17])), (h3, .inr (11, [v18, .int 0]))]) [1, 2, 3] (by decide) rfl
  have hKc := hK.sub (tys' := []) [] rfl
  have hFc := va_free (wc := [(h1, .inr (8, [.ref h2, v14, v15])), (h2, .inr (11, [v16, v17])), (h3, .inr (11, [v18, .int 0]))]) hD hS hA [1, 2, 3] rfl
  refine va_calli (va_runV (As := [.ref h3]) (rest := []) ⟨hx, hb, hml, hown, hts⟩ (kX1_faultOf l dC dI g s.heap.size h1 h3 h2 v14 v15 v16 v17 v18 ) (cwV 1 hts (ns_gp (List.forall_mem_cons.mpr ⟨wm671, (List.forall_mem_cons.mpr ⟨wm672, (List.forall_mem_cons.mpr ⟨wm673, (List.forall_mem_cons.mpr ⟨wm36, (fun _ h9 => nomatch h9)⟩)⟩)⟩)⟩) wm664) rfl rfl rfl (by decide +kernel) ⟨Nat.le_of_ble_eq_true rfl, Nat.le_of_ble_eq_true rfl⟩) ⟨fun a U gg mk q => by obtain ⟨q0, q1, qP, qK, qD, qF⟩ := q; exact ⟨q0, q1, qP, va_K.moved (u := U) (U := U.calling gg mk a) (Vm.Alike.refl U.vm) qK, qD, ns_same qF⟩, va_recv hK hP (ci := 8) (q0 := 1) rfl rfl, fun U hU hW => ⟨rfl, by rw [hU], by rw [hU]; exact hPc, va_K.moved hW.alike hKc, hDc.weaken (fun _ _ _ _ => trivial), ns_call hF hS hFc hU hW⟩⟩ rfl rfl hl.1 rfl (lv_room (Nat.le_of_ble_eq_true rfl)) dX9_fault_30 ⟨Nat.le_of_ble_eq_true rfl, Nat.le_of_ble_eq_true rfl⟩) hS (fun q _ h => hFc q h) hFc (fun r9 u t H1 locs ht hvm hw hB hz1 hk1 hS => ?_)
  obtain rfl := hw.symm
  obtain ⟨hP1, hK1, hD1⟩ := hB
  rw [ht] at hP1
  have hK1 := va_K.moved hvm.symm hK1
  obtain ⟨hP, hD⟩ := va_join (wr := [(h0, .inr (16, [v0, .ref h3, v1, .ref h1, v2, v3, v4, v5, v6, v7, v8, v9, v10, v11, v12, v13]))]) (w1 := [(h1, .inr (8, [.ref h2, v14, v15])), (h3, .inr (11, [v18, .int 0])), (h2, .inr (11, [v16, .int 0]))]) hP hD [1, 2, 3] [0] rfl rfl (by decide) (by decide) hk1 hFc hP1 hD1
  have hK := (hK.sub (tys' := []) [] rfl).app hK1
  generalize H1 = H at hP hS ⊢
  have hP : va_P (dC, dI) vwCl [(h0, .inr (16, [v0, .ref h3, v1, .ref h1, v2, v3, v4, v5, v6, v7, v8, v9, v10, v11, v12, v13])), (h1, .inr (8, [.ref h2, v14, v15])), (h3, .inr (11, [v18, .int 0])), (h2, .inr (11, [v16, .int 0]))] H := hP
  have hD : va_D A [(h0, .inr (16, [v0, .ref h3, v1, .ref h1, v2, v3, v4, v5, v6, v7, v8, v9, v10, v11, v12, v13])), (h1, .inr (8, [.ref h2, v14, v15])), (h3, .inr (11, [v18, .int 0])), (h2, .inr (11, [v16, .int 0]))] := hD
  have hK : va_K (dC, dI) vwCl [] s := hK
  refine W.widen (k := 0) (n := 0) (Nat.le_of_ble_eq_true rfl) (Nat.le_of_ble_eq_true rfl) ?_
  have hP9 := hP.sub (ws' := [(h0, .inr (16, [v0, .ref h3, v1, .ref h1, v2, v3, v4, v5, v6, v7, v8, v9, v10, v11, v12, v13])), (h1, .inr (8, [.ref h2, v14, v15])), (h3, .inr (11, [v18, .int 0])), (h2, .inr (11, [v16, .int 0]))]) [0, 1, 2, 3] rfl
  have hD9 := hD.sub (ws' := [(h0, .inr (16, [v0, .ref h3, v1, .ref h1, v2, v3, v4, v5, v6, v7, v8, v9, v10, v11, v12, v13])), (h1, .inr (8, [.ref h2, v14, v15])), (h3, .inr (11, [v18, .int 0])), (h2, .inr (11, [v16, .int 0]))]) [0, 1, 2, 3] (by decide) rfl
  have hK9 := hK.sub (tys' := []) [] rfl
  refine W.widen (k := 0) (n := 0) (Nat.le_of_ble_eq_true rfl) (Nat.le_of_ble_eq_true rfl) ?_
  exact W.iret (v := (-1)) hx hb hr (fun t ht hW => ⟨⟨_, (), rfl, rfl, by rw [ht]; exact hP9, va_K.moved hW.alike hK9, hD9⟩, hS.F ht⟩) hS.2.2 dX9_fault_33
set_option maxHeartbeats 4000000 in
set_option maxRecDepth 100000 in
theorem kX16_mark_3 (l : Launch) (dC : Nat → ClassId) (dI : Nat → Nat → Nat) (g : Nat → Nat) (sz : Nat) (h0 : Nat) (x0 : Int32) (v0 : Value) (v1 : Value) (v2 : Value) (v3 : Value) (v4 : Value) (v5 : Value) (v6 : Value) (v7 : Value) (v8 : Value) (ex0 : (5 : Int) ≤ x0.toInt ∧ x0.toInt ≤ (2147483647 : Int)) : Met l yX16_mark wbX16_mark ({ frames := 2, cells := 0, slots := 0, locals := 44 }) (va_Pc [.ref h0, .int x0] (fun U => U.heap.size = sz ∧ va_P (dC, dI) vwCl [(h0, .inr (23, [v0, v1, v2, v3, v4, v5, v6, v7, v8]))] U.heap ∧ va_K (dC, dI) vwCl [] U ∧ va_D (fun _ => True) [(h0, .inr (23, [v0, v1, v2, v3, v4, v5, v6, v7, v8]))] ∧ ns_F g (va_A [(h0, .inr (23, [v0, v1, v2, v3, v4, v5, v6, v7, v8]))] sz) U U.heap)) (va_Qi (fun (r : Int32) (_ : Unit) => r = 0) (fun _ t => va_P (dC, dI) vwCl [(h0, .inr (23, [.int 1, v1, v2, v3, v4, v5, v6, v7, v8]))] t.heap ∧ va_K (dC, dI) vwCl [] t ∧ va_D (va_A [(h0, .inr (23, [v0, v1, v2, v3, v4, v5, v6, v7, v8]))] sz) [(h0, .inr (23, [.int 1, v1, v2, v3, v4, v5, v6, v7, v8]))]) (va_A [(h0, .inr (23, [v0, v1, v2, v3, v4, v5, v6, v7, v8]))] sz)) 0 0 (va_A [(h0, .inr (23, [v0, v1, v2, v3, v4, v5, v6, v7, v8]))] sz) := by
  refine Met.ofW (cc := cX16_mark) (maxL := 2) (ret := (some .int)) (by decide) rfl ?_
  intro p e s m args below meth c s₁ B hml hv
  obtain ⟨rfl, hsz, hP, hK, hD0, hF⟩ := hv
  have hx := B.exec
  have hb := B.bytes
  have hr := B.returns
  have hts := atoms_spec (ws := wbX16_mark) B.pre
  have hta : ∀ w ∈ wsALL, w.before _ s = true := fun w h => hts w (List.mem_cons_of_mem _ h)
  have hown : s.vm.findClass RX16 = some m.cls := findClass_of_methodNamed B.named
  have hlocks := B.notSynchronized
  subst hsz
  have hD := hD0.self (sz := s.heap.size)
  generalize hAe : va_A [(h0, .inr (23, [v0, v1, v2, v3, v4, v5, v6, v7, v8]))] s.heap.size = A at hD hF ⊢
  have hA : ∀ q : Nat, s.heap.size ≤ q → A q := fun q h => by rw [← hAe]; exact Or.inr h
  have hS : va_S A s.heap s.heap [] := va_S.rf
  have hP : va_P (dC, dI) vwCl [(h0, .inr (23, [v0, v1, v2, v3, v4, v5, v6, v7, v8]))] s.heap := hP
  have hl := lv_entry ([.ref h0, .int x0]) (n := 2) (Nat.le_of_ble_eq_true rfl)
  rw [lg_entry_eq]
  generalize (lg_sl ([.ref h0, .int x0]) ++ List.replicate (2 - (lg_sl ([.ref h0, .int x0])).length) Slot.unset).toArray = ls at hl ⊢
  have hl : lv_has ls 2 [(0, .ref h0), (1, .int x0)] := hl
  refine lv_aload_n hx hb dX16_mark_0 rfl (lv_at hl 0 rfl) ?_
  refine lv_iload_n hx hb dX16_mark_1 rfl (lv_at hl 1 rfl) ?_
  refine lv_iconst (v := 1) hx hb dX16_mark_2 (by decide) ?_
  refine lv_iconst (v := 4) hx hb dX16_mark_3 (by decide) ?_
  have hPc := hP.sub (ws' := []) [] rfl
  have hDc := hD.sub (ws' := []) [] (by decide) rfl
  have hKc := hK.sub (tys' := []) [] rfl
  have hFc := va_free (wc := []) hD hS hA [] rfl
  refine va_calli (va_runS (As := [.int x0, .int 1, .int 4]) (rest := [.ref h0]) ⟨hx, hb, hml, hown, hts⟩ (kX16_isIn_17 l dC dI g s.heap.size x0 ⟨by omega, by omega⟩) (va_cwS 3 hts (ns_gp (List.forall_mem_cons.mpr ⟨wm240, (List.forall_mem_cons.mpr ⟨wm241, (List.forall_mem_cons.mpr ⟨wm192, (fun _ h9 => nomatch h9)⟩)⟩)⟩) wm233) rfl rfl rfl (by decide +kernel) ⟨Nat.le_of_ble_eq_true rfl, Nat.le_of_ble_eq_true rfl⟩) ⟨fun a U gg mk q => by obtain ⟨q0, q1, qP, qK, qD, qF⟩ := q; exact ⟨q0, q1, qP, va_K.moved (u := U) (U := U.calling gg mk a) (Vm.Alike.refl U.vm) qK, qD, ns_same qF⟩, fun U hU hW => ⟨rfl, by rw [hU], by rw [hU]; exact hPc, va_K.moved hW.alike hKc, hDc.weaken (fun _ _ _ _ => trivial), ns_call hF hS hFc hU hW⟩⟩ rfl rfl hl.1 rfl (lv_room (Nat.le_of_ble_eq_true rfl)) dX16_mark_4 ⟨Nat.le_of_ble_eq_true rfl, Nat.le_of_ble_eq_true rfl⟩) hS (fun q _ h => hFc q h) hFc (fun r9 u t H1 locs ht hvm hw hB hz1 hk1 hS => ?_)
  obtain rfl := hw.symm
  obtain ⟨hP1, hK1, hD1⟩ := hB
  rw [ht] at hP1
  have hK1 := va_K.moved hvm.symm hK1
  obtain ⟨hP, hD⟩ := va_join (wr := [(h0, .inr (23, [v0, v1, v2, v3, v4, v5, v6, v7, v8]))]) (w1 := []) hP hD [] [0] rfl rfl (by decide) (by decide) hk1 hFc hP1 hD1
  have hK := (hK.sub (tys' := []) [] rfl).app hK1
  generalize H1 = H at hP hS ⊢
  have hP : va_P (dC, dI) vwCl [(h0, .inr (23, [v0, v1, v2, v3, v4, v5, v6, v7, v8]))] H := hP
  have hD : va_D A [(h0, .inr (23, [v0, v1, v2, v3, v4, v5, v6, v7, v8]))] := hD
  have hK : va_K (dC, dI) vwCl [] s := hK
  refine W.widen (k := 0) (n := 0) (Nat.le_of_ble_eq_true rfl) (Nat.le_of_ble_eq_true rfl) ?_
  refine lv_if_ne (tgt := 14) hx hb dX16_mark_7 (by decide) (fun c1 => absurd (by decide) c1) (fun c1 => ?_)
  refine lv_iconst (v := 1) hx hb dX16_mark_10 (by decide) ?_
  refine lv_goto (tgt := 15) hx hb dX16_mark_11 (by decide) ?_
  refine lv_iconst (v := 1) hx hb dX16_mark_15 (by decide) ?_
  have hPc := hP.sub (ws' := [(h0, .inr (23, [v0, v1, v2, v3, v4, v5, v6, v7, v8]))]) [0] rfl
  have hDc := hD.sub (ws' := [(h0, .inr (23, [v0, v1, v2, v3, v4, v5, v6, v7, v8]))]) [0] (by decide) rfl
  have hKc := hK.sub (tys' := []) [] rfl
  have hFc := va_free (wc := [(h0, .inr (23, [v0, v1, v2, v3, v4, v5, v6, v7, v8]))]) hD hS hA [0] rfl
  refine va_calli (va_runV (As := [.int 1, .int 1]) (rest := []) ⟨hx, hb, hml, hown, hts⟩ (kX16_start l dC dI g H.size h0 v0 v1 v2 v3 v4 v5 v6 v7 v8 ) (cwV 2 hts (ns_gp (List.forall_mem_cons.mpr ⟨wm242, (List.forall_mem_cons.mpr ⟨wm243, (List.forall_mem_cons.mpr ⟨wm244, (List.forall_mem_cons.mpr ⟨wm192, (fun _ h9 => nomatch h9)⟩)⟩)⟩)⟩) wm239) rfl rfl rfl (by decide +kernel) ⟨Nat.le_of_ble_eq_true rfl, Nat.le_of_ble_eq_true rfl⟩) ⟨fun a U gg mk q => by obtain ⟨q0, q1, qP, qK, qD, qF⟩ := q; exact ⟨q0, q1, qP, va_K.moved (u := U) (U := U.calling gg mk a) (Vm.Alike.refl U.vm) qK, qD, ns_same qF⟩, va_recv hK hP (ci := 23) (q0 := 0) rfl rfl, fun U hU hW => ⟨rfl, by rw [hU], by rw [hU]; exact hPc, va_K.moved hW.alike hKc, hDc.weaken (fun _ _ _ _ => trivial), ns_call hF hS hFc hU hW⟩⟩ rfl rfl hl.1 rfl (lv_room (Nat.le_of_ble_eq_true rfl)) dX16_mark_16 ⟨Nat.le_of_ble_eq_true rfl, Nat.le_of_ble_eq_true rfl⟩) hS (fun q _ h => hFc q h) hFc (fun r9 u t H1 locs ht hvm hw hB hz1 hk1 hS => ?_)
  obtain rfl := hw.symm
  obtain ⟨hP1, hK1, hD1⟩ := hB
  rw [ht] at hP1
  have hK1 := va_K.moved hvm.symm hK1
  obtain ⟨hP, hD⟩ := va_join (wr := []) (w1 := [(h0, .inr (23, [.int 1, v1, v2, v3, v4, v5, v6, v7, v8]))]) hP hD [0] [] rfl rfl (by decide) (by decide) hk1 hFc hP1 hD1
  have hK := (hK.sub (tys' := []) [] rfl).app hK1
  generalize H1 = H at hP hS ⊢
  have hP : va_P (dC, dI) vwCl [(h0, .inr (23, [.int 1, v1, v2, v3, v4, v5, v6, v7, v8]))] H := hP
  have hD : va_D A [(h0, .inr (23, [.int 1, v1, v2, v3, v4, v5, v6, v7, v8]))] := hD
  have hK : va_K (dC, dI) vwCl [] s := hK
  refine W.widen (k := 0) (n := 0) (Nat.le_of_ble_eq_true rfl) (Nat.le_of_ble_eq_true rfl) ?_
  refine lv_if_ne (tgt := 34) hx hb dX16_mark_19 (by decide) (fun c2 => ?_) (fun c2 => absurd c2 (by decide))
  refine lv_iconst (v := 0) hx hb dX16_mark_34 (by decide) ?_
  refine lv_goto (tgt := 53) hx hb dX16_mark_35 (by decide) ?_
  have hP9 := hP.sub (ws' := [(h0, .inr (23, [.int 1, v1, v2, v3, v4, v5, v6, v7, v8]))]) [0] rfl
  have hD9 := hD.sub (ws' := [(h0, .inr (23, [.int 1, v1, v2, v3, v4, v5, v6, v7, v8]))]) [0] (by decide) rfl
  have hK9 := hK.sub (tys' := []) [] rfl
  refine W.widen (k := 0) (n := 0) (Nat.le_of_ble_eq_true rfl) (Nat.le_of_ble_eq_true rfl) ?_
  exact W.iret (v := 0) hx hb hr (fun t ht hW => ⟨⟨_, (), rfl, rfl, by rw [ht]; exact hP9, va_K.moved hW.alike hK9, hD9⟩, hS.F ht⟩) hS.2.2 dX16_mark_53
set_option maxHeartbeats 4000000 in
set_option maxRecDepth 100000 in
theorem kX16_word_4 (l : Launch) (dC : Nat → ClassId) (dI : Nat → Nat → Nat) (g : Nat → Nat) (sz : Nat) (h0 : Nat) (x0 : Int32) (v0 : Value) (v1 : Value) (v2 : Value) (v3 : Value) (v4 : Value) (v5 : Value) (v6 : Value) (v7 : Value) (v8 : Value) (ex0 : (-2147483648 : Int) ≤ x0.toInt ∧ x0.toInt ≤ (-1 : Int)) : Met l yX16_word wbX16_word ({ frames := 2, cells := 0, slots := 0, locals := 44 }) (va_Pc [.ref h0, .int x0, .int 3] (fun U => U.heap.size = sz ∧ va_P (dC, dI) vwCl [(h0, .inr (23, [v0, v1, v2, v3, v4, v5, v6, v7, v8]))] U.heap ∧ va_K (dC, dI) vwCl [] U ∧ va_D (fun _ => True) [(h0, .inr (23, [v0, v1, v2, v3, v4, v5, v6, v7, v8]))] ∧ ns_F g (va_A [(h0, .inr (23, [v0, v1, v2, v3, v4, v5, v6, v7, v8]))] sz) U U.heap)) (va_Qi (fun (r : Int32) (_ : Unit) => r = 0) (fun _ t => va_P (dC, dI) vwCl [(h0, .inr (23, [.int 1, v1, v2, v3, v4, v5, v6, v7, v8]))] t.heap ∧ va_K (dC, dI) vwCl [] t ∧ va_D (va_A [(h0, .inr (23, [v0, v1, v2, v3, v4, v5, v6, v7, v8]))] sz) [(h0, .inr (23, [.int 1, v1, v2, v3, v4, v5, v6, v7, v8]))]) (va_A [(h0, .inr (23, [v0, v1, v2, v3, v4, v5, v6, v7, v8]))] sz)) 0 0 (va_A [(h0, .inr (23, [v0, v1, v2, v3, v4, v5, v6, v7, v8]))] sz) := by
  refine Met.ofW (cc := cX16_word) (maxL := 5) (ret := (some .int)) (by decide) rfl ?_
  intro p e s m args below meth c s₁ B hml hv
  obtain ⟨rfl, hsz, hP, hK, hD0, hF⟩ := hv
  have hx := B.exec
  have hb := B.bytes
  have hr := B.returns
  have hts := atoms_spec (ws := wbX16_word) B.pre
  have hta : ∀ w ∈ wsALL, w.before _ s = true := fun w h => hts w (List.mem_cons_of_mem _ h)
  have hown : s.vm.findClass RX16 = some m.cls := findClass_of_methodNamed B.named
  have hlocks := B.notSynchronized
  subst hsz
  have hD := hD0.self (sz := s.heap.size)
  generalize hAe : va_A [(h0, .inr (23, [v0, v1, v2, v3, v4, v5, v6, v7, v8]))] s.heap.size = A at hD hF ⊢
  have hA : ∀ q : Nat, s.heap.size ≤ q → A q := fun q h => by rw [← hAe]; exact Or.inr h
  have hS : va_S A s.heap s.heap [] := va_S.rf
  have hP : va_P (dC, dI) vwCl [(h0, .inr (23, [v0, v1, v2, v3, v4, v5, v6, v7, v8]))] s.heap := hP
  have hl := lv_entry ([.ref h0, .int x0, .int 3]) (n := 5) (Nat.le_of_ble_eq_true rfl)
  rw [lg_entry_eq]
  generalize (lg_sl ([.ref h0, .int x0, .int 3]) ++ List.replicate (5 - (lg_sl ([.ref h0, .int x0, .int 3])).length) Slot.unset).toArray = ls at hl ⊢
  have hl : lv_has ls 5 [(0, .ref h0), (1, .int x0), (2, .int 3)] := hl
  refine lv_aload_n hx hb dX16_word_0 rfl (lv_at hl 0 rfl) ?_
  refine lv_iload_n hx hb dX16_word_1 rfl (lv_at hl 1 rfl) ?_
  refine lv_iconst (v := 0) hx hb dX16_word_2 (by decide) ?_
  refine lv_bipush (v := 25) hx hb dX16_word_3 (by decide) ?_
  have hPc := hP.sub (ws' := []) [] rfl
  have hDc := hD.sub (ws' := []) [] (by decide) rfl
  have hKc := hK.sub (tys' := []) [] rfl
  have hFc := va_free (wc := []) hD hS hA [] rfl
  refine va_calli (va_runS (As := [.int x0, .int 0, .int 25]) (rest := [.ref h0]) ⟨hx, hb, hml, hown, hts⟩ (kX16_isIn l dC dI g s.heap.size x0 ⟨by omega, by omega⟩) (va_cwS 3 hts (ns_gp (List.forall_mem_cons.mpr ⟨wm240, (List.forall_mem_cons.mpr ⟨wm241, (List.forall_mem_cons.mpr ⟨wm192, (fun _ h9 => nomatch h9)⟩)⟩)⟩) wm233) rfl rfl rfl (by decide +kernel) ⟨Nat.le_of_ble_eq_true rfl, Nat.le_of_ble_eq_true rfl⟩) ⟨fun a U gg mk q => by obtain ⟨q0, q1, qP, qK, qD, qF⟩ := q; exact ⟨q0, q1, qP, va_K.moved (u := U) (U := U.calling gg mk a) (Vm.Alike.refl U.vm) qK, qD, ns_same qF⟩, fun U hU hW => ⟨rfl, by rw [hU], by rw [hU]; exact hPc, va_K.moved hW.alike hKc, hDc.weaken (fun _ _ _ _ => trivial), ns_call hF hS hFc hU hW⟩⟩ rfl rfl hl.1 rfl (lv_room (Nat.le_of_ble_eq_true rfl)) dX16_word_5 ⟨Nat.le_of_ble_eq_true rfl, Nat.le_of_ble_eq_true rfl⟩) hS (fun q _ h => hFc q h) hFc (fun r9 u t H1 locs ht hvm hw hB hz1 hk1 hS => ?_)
  obtain rfl := hw.symm
  obtain ⟨hP1, hK1, hD1⟩ := hB
  rw [ht] at hP1
  have hK1 := va_K.moved hvm.symm hK1
  obtain ⟨hP, hD⟩ := va_join (wr := [(h0, .inr (23, [v0, v1, v2, v3, v4, v5, v6, v7, v8]))]) (w1 := []) hP hD [] [0] rfl rfl (by decide) (by decide) hk1 hFc hP1 hD1
  have hK := (hK.sub (tys' := []) [] rfl).app hK1
  generalize H1 = H at hP hS ⊢
  have hP : va_P (dC, dI) vwCl [(h0, .inr (23, [v0, v1, v2, v3, v4, v5, v6, v7, v8]))] H := hP
  have hD : va_D A [(h0, .inr (23, [v0, v1, v2, v3, v4, v5, v6, v7, v8]))] := hD
  have hK : va_K (dC, dI) vwCl [] s := hK
  refine W.widen (k := 0) (n := 0) (Nat.le_of_ble_eq_true rfl) (Nat.le_of_ble_eq_true rfl) ?_
  refine lv_if_eq (tgt := 21) hx hb dX16_word_8 (by decide) (fun c1 => ?_) (fun c1 => absurd (by decide) c1)
  refine lv_iconst (v := 1) hx hb dX16_word_21 (by decide) ?_
  refine lv_goto (tgt := 26) hx hb dX16_word_22 (by decide) ?_
  refine lv_iconst (v := 1) hx hb dX16_word_26 (by decide) ?_
  have hPc := hP.sub (ws' := [(h0, .inr (23, [v0, v1, v2, v3, v4, v5, v6, v7, v8]))]) [0] rfl
  have hDc := hD.sub (ws' := [(h0, .inr (23, [v0, v1, v2, v3, v4, v5, v6, v7, v8]))]) [0] (by decide) rfl
  have hKc := hK.sub (tys' := []) [] rfl
  have hFc := va_free (wc := [(h0, .inr (23, [v0, v1, v2, v3, v4, v5, v6, v7, v8]))]) hD hS hA [0] rfl
  refine va_calli (va_runV (As := [.int 1, .int 1]) (rest := []) ⟨hx, hb, hml, hown, hts⟩ (kX16_start l dC dI g H.size h0 v0 v1 v2 v3 v4 v5 v6 v7 v8 ) (cwV 2 hts (ns_gp (List.forall_mem_cons.mpr ⟨wm242, (List.forall_mem_cons.mpr ⟨wm243, (List.forall_mem_cons.mpr ⟨wm244, (List.forall_mem_cons.mpr ⟨wm192, (fun _ h9 => nomatch h9)⟩)⟩)⟩)⟩) wm239) rfl rfl rfl (by decide +kernel) ⟨Nat.le_of_ble_eq_true rfl, Nat.le_of_ble_eq_true rfl⟩) ⟨fun a U gg mk q => by obtain ⟨q0, q1, qP, qK, qD, qF⟩ := q; exact ⟨q0, q1, qP, va_K.moved (u := U) (U := U.calling gg mk a) (Vm.Alike.refl U.vm) qK, qD, ns_same qF⟩, va_recv hK hP (ci := 23) (q0 := 0) rfl rfl, fun U hU hW => ⟨rfl, by rw [hU], by rw [hU]; exact hPc, va_K.moved hW.alike hKc, hDc.weaken (fun _ _ _ _ => trivial), ns_call hF hS hFc hU hW⟩⟩ rfl rfl hl.1 rfl (lv_room (Nat.le_of_ble_eq_true rfl)) dX16_word_27 ⟨Nat.le_of_ble_eq_true rfl, Nat.le_of_ble_eq_true rfl⟩) hS (fun q _ h => hFc q h) hFc (fun r9 u t H1 locs ht hvm hw hB hz1 hk1 hS => ?_)
  obtain rfl := hw.symm
  obtain ⟨hP1, hK1, hD1⟩ := hB
  rw [ht] at hP1
  have hK1 := va_K.moved hvm.symm hK1
  obtain ⟨hP, hD⟩ := va_join (wr := []) (w1 := [(h0, .inr (23, [.int 1, v1, v2, v3, v4, v5, v6, v7, v8]))]) hP hD [0] [] rfl rfl (by decide) (by decide) hk1 hFc hP1 hD1
  have hK := (hK.sub (tys' := []) [] rfl).app hK1
  generalize H1 = H at hP hS ⊢
  have hP : va_P (dC, dI) vwCl [(h0, .inr (23, [.int 1, v1, v2, v3, v4, v5, v6, v7, v8]))] H := hP
  have hD : va_D A [(h0, .inr (23, [.int 1, v1, v2, v3, v4, v5, v6, v7, v8]))] := hD
  have hK : va_K (dC, dI) vwCl [] s := hK
  refine W.widen (k := 0) (n := 0) (Nat.le_of_ble_eq_true rfl) (Nat.le_of_ble_eq_true rfl) ?_
  refine lv_if_ne (tgt := 45) hx hb dX16_word_30 (by decide) (fun c2 => ?_) (fun c2 => absurd c2 (by decide))
  refine lv_iconst (v := 0) hx hb dX16_word_45 (by decide) ?_
  have hP9 := hP.sub (ws' := [(h0, .inr (23, [.int 1, v1, v2, v3, v4, v5, v6, v7, v8]))]) [0] rfl
  have hD9 := hD.sub (ws' := [(h0, .inr (23, [.int 1, v1, v2, v3, v4, v5, v6, v7, v8]))]) [0] (by decide) rfl
  have hK9 := hK.sub (tys' := []) [] rfl
  refine W.widen (k := 0) (n := 0) (Nat.le_of_ble_eq_true rfl) (Nat.le_of_ble_eq_true rfl) ?_
  exact W.iret (v := 0) hx hb hr (fun t ht hW => ⟨⟨_, (), rfl, rfl, by rw [ht]; exact hP9, va_K.moved hW.alike hK9, hD9⟩, hS.F ht⟩) hS.2.2 dX16_word_46
set_option maxHeartbeats 4000000 in
set_option maxRecDepth 100000 in
theorem kL_house_7 (l : Launch) (dC : Nat → ClassId) (dI : Nat → Nat → Nat) (g : Nat → Nat) (sz : Nat) (h0 : Nat) (h1 : Nat) (v0 : Value) (v1 : Value) (v2 : Value) (v3 : Value) (v4 : Value) (v5 : Value) (v6 : Value) (v7 : Value) (v8 : Value) (v9 : Value) (v10 : Value) (v11 : Value) (v12 : Value) (v13 : Value) (v14 : Value) (v15 : Value) (v16 : Value) : Met l yL_house wbL_house ({ frames := 2, cells := 0, slots := 0, locals := 42 }) (va_Pc [.ref h0, .int 5, .ref h1] (fun U => U.heap.size = sz ∧ va_P (dC, dI) vwCl [(h0, .inr (16, [v0, v1, v2, v3, v4, v5, v6, v7, v8, v9, v10, v11, v12, v13, .int 0, v14])), (h1, .inr (17, [v15, v16]))] U.heap ∧ va_K (dC, dI) vwCl [] U ∧ va_D (fun _ => True) [(h0, .inr (16, [v0, v1, v2, v3, v4, v5, v6, v7, v8, v9, v10, v11, v12, v13, .int 0, v14])), (h1, .inr (17, [v15, v16]))] ∧ ns_F g (va_A [(h0, .inr (16, [v0, v1, v2, v3, v4, v5, v6, v7, v8, v9, v10, v11, v12, v13, .int 0, v14])), (h1, .inr (17, [v15, v16]))] sz) U U.heap)) (va_Qi (fun (r : Int32) (_ : Unit) => r = 0) (fun _ t => va_P (dC, dI) vwCl [(h1, .inr (17, [.long 0, v16])), (h0, .inr (16, [v0, v1, v2, v3, v4, v5, v6, v7, v8, v9, v10, v11, v12, v13, .int 0, v14]))] t.heap ∧ va_K (dC, dI) vwCl [] t ∧ va_D (va_A [(h0, .inr (16, [v0, v1, v2, v3, v4, v5, v6, v7, v8, v9, v10, v11, v12, v13, .int 0, v14])), (h1, .inr (17, [v15, v16]))] sz) [(h1, .inr (17, [.long 0, v16])), (h0, .inr (16, [v0, v1, v2, v3, v4, v5, v6, v7, v8, v9, v10, v11, v12, v13, .int 0, v14]))]) (va_A [(h0, .inr (16, [v0, v1, v2, v3, v4, v5, v6, v7, v8, v9, v10, v11, v12, v13, .int 0, v14])), (h1, .inr (17, [v15, v16]))] sz)) 0 0 (va_A [(h0, .inr (16, [v0, v1, v2, v3, v4, v5, v6, v7, v8, v9, v10, v11, v12, v13, .int 0, v14])), (h1, .inr (17, [v15, v16]))] sz) := by
  refine va_MetW (cc := cL_house) (maxL := 4) (ret := (some .int)) (hh := [(0, 10, 13, 19)]) (by decide) rfl ?_
  intro p e s m args below meth c s₁ B hml hv
  obtain ⟨rfl, hsz, hP, hK, hD0, hF⟩ := hv
  have hx := B.exec
  have hb := B.bytes
  have hr := B.returns
  have hts := atoms_spec (ws := wbL_house) B.pre
  have hta : ∀ w ∈ wsALL, w.before _ s = true := fun w h => hts w (List.mem_cons_of_mem _ h)
  have hown : s.vm.findClass RL = some m.cls := findClass_of_methodNamed B.named
  have hlocks := B.notSynchronized
  have htab : c.exceptionTable.toList = [⟨0, 10, 13, 19⟩] := vx_table (x := yL_house) B (hts _ List.mem_cons_self)
  subst hsz
  have hD := hD0.self (sz := s.heap.size)
  generalize hAe : va_A [(h0, .inr (16, [v0, v1, v2, v3, v4, v5, v6, v7, v8, v9, v10, v11, v12, v13, .int 0, v14])), (h1, .inr (17, [v15, v16]))] s.heap.size = A at hD hF ⊢
  have hA : ∀ q : Nat, s.heap.size ≤ q → A q := fun q h => by rw [← hAe]; exact Or.inr h
  have hS : va_S A s.heap s.heap [] := va_S.rf
  have hP : va_P (dC, dI) vwCl [(h0, .inr (16, [v0, v1, v2, v3, v4, v5, v6, v7, v8, v9, v10, v11, v12, v13, .int 0, v14])), (h1, .inr (17, [v15, v16]))] s.heap := hP
  have hl := lv_entry ([.ref h0, .int 5, .ref h1]) (n := 4) (Nat.le_of_ble_eq_true rfl)
  rw [lg_entry_eq]
  generalize (lg_sl ([.ref h0, .int 5, .ref h1]) ++ List.replicate (4 - (lg_sl ([.ref h0, .int 5, .ref h1])).length) Slot.unset).toArray = ls at hl ⊢
  have hl : lv_has ls 4 [(0, .ref h0), (1, .int 5), (2, .ref h1)] := hl
  refine lv_aload_n hx hb dL_house_0 rfl (lv_at hl 2 rfl) ?_
  refine lv_aload_n hx hb dL_house_1 rfl (lv_at hl 0 rfl) ?_
  refine lv_iload_n hx hb dL_house_2 rfl (lv_at hl 1 rfl) ?_
  have hPc := hP.sub (ws' := [(h0, .inr (16, [v0, v1, v2, v3, v4, v5, v6, v7, v8, v9, v10, v11, v12, v13, .int 0, v14]))]) [0] rfl
  have hDc := hD.sub (ws' := [(h0, .inr (16, [v0, v1, v2, v3, v4, v5, v6, v7, v8, v9, v10, v11, v12, v13, .int 0, v14]))]) [0] (by decide) rfl
  have hKc := hK.sub (tys' := []) [] rfl
  have hFc := va_free (wc := [(h0, .inr (16, [v0, v1, v2, v3, v4, v5, v6, v7, v8, v9, v10, v11, v12, v13, .int 0, v14]))]) hD hS hA [0] rfl
  refine va_calli (va_runV (As := [.int 5]) (rest := [.ref h1]) ⟨hx, hb, hml, hown, hts⟩ (kX9_house_7 l dC dI g s.heap.size h0 v0 v1 v2 v3 v4 v5 v6 v7 v8 v9 v10 v11 v12 v13 v14 ) (cwV 1 hts (ns_gp (List.forall_mem_cons.mpr ⟨wm985, (List.forall_mem_cons.mpr ⟨wm986, (List.forall_mem_cons.mpr ⟨wm987, (List.forall_mem_cons.mpr ⟨wm2, (fun _ h9 => nomatch h9)⟩)⟩)⟩)⟩) wm984) rfl rfl rfl (by decide +kernel) ⟨Nat.le_of_ble_eq_true rfl, Nat.le_of_ble_eq_true rfl⟩) ⟨fun a U gg mk q => by obtain ⟨q0, q1, qP, qK, qD, qF⟩ := q; exact ⟨q0, q1, qP, va_K.moved (u := U) (U := U.calling gg mk a) (Vm.Alike.refl U.vm) qK, qD, ns_same qF⟩, va_recv hK hP (ci := 16) (q0 := 0) rfl rfl, fun U hU hW => ⟨rfl, by rw [hU], by rw [hU]; exact hPc, va_K.moved hW.alike hKc, hDc.weaken (fun _ _ _ _ => trivial), ns_call hF hS hFc hU hW⟩⟩ rfl rfl hl.1 rfl (lv_room (Nat.le_of_ble_eq_true rfl)) dL_house_3 ⟨Nat.le_of_ble_eq_true rfl, Nat.le_of_ble_eq_true rfl⟩) hS (fun q _ h => hFc q h) hFc (fun r9 u t H1 locs ht hvm hw hB hz1 hk1 hS => ?_)
  obtain rfl := hw.symm
  obtain ⟨hP1, hK1, hD1⟩ := hB
  rw [ht] at hP1
  have hK1 := va_K.moved hvm.symm hK1
  obtain ⟨hP, hD⟩ := va_join (wr := [(h1, .inr (17, [v15, v16]))]) (w1 := [(h0, .inr (16, [v0, v1, v2, v3, v4, v5, v6, v7, v8, v9, v10, v11, v12, v13, .int 0, v14]))]) hP hD [0] [1] rfl rfl (by decide) (by decide) hk1 hFc hP1 hD1
  have hK := (hK.sub (tys' := []) [] rfl).app hK1
  generalize H1 = H at hP hS ⊢
  have hP : va_P (dC, dI) vwCl [(h1, .inr (17, [v15, v16])), (h0, .inr (16, [v0, v1, v2, v3, v4, v5, v6, v7, v8, v9, v10, v11, v12, v13, .int 0, v14]))] H := hP
  have hD : va_D A [(h1, .inr (17, [v15, v16])), (h0, .inr (16, [v0, v1, v2, v3, v4, v5, v6, v7, v8, v9, v10, v11, v12, v13, .int 0, v14]))] := hD
  have hK : va_K (dC, dI) vwCl [] s := hK
  refine W.widen (k := 0) (n := 0) (Nat.le_of_ble_eq_true rfl) (Nat.le_of_ble_eq_true rfl) ?_
  refine lv_i2l (v := 0) hx hb dL_house_6 (by decide) ?_
  refine va_putN (D := (dC, dI)) (ci := 17) (v := .long 0) (ty := .long) (C := RX10) (T := TX10) (N := 2) hx hb hta naX10 tyX10 tyX10_ok nmX10 hown hK hP hD hS 0 rfl rfl 0 (by decide) (va_Nw.use rfl (ns_f7 hF)) (fun _ h9 => h9) rfl (by decide +kernel) rfl rfl (Nat.le_of_ble_eq_true rfl) dL_house_7 (fun H locs hP hD hS => ?_)
  have hP : va_P (dC, dI) vwCl [(h1, .inr (17, [.long 0, v16])), (h0, .inr (16, [v0, v1, v2, v3, v4, v5, v6, v7, v8, v9, v10, v11, v12, v13, .int 0, v14]))] H := hP
  have hD : va_D A [(h1, .inr (17, [.long 0, v16])), (h0, .inr (16, [v0, v1, v2, v3, v4, v5, v6, v7, v8, v9, v10, v11, v12, v13, .int 0, v14]))] := hD
  refine lv_goto (tgt := 16) hx hb dL_house_10 (by decide) ?_
  refine lv_iconst (v := 0) hx hb dL_house_16 (by decide) ?_
  have hP9 := hP.sub (ws' := [(h1, .inr (17, [.long 0, v16])), (h0, .inr (16, [v0, v1, v2, v3, v4, v5, v6, v7, v8, v9, v10, v11, v12, v13, .int 0, v14]))]) [0, 1] rfl
  have hD9 := hD.sub (ws' := [(h1, .inr (17, [.long 0, v16])), (h0, .inr (16, [v0, v1, v2, v3, v4, v5, v6, v7, v8, v9, v10, v11, v12, v13, .int 0, v14]))]) [0, 1] (by decide) rfl
  have hK9 := hK.sub (tys' := []) [] rfl
  refine W.widen (k := 0) (n := 0) (Nat.le_of_ble_eq_true rfl) (Nat.le_of_ble_eq_true rfl) ?_
  exact W.iret (v := 0) hx hb hr (fun t ht hW => ⟨⟨_, (), rfl, rfl, by rw [ht]; exact hP9, va_K.moved hW.alike hK9, hD9⟩, hS.F ht⟩) hS.2.2 dL_house_17
set_option maxHeartbeats 4000000 in
set_option maxRecDepth 100000 in
theorem kX16_codeLine_2 (l : Launch) (dC : Nat → ClassId) (dI : Nat → Nat → Nat) (g : Nat → Nat) (sz : Nat) (h0 : Nat) (x0 : Int32) (v0 : Value) (v1 : Value) (v2 : Value) (v3 : Value) (v4 : Value) (v5 : Value) (v6 : Value) (v7 : Value) (ex0 : (0 : Int) ≤ x0.toInt ∧ x0.toInt ≤ (2147483647 : Int)) : Met l yX16_codeLine wbX16_codeLine ({ frames := 2, cells := 0, slots := 0, locals := 44 }) (va_Pc [.ref h0, .int x0] (fun U => U.heap.size = sz ∧ va_P (dC, dI) vwCl [(h0, .inr (23, [v0, v1, v2, v3, v4, .null, v5, v6, v7]))] U.heap ∧ va_K (dC, dI) vwCl [] U ∧ va_D (fun _ => True) [(h0, .inr (23, [v0, v1, v2, v3, v4, .null, v5, v6, v7]))] ∧ ns_F g (va_A [(h0, .inr (23, [v0, v1, v2, v3, v4, .null, v5, v6, v7]))] sz) U U.heap)) (va_Qr (fun _ : Unit => True) (fun _ r t => r = (g 20) ∧ va_P (dC, dI) vwCl [(h0, .inr (23, [.int 0, v1, v2, v3, v4, .null, v5, v6, v7]))] t.heap ∧ va_K (dC, dI) vwCl [] t ∧ va_D (va_A [(h0, .inr (23, [v0, v1, v2, v3, v4, .null, v5, v6, v7]))] sz) [(h0, .inr (23, [.int 0, v1, v2, v3, v4, .null, v5, v6, v7]))]) (va_A [(h0, .inr (23, [v0, v1, v2, v3, v4, .null, v5, v6, v7]))] sz)) 0 0 (va_A [(h0, .inr (23, [v0, v1, v2, v3, v4, .null, v5, v6, v7]))] sz) := by
  refine Met.ofW (cc := cX16_codeLine) (maxL := 2) (ret := (some (.object "java/lang/String"))) (by decide) rfl ?_
  intro p e s m args below meth c s₁ B hml hv
  obtain ⟨rfl, hsz, hP, hK, hD0, hF⟩ := hv
  have hx := B.exec
  have hb := B.bytes
  have hr := B.returns
  have hts := atoms_spec (ws := wbX16_codeLine) B.pre
  have hta : ∀ w ∈ wsALL, w.before _ s = true := fun w h => hts w (List.mem_cons_of_mem _ h)
  have hown : s.vm.findClass RX16 = some m.cls := findClass_of_methodNamed B.named
  have hlocks := B.notSynchronized
  subst hsz
  have hD := hD0.self (sz := s.heap.size)
  generalize hAe : va_A [(h0, .inr (23, [v0, v1, v2, v3, v4, .null, v5, v6, v7]))] s.heap.size = A at hD hF ⊢
  have hA : ∀ q : Nat, s.heap.size ≤ q → A q := fun q h => by rw [← hAe]; exact Or.inr h
  have hS : va_S A s.heap s.heap [] := va_S.rf
  have hP : va_P (dC, dI) vwCl [(h0, .inr (23, [v0, v1, v2, v3, v4, .null, v5, v6, v7]))] s.heap := hP
  have hl := lv_entry ([.ref h0, .int x0]) (n := 2) (Nat.le_of_ble_eq_true rfl)
  rw [lg_entry_eq]
  generalize (lg_sl ([.ref h0, .int x0]) ++ List.replicate (2 - (lg_sl ([.ref h0, .int x0])).length) Slot.unset).toArray = ls at hl ⊢
  have hl : lv_has ls 2 [(0, .ref h0), (1, .int x0)] := hl
  refine lv_aload_n hx hb dX16_codeLine_0 rfl (lv_at hl 0 rfl) ?_
  refine lv_iload_n hx hb dX16_codeLine_1 rfl (lv_at hl 1 rfl) ?_
  refine lv_if_ge (tgt := 9) hx hb dX16_codeLine_2 (by decide) (fun c1 => ?_) (fun c1 => absurd (show (0 : Int32) ≤ x0 from Int32.le_iff_toInt_le.mpr (show (0 : Int) ≤ x0.toInt by omega)) c1)
  refine lv_iconst (v := 0) hx hb dX16_codeLine_9 (by decide) ?_
  refine lv_iconst (v := 1) hx hb dX16_codeLine_10 (by decide) ?_
  have hPc := hP.sub (ws' := [(h0, .inr (23, [v0, v1, v2, v3, v4, .null, v5, v6, v7]))]) [0] rfl
  have hDc := hD.sub (ws' := [(h0, .inr (23, [v0, v1, v2, v3, v4, .null, v5, v6, v7]))]) [0] (by decide) rfl
  have hKc := hK.sub (tys' := []) [] rfl
  have hFc := va_free (wc := [(h0, .inr (23, [v0, v1, v2, v3, v4, .null, v5, v6, v7]))]) hD hS hA [0] rfl
  refine va_calli (va_runV (As := [.int 0, .int 1]) (rest := []) ⟨hx, hb, hml, hown, hts⟩ (kX16_start_2 l dC dI g s.heap.size h0 v0 v1 v2 v3 v4 .null v5 v6 v7 ) (cwV 2 hts (ns_gp (List.forall_mem_cons.mpr ⟨wm242, (List.forall_mem_cons.mpr ⟨wm243, (List.forall_mem_cons.mpr ⟨wm244, (List.forall_mem_cons.mpr ⟨wm192, (fun _ h9 => nomatch h9)⟩)⟩)⟩)⟩) wm239) rfl rfl rfl (by decide +kernel) ⟨Nat.le_of_ble_eq_true rfl, Nat.le_of_ble_eq_true rfl⟩) ⟨fun a U gg mk q => by obtain ⟨q0, q1, qP, qK, qD, qF⟩ := q; exact ⟨q0, q1, qP, va_K.moved (u := U) (U := U.calling gg mk a) (Vm.Alike.refl U.vm) qK, qD, ns_same qF⟩, va_recv hK hP (ci := 23) (q0 := 0) rfl rfl, fun U hU hW => ⟨rfl, by rw [hU], by rw [hU]; exact hPc, va_K.moved hW.alike hKc, hDc.weaken (fun _ _ _ _ => trivial), ns_call hF hS hFc hU hW⟩⟩ rfl rfl hl.1 rfl (lv_room (Nat.le_of_ble_eq_true rfl)) dX16_codeLine_11 ⟨Nat.le_of_ble_eq_true rfl, Nat.le_of_ble_eq_true rfl⟩) hS (fun q _ h => hFc q h) hFc (fun r9 u t H1 locs ht hvm hw hB hz1 hk1 hS => ?_)
  obtain rfl := hw.symm
  obtain ⟨hP1, hK1, hD1⟩ := hB
  rw [ht] at hP1
  have hK1 := va_K.moved hvm.symm hK1
  obtain ⟨hP, hD⟩ := va_join (wr := []) (w1 := [(h0, .inr (23, [.int 0, v1, v2, v3, v4, .null, v5, v6, v7]))]) hP hD [0] [] rfl rfl (by decide) (by decide) hk1 hFc hP1 hD1
  have hK := (hK.sub (tys' := []) [] rfl).app hK1
  generalize H1 = H at hP hS ⊢
  have hP : va_P (dC, dI) vwCl [(h0, .inr (23, [.int 0, v1, v2, v3, v4, .null, v5, v6, v7]))] H := hP
  have hD : va_D A [(h0, .inr (23, [.int 0, v1, v2, v3, v4, .null, v5, v6, v7]))] := hD
  have hK : va_K (dC, dI) vwCl [] s := hK
  refine W.widen (k := 0) (n := 0) (Nat.le_of_ble_eq_true rfl) (Nat.le_of_ble_eq_true rfl) ?_
  refine lv_if_eq (tgt := 22) hx hb dX16_codeLine_14 (by decide) (fun c2 => ?_) (fun c2 => absurd (by decide) c2)
  refine lv_aload_n hx hb dX16_codeLine_22 rfl (lv_at hl 0 rfl) ?_
  refine va_get (D := (dC, dI)) (ci := 23) (v := .null) (C := RX16) (T := TX16) (N := 9) hx hb hta naX16 hown hK hP 0 rfl rfl 5 (by decide) (hta _ wm947) (fun _ h9 => h9) rfl dX16_codeLine_23 ?_
  refine lv_ifnonnullN hx hb dX16_codeLine_26 ?_
  refine ns_ldcSW hx hb hown (ns_f34 hF) dX16_codeLine_29 ?_
  refine lv_goto (tgt := 50) hx hb dX16_codeLine_32 (by decide) ?_
  have hP9 := hP.sub (ws' := [(h0, .inr (23, [.int 0, v1, v2, v3, v4, .null, v5, v6, v7]))]) [0] rfl
  have hD9 := hD.sub (ws' := [(h0, .inr (23, [.int 0, v1, v2, v3, v4, .null, v5, v6, v7]))]) [0] (by decide) rfl
  have hK9 := hK.sub (tys' := []) [] rfl
  refine W.widen (k := 0) (n := 0) (Nat.le_of_ble_eq_true rfl) (Nat.le_of_ble_eq_true rfl) ?_
  exact W.aret (v := .ref (g 20)) hx hb hr (by first | exact Or.inl ⟨_, rfl⟩ | exact Or.inr ⟨_, rfl⟩) (Or.inr ⟨_, rfl⟩) (fun t ht hW => ⟨⟨(), _, rfl, trivial, rfl, by rw [ht]; exact hP9, va_K.moved hW.alike hK9, hD9⟩, hS.F ht⟩) hS.2.2 dX16_codeLine_50
set_option maxHeartbeats 4000000 in
set_option maxRecDepth 100000 in
theorem kJ7_copyOfRange_39247_11 (l : Launch) (dC : Nat → ClassId) (dI : Nat → Nat → Nat) (g : Nat → Nat) (sz : Nat) (h0 : Nat) (cc0 : ClassId) (f0 : Nat → Int32) (hf0 : sb_Fit f0) : Met l yJ7_copyOfRange_39247 wbJ7_copyOfRange_39247 ({ frames := 2, cells := 1, slots := 2, locals := 64 }) (va_Pc [.ref h0, .int 0, .int 2] (fun U => U.heap.size = sz ∧ va_P (dC, dI) vwCl [(h0, .inl (cc0, 3, .inl f0))] U.heap ∧ va_K (dC, dI) vwCl [(cc0, .byte)] U ∧ va_D (fun _ => True) [(h0, .inl (cc0, 3, .inl f0))] ∧ ns_F g (va_A [(h0, .inl (cc0, 3, .inl f0))] sz) U U.heap)) (va_Qr (fun _ : Unit => True) (fun _ r t => ∃ k0 : Nat, ∃ kc1 : ClassId, r = k0 ∧ va_P (dC, dI) vwCl [(h0, .inl (cc0, 3, .inl f0)), (k0, .inl (kc1, 2, .inl (va_cpy (f0) (fun _ => 0) 0 0 2)))] t.heap ∧ va_K (dC, dI) vwCl [(cc0, .byte), (kc1, .byte)] t ∧ va_D (va_A [(h0, .inl (cc0, 3, .inl f0))] sz) [(h0, .inl (cc0, 3, .inl f0)), (k0, .inl (kc1, 2, .inl (va_cpy (f0) (fun _ => 0) 0 0 2)))]) (va_A [(h0, .inl (cc0, 3, .inl f0))] sz)) 1 2 (va_A [(h0, .inl (cc0, 3, .inl f0))] sz) := by
  refine Met.ofW (cc := cJ7_copyOfRange_39247) (maxL := 3) (ret := (some (.array .byte))) (by decide) rfl ?_
  intro p e s m args below meth c s₁ B hml hv
  obtain ⟨rfl, hsz, hP, hK, hD0, hF⟩ := hv
  have hx := B.exec
  have hb := B.bytes
  have hr := B.returns
  have hts := atoms_spec (ws := wbJ7_copyOfRange_39247) B.pre
  have hta : ∀ w ∈ wsALL, w.before _ s = true := fun w h => hts w (List.mem_cons_of_mem _ h)
  have hown : s.vm.findClass RJ7 = some m.cls := findClass_of_methodNamed B.named
  have hlocks := B.notSynchronized
  subst hsz
  have hD := hD0.self (sz := s.heap.size)
  generalize hAe : va_A [(h0, .inl (cc0, 3, .inl f0))] s.heap.size = A at hD hF ⊢
  have hA : ∀ q : Nat, s.heap.size ≤ q → A q := fun q h => by rw [← hAe]; exact Or.inr h
  have hS : va_S A s.heap s.heap [] := va_S.rf
  have hP : va_P (dC, dI) vwCl [(h0, .inl (cc0, 3, .inl f0))] s.heap := hP
  have hl := lv_entry ([.ref h0, .int 0, .int 2]) (n := 3) (Nat.le_of_ble_eq_true rfl)
  rw [lg_entry_eq]
  generalize (lg_sl ([.ref h0, .int 0, .int 2]) ++ List.replicate (3 - (lg_sl ([.ref h0, .int 0, .int 2])).length) Slot.unset).toArray = ls at hl ⊢
  have hl : lv_has ls 3 [(0, .ref h0), (1, .int 0), (2, .int 2)] := hl
  refine lv_iload_n hx hb dJ7_copyOfRange_39247_0 rfl (lv_at hl 1 rfl) ?_
  refine lv_if_ne (tgt := 10) hx hb dJ7_copyOfRange_39247_1 (by decide) (fun c1 => absurd (by decide) c1) (fun c1 => ?_)
  refine lv_iload_n hx hb dJ7_copyOfRange_39247_4 rfl (lv_at hl 2 rfl) ?_
  refine lv_aload_n hx hb dJ7_copyOfRange_39247_5 rfl (lv_at hl 0 rfl) ?_
  refine va_alen (v := 3) hx hb hK hP 0 0 rfl rfl (show Int32.ofNat 3 = 3 by decide) dJ7_copyOfRange_39247_6 ?_
  refine lv_icmp_eq (tgt := 17) hx hb dJ7_copyOfRange_39247_7 (by decide) (fun c2 => absurd c2 (by decide)) (fun c2 => ?_)
  refine lv_aload_n hx hb dJ7_copyOfRange_39247_10 rfl (lv_at hl 0 rfl) ?_
  refine lv_iload_n hx hb dJ7_copyOfRange_39247_11 rfl (lv_at hl 1 rfl) ?_
  refine lv_iload_n hx hb dJ7_copyOfRange_39247_12 rfl (lv_at hl 2 rfl) ?_
  have hPc := hP.sub (ws' := [(h0, .inl (cc0, 3, .inl f0))]) [0] rfl
  have hDc := hD.sub (ws' := [(h0, .inl (cc0, 3, .inl f0))]) [0] (by decide) rfl
  have hKc := hK.sub (tys' := [(cc0, .byte)]) [0] rfl
  have hFc := va_free (wc := [(h0, .inl (cc0, 3, .inl f0))]) hD hS hA [0] rfl
  refine va_callr (va_runS (As := [.ref h0, .int 0, .int 2]) (rest := []) ⟨hx, hb, hml, hown, hts⟩ (kJ7_copyOfRangeByte_39247_11 l dC dI g s.heap.size h0 cc0 f0 hf0 ) (va_cwS 3 hts (ns_gp (List.forall_mem_cons.mpr ⟨wm338, (List.forall_mem_cons.mpr ⟨wm339, (List.forall_mem_cons.mpr ⟨wm334, (fun _ h9 => nomatch h9)⟩)⟩)⟩) wm337) rfl rfl rfl (by decide +kernel) ⟨Nat.le_of_ble_eq_true rfl, Nat.le_of_ble_eq_true rfl⟩) ⟨fun a U gg mk q => by obtain ⟨q0, q1, qP, qK, qD, qF⟩ := q; exact ⟨q0, q1, qP, va_K.moved (u := U) (U := U.calling gg mk a) (Vm.Alike.refl U.vm) qK, qD, ns_same qF⟩, fun U hU hW => ⟨rfl, by rw [hU], by rw [hU]; exact hPc, va_K.moved hW.alike hKc, hDc.weaken (fun _ _ _ _ => trivial), ns_call hF hS hFc hU hW⟩⟩ rfl rfl hl.1 rfl (lv_room (Nat.le_of_ble_eq_true rfl)) dJ7_copyOfRange_39247_13 ⟨Nat.le_of_ble_eq_true rfl, Nat.le_of_ble_eq_true rfl⟩) hS (fun q _ h => hFc q h) hFc (fun u r9 t H1 locs ht hvm hw hB hz1 hk1 hS => ?_)
  obtain ⟨q3, cy4, hr9, hP1, hK1, hD1⟩ := hB
  obtain rfl := hr9.symm
  rw [ht] at hP1
  have hK1 := va_K.moved hvm.symm hK1
  obtain ⟨hP, hD⟩ := va_join (wr := []) (w1 := [(h0, .inl (cc0, 3, .inl f0)), (q3, .inl (cy4, 2, .inl (va_cpy (f0) (fun _ => 0) 0 0 2)))]) hP hD [0] [] rfl rfl (by decide) (by decide) hk1 hFc hP1 hD1
  have hK := (hK.sub (tys' := []) [] rfl).app hK1
  generalize H1 = H at hP hS ⊢
  have hP : va_P (dC, dI) vwCl [(h0, .inl (cc0, 3, .inl f0)), (q3, .inl (cy4, 2, .inl (va_cpy (f0) (fun _ => 0) 0 0 2)))] H := hP
  have hD : va_D A [(h0, .inl (cc0, 3, .inl f0)), (q3, .inl (cy4, 2, .inl (va_cpy (f0) (fun _ => 0) 0 0 2)))] := hD
  have hK : va_K (dC, dI) vwCl [(cc0, .byte), (cy4, .byte)] s := hK
  refine W.widen (k := 1) (n := 2) (Nat.le_of_ble_eq_true rfl) (Nat.le_of_ble_eq_true rfl) ?_
  have hP9 := hP.sub (ws' := [(h0, .inl (cc0, 3, .inl f0)), (q3, .inl (cy4, 2, .inl (va_cpy (f0) (fun _ => 0) 0 0 2)))]) [0, 1] rfl
  have hD9 := hD.sub (ws' := [(h0, .inl (cc0, 3, .inl f0)), (q3, .inl (cy4, 2, .inl (va_cpy (f0) (fun _ => 0) 0 0 2)))]) [0, 1] (by decide) rfl
  have hK9 := hK.sub (tys' := [(cc0, .byte), (cy4, .byte)]) [0, 1] rfl
  refine W.widen (k := 1) (n := 2) (Nat.le_of_ble_eq_true rfl) (Nat.le_of_ble_eq_true rfl) ?_
  exact W.aret (v := .ref q3) hx hb hr (by first | exact Or.inl ⟨_, rfl⟩ | exact Or.inr ⟨_, rfl⟩) (Or.inr ⟨_, rfl⟩) (fun t ht hW => ⟨⟨(), _, rfl, trivial, q3, cy4, rfl, by rw [ht]; exact hP9, va_K.moved hW.alike hK9, hD9⟩, hS.F ht⟩) hS.2.2 dJ7_copyOfRange_39247_16

set_option maxHeartbeats 4000000 in
set_option maxRecDepth 100000 in
theorem kX16_say_13 (l : Launch) (dC : Nat → ClassId) (dI : Nat → Nat → Nat) (g : Nat → Nat) (sz : Nat) (h0 : Nat) (x0 : Int32) (x1 : Int32) (x2 : Int32) (x3 : Int32) (x4 : Int32) (x5 : Int32) (v0 : Value) (v1 : Value) (v2 : Value) (v3 : Value) (v4 : Value) (v5 : Value) (v6 : Value) (v7 : Value) (v8 : Value) (ex0 : (22 : Int) ≤ x0.toInt ∧ x0.toInt ≤ (2147483647 : Int)) : Met l yX16_say wbX16_say ({ frames := 2, cells := 1, slots := 6, locals := 44 }) (va_Pc [.ref h0, .int x0, .int x1, .int x2, .int x3, .int x4, .int x5] (fun U => U.heap.size = sz ∧ va_P (dC, dI) vwCl [(h0, .inr (23, [v0, v1, v2, v3, v4, v5, v6, v7, v8]))] U.heap ∧ va_K (dC, dI) vwCl [] U ∧ va_D (fun _ => True) [(h0, .inr (23, [v0, v1, v2, v3, v4, v5, v6, v7, v8]))] ∧ ns_F g (va_A [(h0, .inr (23, [v0, v1, v2, v3, v4, v5, v6, v7, v8]))] sz) U U.heap)) (va_Qi (fun (r : Int32) (_ : Unit) => r = 0) (fun _ t => va_P (dC, dI) vwCl [(h0, .inr (23, [.int 1, v1, v2, v3, v4, v5, v6, v7, v8]))] t.heap ∧ va_K (dC, dI) vwCl [] t ∧ va_D (va_A [(h0, .inr (23, [v0, v1, v2, v3, v4, v5, v6, v7, v8]))] sz) [(h0, .inr (23, [.int 1, v1, v2, v3, v4, v5, v6, v7, v8]))]) (va_A [(h0, .inr (23, [v0, v1, v2, v3, v4, v5, v6, v7, v8]))] sz)) 1 6 (va_A [(h0, .inr (23, [v0, v1, v2, v3, v4, v5, v6, v7, v8]))] sz) := by
  refine Met.ofW (cc := cX16_say) (maxL := 14) (ret := (some .int)) (by decide) rfl ?_
  intro p e s m args below meth c s₁ B hml hv
  obtain ⟨rfl, hsz, hP, hK, hD0, hF⟩ := hv
  have hx := B.exec
  have hb := B.bytes
  have hr := B.returns
  have hts := atoms_spec (ws := wbX16_say) B.pre
  have hta : ∀ w ∈ wsALL, w.before _ s = true := fun w h => hts w (List.mem_cons_of_mem _ h)
  have hown : s.vm.findClass RX16 = some m.cls := findClass_of_methodNamed B.named
  have hlocks := B.notSynchronized
  subst hsz
  have hD := hD0.self (sz := s.heap.size)
  generalize hAe : va_A [(h0, .inr (23, [v0, v1, v2, v3, v4, v5, v6, v7, v8]))] s.heap.size = A at hD hF ⊢
  have hA : ∀ q : Nat, s.heap.size ≤ q → A q := fun q h => by rw [← hAe]; exact Or.inr h
  have hS : va_S A s.heap s.heap [] := va_S.rf
  have hP : va_P (dC, dI) vwCl [(h0, .inr (23, [v0, v1, v2, v3, v4, v5, v6, v7, v8]))] s.heap := hP
  have hl := lv_entry ([.ref h0, .int x0, .int x1, .int x2, .int x3, .int x4, .int x5]) (n := 14) (Nat.le_of_ble_eq_true rfl)
  rw [lg_entry_eq]
  generalize (lg_sl ([.ref h0, .int x0, .int x1, .int x2, .int x3, .int x4, .int x5]) ++ List.replicate (14 - (lg_sl ([.ref h0, .int x0, .int x1, .int x2, .int x3, .int x4, .int x5])).length) Slot.unset).toArray = ls at hl ⊢
  have hl : lv_has ls 14 [(0, .ref h0), (1, .int x0), (2, .int x1), (3, .int x2), (4, .int x3), (5, .int x4), (6, .int x5)] := hl
  refine lv_bipush (v := 6) hx hb dX16_say_0 (by decide) ?_
  refine va_newa (atype := .int) hx hb (hta _ wm15) rfl hK hP hD hS hA (N' := 6) (a0 := (6, .inl (fun _ => 0))) (fun _ => rfl) (by decide) (by decide) (Nat.le_of_ble_eq_true rfl) (Nat.le_of_ble_eq_true rfl) (Nat.le_of_ble_eq_true rfl) dX16_say_2 (fun q1 cyq1 H hK hP hD hS => ?_)
  have hP : va_P (dC, dI) vwCl [(h0, .inr (23, [v0, v1, v2, v3, v4, v5, v6, v7, v8])), (q1, .inl (cyq1, 6, .inl (fun _ => 0)))] H := hP
  have hD : va_D A [(h0, .inr (23, [v0, v1, v2, v3, v4, v5, v6, v7, v8])), (q1, .inl (cyq1, 6, .inl (fun _ => 0)))] := hD
  have hK : va_K (dC, dI) vwCl [(cyq1, .int)] s := hK
  refine W.widen (k := 1) (n := 6) (Nat.le_of_ble_eq_true rfl) (Nat.le_of_ble_eq_true rfl) ?_
  refine lv_dup hx hb dX16_say_4 rfl ?_
  refine lv_iconst (v := 0) hx hb dX16_say_5 (by decide) ?_
  refine lv_iload_n hx hb dX16_say_6 rfl (lv_at hl 1 rfl) ?_
  refine va_iast hx hb hK hP hD hS 1 0 rfl rfl (vp_in_nI (n := 0) (by decide) (by decide)) dX16_say_7 (fun H locs hP hD hS => ?_)
  have hP : va_P (dC, dI) vwCl [(h0, .inr (23, [v0, v1, v2, v3, v4, v5, v6, v7, v8])), (q1, .inl (cyq1, 6, .inl (upd (fun _ => 0) 0 x0)))] H := hP
  have hD : va_D A [(h0, .inr (23, [v0, v1, v2, v3, v4, v5, v6, v7, v8])), (q1, .inl (cyq1, 6, .inl (upd (fun _ => 0) 0 x0)))] := hD
  refine lv_dup hx hb dX16_say_8 rfl ?_
  refine lv_iconst (v := 1) hx hb dX16_say_9 (by decide) ?_
  refine lv_iload_n hx hb dX16_say_10 rfl (lv_at hl 2 rfl) ?_
  refine va_iast hx hb hK hP hD hS 1 0 rfl rfl (vp_in_nI (n := 1) (by decide) (by decide)) dX16_say_11 (fun H locs hP hD hS => ?_)
  have hP : va_P (dC, dI) vwCl [(h0, .inr (23, [v0, v1, v2, v3, v4, v5, v6, v7, v8])), (q1, .inl (cyq1, 6, .inl (upd (upd (fun _ => 0) 0 x0) 1 x1)))] H := hP
  have hD : va_D A [(h0, .inr (23, [v0, v1, v2, v3, v4, v5, v6, v7, v8])), (q1, .inl (cyq1, 6, .inl (upd (upd (fun _ => 0) 0 x0) 1 x1)))] := hD
  refine lv_dup hx hb dX16_say_12 rfl ?_
  refine lv_iconst (v := 2) hx hb dX16_say_13 (by decide) ?_
  refine lv_iload_n hx hb dX16_say_14 rfl (lv_at hl 3 rfl) ?_
  refine va_iast hx hb hK hP hD hS 1 0 rfl rfl (vp_in_nI (n := 2) (by decide) (by decide)) dX16_say_15 (fun H locs hP hD hS => ?_)
  have hP : va_P (dC, dI) vwCl [(h0, .inr (23, [v0, v1, v2, v3, v4, v5, v6, v7, v8])), (q1, .inl (cyq1, 6, .inl (upd (upd (upd (fun _ => 0) 0 x0) 1 x1) 2 x2)))] H := hP
  have hD : va_D A [(h0, .inr (23, [v0, v1, v2, v3, v4, v5, v6, v7, v8])), (q1, .inl (cyq1, 6, .inl (upd (upd (upd (fun _ => 0) 0 x0) 1 x1) 2 x2)))] := hD
  refine lv_dup hx hb dX16_say_16 rfl ?_
  refine lv_iconst (v := 3) hx hb dX16_say_17 (by decide) ?_
  refine lv_iload hx hb dX16_say_18 (lv_at hl 4 rfl) ?_
  refine va_iast hx hb hK hP hD hS 1 0 rfl rfl (vp_in_nI (n := 3) (by decide) (by decide)) dX16_say_20 (fun H locs hP hD hS => ?_)
  have hP : va_P (dC, dI) vwCl [(h0, .inr (23, [v0, v1, v2, v3, v4, v5, v6, v7, v8])), (q1, .inl (cyq1, 6, .inl (upd (upd (upd (upd (fun _ => 0) 0 x0) 1 x1) 2 x2) 3 x3)))] H := hP
  have hD : va_D A [(h0, .inr (23, [v0, v1, v2, v3, v4, v5, v6, v7, v8])), (q1, .inl (cyq1, 6, .inl (upd (upd (upd (upd (fun _ => 0) 0 x0) 1 x1) 2 x2) 3 x3)))] := hD
  refine lv_dup hx hb dX16_say_21 rfl ?_
  refine lv_iconst (v := 4) hx hb dX16_say_22 (by decide) ?_
  refine lv_iload hx hb dX16_say_23 (lv_at hl 5 rfl) ?_
  refine va_iast hx hb hK hP hD hS 1 0 rfl rfl (vp_in_nI (n := 4) (by decide) (by decide)) dX16_say_25 (fun H locs hP hD hS => ?_)
  have hP : va_P (dC, dI) vwCl [(h0, .inr (23, [v0, v1, v2, v3, v4, v5, v6, v7, v8])), (q1, .inl (cyq1, 6, .inl (upd (upd (upd (upd (upd (fun _ => 0) 0 x0) 1 x1) 2 x2) 3 x3) 4 x4)))] H := hP
  have hD : va_D A [(h0, .inr (23, [v0, v1, v2, v3, v4, v5, v6, v7, v8])), (q1, .inl (cyq1, 6, .inl (upd (upd (upd (upd (upd (fun _ => 0) 0 x0) 1 x1) 2 x2) 3 x3) 4 x4)))] := hD
  refine lv_dup hx hb dX16_say_26 rfl ?_
  refine lv_iconst (v := 5) hx hb dX16_say_27 (by decide) ?_
  refine lv_iload hx hb dX16_say_28 (lv_at hl 6 rfl) ?_
  refine va_iast hx hb hK hP hD hS 1 0 rfl rfl (vp_in_nI (n := 5) (by decide) (by decide)) dX16_say_30 (fun H locs hP hD hS => ?_)
  have hP : va_P (dC, dI) vwCl [(h0, .inr (23, [v0, v1, v2, v3, v4, v5, v6, v7, v8])), (q1, .inl (cyq1, 6, .inl (upd (upd (upd (upd (upd (upd (fun _ => 0) 0 x0) 1 x1) 2 x2) 3 x3) 4 x4) 5 x5)))] H := hP
  have hD : va_D A [(h0, .inr (23, [v0, v1, v2, v3, v4, v5, v6, v7, v8])), (q1, .inl (cyq1, 6, .inl (upd (upd (upd (upd (upd (upd (fun _ => 0) 0 x0) 1 x1) 2 x2) 3 x3) 4 x4) 5 x5)))] := hD
  refine lv_astore (lv' := [(7, .ref q1), (0, .ref h0), (1, .int x0), (2, .int x1), (3, .int x2), (4, .int x3), (5, .int x4), (6, .int x5)]) hx hb dX16_say_31 hl (by decide) rfl (fun ls hl => ?_)
  refine lv_iconst (v := 0) hx hb dX16_say_33 (by decide) ?_
  refine lv_istore (lv' := [(8, .int 0), (7, .ref q1), (0, .ref h0), (1, .int x0), (2, .int x1), (3, .int x2), (4, .int x3), (5, .int x4), (6, .int x5)]) hx hb dX16_say_34 hl (by decide) rfl (fun ls hl => ?_)
  refine lv_aload hx hb dX16_say_36 (lv_at hl 1 rfl) ?_
  refine lv_astore (lv' := [(9, .ref q1), (8, .int 0), (7, .ref q1), (0, .ref h0), (1, .int x0), (2, .int x1), (3, .int x2), (4, .int x3), (5, .int x4), (6, .int x5)]) hx hb dX16_say_38 hl (by decide) rfl (fun ls hl => ?_)
  refine lv_aload hx hb dX16_say_40 (lv_at hl 0 rfl) ?_
  refine va_alen (v := 6) hx hb hK hP 1 0 rfl rfl (show Int32.ofNat 6 = 6 by decide) dX16_say_42 ?_
  refine lv_istore (lv' := [(10, .int 6), (9, .ref q1), (8, .int 0), (7, .ref q1), (0, .ref h0), (1, .int x0), (2, .int x1), (3, .int x2), (4, .int x3), (5, .int x4), (6, .int x5)]) hx hb dX16_say_43 hl (by decide) rfl (fun ls hl => ?_)
  refine lv_iconst (v := 0) hx hb dX16_say_45 (by decide) ?_
  refine lv_istore (lv' := [(11, .int 0), (10, .int 6), (9, .ref q1), (8, .int 0), (7, .ref q1), (0, .ref h0), (1, .int x0), (2, .int x1), (3, .int x2), (4, .int x3), (5, .int x4), (6, .int x5)]) hx hb dX16_say_46 hl (by decide) rfl (fun ls hl => ?_)
  refine lv_iload hx hb dX16_say_48 (lv_at hl 0 rfl) ?_
  refine lv_iload hx hb dX16_say_50 (lv_at hl 1 rfl) ?_
  refine lv_icmp_ge (tgt := 89) hx hb dX16_say_52 (by decide) (fun c2 => absurd c2 (by decide)) (fun c2 => ?_)
  refine lv_aload hx hb dX16_say_55 (lv_at hl 2 rfl) ?_
  refine lv_iload hx hb dX16_say_57 (lv_at hl 0 rfl) ?_
  refine va_iald hx hb hK hP 1 0 rfl rfl (vp_in_nI (n := 0) (by decide) (by decide)) dX16_say_59 ?_
  refine lv_topi (fun y3 ey3 => ?_)
  obtain rfl : x0 = y3 := ey3.symm
  refine lv_istore (lv' := [(12, .int x0), (11, .int 0), (10, .int 6), (9, .ref q1), (8, .int 0), (7, .ref q1), (0, .ref h0), (1, .int x0), (2, .int x1), (3, .int x2), (4, .int x3), (5, .int x4), (6, .int x5)]) hx hb dX16_say_60 hl (by decide) rfl (fun ls hl => ?_)
  refine lv_iload hx hb dX16_say_62 (lv_at hl 4 rfl) ?_
  refine lv_iload hx hb dX16_say_64 (lv_at hl 0 rfl) ?_
  refine lv_iconst (v := (-1)) hx hb dX16_say_66 (by decide) ?_
  refine lv_bipush (v := 21) hx hb dX16_say_67 (by decide) ?_
  have hPc := hP.sub (ws' := []) [] rfl
  have hDc := hD.sub (ws' := []) [] (by decide) rfl
  have hKc := hK.sub (tys' := []) [] rfl
  have hFc := va_free (wc := []) hD hS hA [] rfl
  refine va_calli (va_runS (As := [.int x0, .int (-1), .int 21]) (rest := [.int 0]) ⟨hx, hb, hml, hown, hts⟩ (kX16_isIn_25 l dC dI g H.size x0 ⟨by omega, by omega⟩) (va_cwS 3 hts (ns_gp (List.forall_mem_cons.mpr ⟨wm240, (List.forall_mem_cons.mpr ⟨wm241, (List.forall_mem_cons.mpr ⟨wm192, (fun _ h9 => nomatch h9)⟩)⟩)⟩) wm233) rfl rfl rfl (by decide +kernel) ⟨Nat.le_of_ble_eq_true rfl, Nat.le_of_ble_eq_true rfl⟩) ⟨fun a U gg mk q => by obtain ⟨q0, q1, qP, qK, qD, qF⟩ := q; exact ⟨q0, q1, qP, va_K.moved (u := U) (U := U.calling gg mk a) (Vm.Alike.refl U.vm) qK, qD, ns_same qF⟩, fun U hU hW => ⟨rfl, by rw [hU], by rw [hU]; exact hPc, va_K.moved hW.alike hKc, hDc.weaken (fun _ _ _ _ => trivial), ns_call hF hS hFc hU hW⟩⟩ rfl rfl hl.1 rfl (lv_room (Nat.le_of_ble_eq_true rfl)) dX16_say_69 ⟨Nat.le_of_ble_eq_true rfl, Nat.le_of_ble_eq_true rfl⟩) hS (fun q _ h => hFc q h) hFc (fun r9 u t H1 locs ht hvm hw hB hz1 hk1 hS => ?_)
  obtain rfl := hw.symm
  obtain ⟨hP1, hK1, hD1⟩ := hB
  rw [ht] at hP1
  have hK1 := va_K.moved hvm.symm hK1
  obtain ⟨hP, hD⟩ := va_join (wr := [(h0, .inr (23, [v0, v1, v2, v3, v4, v5, v6, v7, v8])), (q1, .inl (cyq1, 6, .inl (upd (upd (upd (upd (upd (upd (fun _ => 0) 0 x0) 1 x1) 2 x2) 3 x3) 4 x4) 5 x5)))]) (w1 := []) hP hD [] [0, 1] rfl rfl (by decide) (by decide) hk1 hFc hP1 hD1
  have hK := (hK.sub (tys' := [(cyq1, .int)]) [0] rfl).app hK1
  generalize H1 = H at hP hS ⊢
  have hP : va_P (dC, dI) vwCl [(h0, .inr (23, [v0, v1, v2, v3, v4, v5, v6, v7, v8])), (q1, .inl (cyq1, 6, .inl (upd (upd (upd (upd (upd (upd (fun _ => 0) 0 x0) 1 x1) 2 x2) 3 x3) 4 x4) 5 x5)))] H := hP
  have hD : va_D A [(h0, .inr (23, [v0, v1, v2, v3, v4, v5, v6, v7, v8])), (q1, .inl (cyq1, 6, .inl (upd (upd (upd (upd (upd (upd (fun _ => 0) 0 x0) 1 x1) 2 x2) 3 x3) 4 x4) 5 x5)))] := hD
  have hK : va_K (dC, dI) vwCl [(cyq1, .int)] s := hK
  refine W.widen (k := 1) (n := 6) (Nat.le_of_ble_eq_true rfl) (Nat.le_of_ble_eq_true rfl) ?_
  refine lv_if_ne (tgt := 79) hx hb dX16_say_72 (by decide) (fun c4 => absurd (by decide) c4) (fun c4 => ?_)
  refine lv_iconst (v := 1) hx hb dX16_say_75 (by decide) ?_
  refine lv_goto (tgt := 80) hx hb dX16_say_76 (by decide) ?_
  refine lv_ior hx hb dX16_say_80 ?_
  refine lv_topi (fun y5 ey5 => ?_)
  obtain rfl : y5 = 1 := ey5.trans (by decide)
  refine lv_istore (lv' := [(8, .int 1), (12, .int x0), (11, .int 0), (10, .int 6), (9, .ref q1), (7, .ref q1), (0, .ref h0), (1, .int x0), (2, .int x1), (3, .int x2), (4, .int x3), (5, .int x4), (6, .int x5)]) hx hb dX16_say_81 hl (by decide) rfl (fun ls hl => ?_)
  refine lv_iinc (v := 1) (lv' := [(11, .int 1), (8, .int 1), (12, .int x0), (10, .int 6), (9, .ref q1), (7, .ref q1), (0, .ref h0), (1, .int x0), (2, .int x1), (3, .int x2), (4, .int x3), (5, .int x4), (6, .int x5)]) hx hb dX16_say_83 hl (k := 2) rfl (by decide) (by decide) rfl (fun ls hl => ?_)
  refine lv_goto (tgt := 48) hx hb dX16_say_86 (by decide) ?_
  refine lv_iload hx hb dX16_say_48 (lv_at hl 0 rfl) ?_
  refine lv_iload hx hb dX16_say_50 (lv_at hl 3 rfl) ?_
  refine lv_icmp_ge (tgt := 89) hx hb dX16_say_52 (by decide) (fun c6 => absurd c6 (by decide)) (fun c6 => ?_)
  refine lv_aload hx hb dX16_say_55 (lv_at hl 4 rfl) ?_
  refine lv_iload hx hb dX16_say_57 (lv_at hl 0 rfl) ?_
  refine va_iald hx hb hK hP 1 0 rfl rfl (vp_in_nI (n := 1) (by decide) (by decide)) dX16_say_59 ?_
  refine lv_topi (fun y7 ey7 => ?_)
  obtain rfl : x1 = y7 := ey7.symm
  refine lv_istore (lv' := [(12, .int x1), (11, .int 1), (8, .int 1), (10, .int 6), (9, .ref q1), (7, .ref q1), (0, .ref h0), (1, .int x0), (2, .int x1), (3, .int x2), (4, .int x3), (5, .int x4), (6, .int x5)]) hx hb dX16_say_60 hl (by decide) rfl (fun ls hl => ?_)
  refine lv_iload hx hb dX16_say_62 (lv_at hl 2 rfl) ?_
  refine lv_iload hx hb dX16_say_64 (lv_at hl 0 rfl) ?_
  refine lv_iconst (v := (-1)) hx hb dX16_say_66 (by decide) ?_
  refine lv_bipush (v := 21) hx hb dX16_say_67 (by decide) ?_
  have hPc := hP.sub (ws' := []) [] rfl
  have hDc := hD.sub (ws' := []) [] (by decide) rfl
  have hKc := hK.sub (tys' := []) [] rfl
  have hFc := va_free (wc := []) hD hS hA [] rfl
  refine va_calli (va_runS (As := [.int x1, .int (-1), .int 21]) (rest := [.int 1]) ⟨hx, hb, hml, hown, hts⟩ (kX16_isIn_23 l dC dI g H.size x1 ) (va_cwS 3 hts (ns_gp (List.forall_mem_cons.mpr ⟨wm240, (List.forall_mem_cons.mpr ⟨wm241, (List.forall_mem_cons.mpr ⟨wm192, (fun _ h9 => nomatch h9)⟩)⟩)⟩) wm233) rfl rfl rfl (by decide +kernel) ⟨Nat.le_of_ble_eq_true rfl, Nat.le_of_ble_eq_true rfl⟩) ⟨fun a U gg mk q => by obtain ⟨q0, q1, qP, qK, qD, qF⟩ := q; exact ⟨q0, q1, qP, va_K.moved (u := U) (U := U.calling gg mk a) (Vm.Alike.refl U.vm) qK, qD, ns_same qF⟩, fun U hU hW => ⟨rfl, by rw [hU], by rw [hU]; exact hPc, va_K.moved hW.alike hKc, hDc.weaken (fun _ _ _ _ => trivial), ns_call hF hS hFc hU hW⟩⟩ rfl rfl hl.1 rfl (lv_room (Nat.le_of_ble_eq_true rfl)) dX16_say_69 ⟨Nat.le_of_ble_eq_true rfl, Nat.le_of_ble_eq_true rfl⟩) hS (fun q _ h => hFc q h) hFc (fun r9 u t H1 locs ht hvm hw hB hz1 hk1 hS => ?_)
  obtain rfl := hw.symm
  obtain ⟨hP1, hK1, hD1⟩ := hB
  rw [ht] at hP1
  have hK1 := va_K.moved hvm.symm hK1
  obtain ⟨hP, hD⟩ := va_join (wr := [(h0, .inr (23, [v0, v1, v2, v3, v4, v5, v6, v7, v8])), (q1, .inl (cyq1, 6, .inl (upd (upd (upd (upd (upd (upd (fun _ => 0) 0 x0) 1 x1) 2 x2) 3 x3) 4 x4) 5 x5)))]) (w1 := []) hP hD [] [0, 1] rfl rfl (by decide) (by decide) hk1 hFc hP1 hD1
  have hK := (hK.sub (tys' := [(cyq1, .int)]) [0] rfl).app hK1
  generalize H1 = H at hP hS ⊢
  have hP : va_P (dC, dI) vwCl [(h0, .inr (23, [v0, v1, v2, v3, v4, v5, v6, v7, v8])), (q1, .inl (cyq1, 6, .inl (upd (upd (upd (upd (upd (upd (fun _ => 0) 0 x0) 1 x1) 2 x2) 3 x3) 4 x4) 5 x5)))] H := hP
  have hD : va_D A [(h0, .inr (23, [v0, v1, v2, v3, v4, v5, v6, v7, v8])), (q1, .inl (cyq1, 6, .inl (upd (upd (upd (upd (upd (upd (fun _ => 0) 0 x0) 1 x1) 2 x2) 3 x3) 4 x4) 5 x5)))] := hD
  have hK : va_K (dC, dI) vwCl [(cyq1, .int)] s := hK
  refine W.widen (k := 1) (n := 6) (Nat.le_of_ble_eq_true rfl) (Nat.le_of_ble_eq_true rfl) ?_
  have r8 := ns_in_rng x1 (-1) 21
  refine ns_bool hx hb dX16_say_72 dX16_say_75 dX16_say_76 dX16_say_79 ?_
  have r9 := ns_not_rng (ns_in x1 (-1) 21)
  refine lv_ior hx hb dX16_say_80 ?_
  refine lv_topi (fun y10 ey10 => ?_)
  obtain rfl : y10 = 1 := ey10.trans (ns_or1 (by omega) (by omega))
  refine lv_istore (lv' := [(8, .int 1), (12, .int x1), (11, .int 1), (10, .int 6), (9, .ref q1), (7, .ref q1), (0, .ref h0), (1, .int x0), (2, .int x1), (3, .int x2), (4, .int x3), (5, .int x4), (6, .int x5)]) hx hb dX16_say_81 hl (by decide) rfl (fun ls hl => ?_)
  refine lv_iinc (v := 2) (lv' := [(11, .int 2), (8, .int 1), (12, .int x1), (10, .int 6), (9, .ref q1), (7, .ref q1), (0, .ref h0), (1, .int x0), (2, .int x1), (3, .int x2), (4, .int x3), (5, .int x4), (6, .int x5)]) hx hb dX16_say_83 hl (k := 2) rfl (by decide) (by decide) rfl (fun ls hl => ?_)
  refine lv_goto (tgt := 48) hx hb dX16_say_86 (by decide) ?_
  refine lv_iload hx hb dX16_say_48 (lv_at hl 0 rfl) ?_
  refine lv_iload hx hb dX16_say_50 (lv_at hl 3 rfl) ?_
  refine lv_icmp_ge (tgt := 89) hx hb dX16_say_52 (by decide) (fun c11 => absurd c11 (by decide)) (fun c11 => ?_)
  refine lv_aload hx hb dX16_say_55 (lv_at hl 4 rfl) ?_
  refine lv_iload hx hb dX16_say_57 (lv_at hl 0 rfl) ?_
  refine va_iald hx hb hK hP 1 0 rfl rfl (vp_in_nI (n := 2) (by decide) (by decide)) dX16_say_59 ?_
  refine lv_topi (fun y12 ey12 => ?_)
  obtain rfl : x2 = y12 := ey12.symm
  refine lv_istore (lv' := [(12, .int x2), (11, .int 2), (8, .int 1), (10, .int 6), (9, .ref q1), (7, .ref q1), (0, .ref h0), (1, .int x0), (2, .int x1), (3, .int x2), (4, .int x3), (5, .int x4), (6, .int x5)]) hx hb dX16_say_60 hl (by decide) rfl (fun ls hl => ?_)
  refine lv_iload hx hb dX16_say_62 (lv_at hl 2 rfl) ?_
  refine lv_iload hx hb dX16_say_64 (lv_at hl 0 rfl) ?_
  refine lv_iconst (v := (-1)) hx hb dX16_say_66 (by decide) ?_
  refine lv_bipush (v := 21) hx hb dX16_say_67 (by decide) ?_
  have hPc := hP.sub (ws' := []) [] rfl
  have hDc := hD.sub (ws' := []) [] (by decide) rfl
  have hKc := hK.sub (tys' := []) [] rfl
  have hFc := va_free (wc := []) hD hS hA [] rfl
  refine va_calli (va_runS (As := [.int x2, .int (-1), .int 21]) (rest := [.int 1]) ⟨hx, hb, hml, hown, hts⟩ (kX16_isIn_23 l dC dI g H.size x2 ) (va_cwS 3 hts (ns_gp (List.forall_mem_cons.mpr ⟨wm240, (List.forall_mem_cons.mpr ⟨wm241, (List.forall_mem_cons.mpr ⟨wm192, (fun _ h9 => nomatch h9)⟩)⟩)⟩) wm233) rfl rfl rfl (by decide +kernel) ⟨Nat.le_of_ble_eq_true rfl, Nat.le_of_ble_eq_true rfl⟩) ⟨fun a U gg mk q => by obtain ⟨q0, q1, qP, qK, qD, qF⟩ := q; exact ⟨q0, q1, qP, va_K.moved (u := U) (U := U.calling gg mk a) (Vm.Alike.refl U.vm) qK, qD, ns_same qF⟩, fun U hU hW => ⟨rfl, by rw [hU], by rw [hU]; exact hPc, va_K.moved hW.alike hKc, hDc.weaken (fun _ _ _ _ => trivial), ns_call hF hS hFc hU hW⟩⟩ rfl rfl hl.1 rfl (lv_room (Nat.le_of_ble_eq_true rfl)) dX16_say_69 ⟨Nat.le_of_ble_eq_true rfl, Nat.le_of_ble_eq_true rfl⟩) hS (fun q _ h => hFc q h) hFc (fun r9 u t H1 locs ht hvm hw hB hz1 hk1 hS => ?_)
  obtain rfl := hw.symm
  obtain ⟨hP1, hK1, hD1⟩ := hB
  rw [ht] at hP1
  have hK1 := va_K.moved hvm.symm hK1
  obtain ⟨hP, hD⟩ := va_join (wr := [(h0, .inr (23, [v0, v1, v2, v3, v4, v5, v6, v7, v8])), (q1, .inl (cyq1, 6, .inl (upd (upd (upd (upd (upd (upd (fun _ => 0) 0 x0) 1 x1) 2 x2) 3 x3) 4 x4) 5 x5)))]) (w1 := []) hP hD [] [0, 1] rfl rfl (by decide) (by decide) hk1 hFc hP1 hD1
  have hK := (hK.sub (tys' := [(cyq1, .int)]) [0] rfl).app hK1
  generalize H1 = H at hP hS ⊢
  have hP : va_P (dC, dI) vwCl [(h0, .inr (23, [v0, v1, v2, v3, v4, v5, v6, v7, v8])), (q1, .inl (cyq1, 6, .inl (upd (upd (upd (upd (upd (upd (fun _ => 0) 0 x0) 1 x1) 2 x2) 3 x3) 4 x4) 5 x5)))] H := hP
  have hD : va_D A [(h0, .inr (23, [v0, v1, v2, v3, v4, v5, v6, v7, v8])), (q1, .inl (cyq1, 6, .inl (upd (upd (upd (upd (upd (upd (fun _ => 0) 0 x0) 1 x1) 2 x2) 3 x3) 4 x4) 5 x5)))] := hD
  have hK : va_K (dC, dI) vwCl [(cyq1, .int)] s := hK
  refine W.widen (k := 1) (n := 6) (Nat.le_of_ble_eq_true rfl) (Nat.le_of_ble_eq_true rfl) ?_
  have r13 := ns_in_rng x2 (-1) 21
  refine ns_bool hx hb dX16_say_72 dX16_say_75 dX16_say_76 dX16_say_79 ?_
  have r14 := ns_not_rng (ns_in x2 (-1) 21)
  refine lv_ior hx hb dX16_say_80 ?_
  refine lv_topi (fun y15 ey15 => ?_)
  obtain rfl : y15 = 1 := ey15.trans (ns_or1 (by omega) (by omega))
  refine lv_istore (lv' := [(8, .int 1), (12, .int x2), (11, .int 2), (10, .int 6), (9, .ref q1), (7, .ref q1), (0, .ref h0), (1, .int x0), (2, .int x1), (3, .int x2), (4, .int x3), (5, .int x4), (6, .int x5)]) hx hb dX16_say_81 hl (by decide) rfl (fun ls hl => ?_)
  refine lv_iinc (v := 3) (lv' := [(11, .int 3), (8, .int 1), (12, .int x2), (10, .int 6), (9, .ref q1), (7, .ref q1), (0, .ref h0), (1, .int x0), (2, .int x1), (3, .int x2), (4, .int x3), (5, .int x4), (6, .int x5)]) hx hb dX16_say_83 hl (k := 2) rfl (by decide) (by decide) rfl (fun ls hl => ?_)
  refine lv_goto (tgt := 48) hx hb dX16_say_86 (by decide) ?_
  refine lv_iload hx hb dX16_say_48 (lv_at hl 0 rfl) ?_
  refine lv_iload hx hb dX16_say_50 (lv_at hl 3 rfl) ?_
  refine lv_icmp_ge (tgt := 89) hx hb dX16_say_52 (by decide) (fun c16 => absurd c16 (by decide)) (fun c16 => ?_)
  refine lv_aload hx hb dX16_say_55 (lv_at hl 4 rfl) ?_
  refine lv_iload hx hb dX16_say_57 (lv_at hl 0 rfl) ?_
  refine va_iald hx hb hK hP 1 0 rfl rfl (vp_in_nI (n := 3) (by decide) (by decide)) dX16_say_59 ?_
  refine lv_topi (fun y17 ey17 => ?_)
  obtain rfl : x3 = y17 := ey17.symm
  refine lv_istore (lv' := [(12, .int x3), (11, .int 3), (8, .int 1), (10, .int 6), (9, .ref q1), (7, .ref q1), (0, .ref h0), (1, .int x0), (2, .int x1), (3, .int x2), (4, .int x3), (5, .int x4), (6, .int x5)]) hx hb dX16_say_60 hl (by decide) rfl (fun ls hl => ?_)
  refine lv_iload hx hb dX16_say_62 (lv_at hl 2 rfl) ?_
  refine lv_iload hx hb dX16_say_64 (lv_at hl 0 rfl) ?_
  refine lv_iconst (v := (-1)) hx hb dX16_say_66 (by decide) ?_
  refine lv_bipush (v := 21) hx hb dX16_say_67 (by decide) ?_
  have hPc := hP.sub (ws' := []) [] rfl
  have hDc := hD.sub (ws' := []) [] (by decide) rfl
  have hKc := hK.sub (tys' := []) [] rfl
  have hFc := va_free (wc := []) hD hS hA [] rfl
  refine va_calli (va_runS (As := [.int x3, .int (-1), .int 21]) (rest := [.int 1]) ⟨hx, hb, hml, hown, hts⟩ (kX16_isIn_23 l dC dI g H.size x3 ) (va_cwS 3 hts (ns_gp (List.forall_mem_cons.mpr ⟨wm240, (List.forall_mem_cons.mpr ⟨wm241, (List.forall_mem_cons.mpr ⟨wm192, (fun _ h9 => nomatch h9)⟩)⟩)⟩) wm233) rfl rfl rfl (by decide +kernel) ⟨Nat.le_of_ble_eq_true rfl, Nat.le_of_ble_eq_true rfl⟩) ⟨fun a U gg mk q => by obtain ⟨q0, q1, qP, qK, qD, qF⟩ := q; exact ⟨q0, q1, qP, va_K.moved (u := U) (U := U.calling gg mk a) (Vm.Alike.refl U.vm) qK, qD, ns_same qF⟩, fun U hU hW => ⟨rfl, by rw [hU], by rw [hU]; exact hPc, va_K.moved hW.alike hKc, hDc.weaken (fun _ _ _ _ => trivial), ns_call hF hS hFc hU hW⟩⟩ rfl rfl hl.1 rfl (lv_room (Nat.le_of_ble_eq_true rfl)) dX16_say_69 ⟨Nat.le_of_ble_eq_true rfl, Nat.le_of_ble_eq_true rfl⟩) hS (fun q _ h => hFc q h) hFc (fun r9 u t H1 locs ht hvm hw hB hz1 hk1 hS => ?_)
  obtain rfl := hw.symm
  obtain ⟨hP1, hK1, hD1⟩ := hB
  rw [ht] at hP1
  have hK1 := va_K.moved hvm.symm hK1
  obtain ⟨hP, hD⟩ := va_join (wr := [(h0, .inr (23, [v0, v1, v2, v3, v4, v5, v6, v7, v8])), (q1, .inl (cyq1, 6, .inl (upd (upd (upd (upd (upd (upd (fun _ => 0) 0 x0) 1 x1) 2 x2) 3 x3) 4 x4) 5 x5)))]) (w1 := []) hP hD [] [0, 1] rfl rfl (by decide) (by decide) hk1 hFc hP1 hD1
  have hK := (hK.sub (tys' := [(cyq1, .int)]) [0] rfl).app hK1
  generalize H1 = H at hP hS ⊢
  have hP : va_P (dC, dI) vwCl [(h0, .inr (23, [v0, v1, v2, v3, v4, v5, v6, v7, v8])), (q1, .inl (cyq1, 6, .inl (upd (upd (upd (upd (upd (upd (fun _ => 0) 0 x0) 1 x1) 2 x2) 3 x3) 4 x4) 5 x5)))] H := hP
  have hD : va_D A [(h0, .inr (23, [v0, v1, v2, v3, v4, v5, v6, v7, v8])), (q1, .inl (cyq1, 6, .inl (upd (upd (upd (upd (upd (upd (fun _ => 0) 0 x0) 1 x1) 2 x2) 3 x3) 4 x4) 5 x5)))] := hD
  have hK : va_K (dC, dI) vwCl [(cyq1, .int)] s := hK
  refine W.widen (k := 1) (n := 6) (Nat.le_of_ble_eq_true rfl) (Nat.le_of_ble_eq_true rfl) ?_
  have r18 := ns_in_rng x3 (-1) 21
  refine ns_bool hx hb dX16_say_72 dX16_say_75 dX16_say_76 dX16_say_79 ?_
  have r19 := ns_not_rng (ns_in x3 (-1) 21)
  refine lv_ior hx hb dX16_say_80 ?_
  refine lv_topi (fun y20 ey20 => ?_)
  obtain rfl : y20 = 1 := ey20.trans (ns_or1 (by omega) (by omega))
  refine lv_istore (lv' := [(8, .int 1), (12, .int x3), (11, .int 3), (10, .int 6), (9, .ref q1), (7, .ref q1), (0, .ref h0), (1, .int x0), (2, .int x1), (3, .int x2), (4, .int x3), (5, .int x4), (6, .int x5)]) hx hb dX16_say_81 hl (by decide) rfl (fun ls hl => ?_)
  refine lv_iinc (v := 4) (lv' := [(11, .int 4), (8, .int 1), (12, .int x3), (10, .int 6), (9, .ref q1), (7, .ref q1), (0, .ref h0), (1, .int x0), (2, .int x1), (3, .int x2), (4, .int x3), (5, .int x4), (6, .int x5)]) hx hb dX16_say_83 hl (k := 2) rfl (by decide) (by decide) rfl (fun ls hl => ?_)
  refine lv_goto (tgt := 48) hx hb dX16_say_86 (by decide) ?_
  refine lv_iload hx hb dX16_say_48 (lv_at hl 0 rfl) ?_
  refine lv_iload hx hb dX16_say_50 (lv_at hl 3 rfl) ?_
  refine lv_icmp_ge (tgt := 89) hx hb dX16_say_52 (by decide) (fun c21 => absurd c21 (by decide)) (fun c21 => ?_)
  refine lv_aload hx hb dX16_say_55 (lv_at hl 4 rfl) ?_
  refine lv_iload hx hb dX16_say_57 (lv_at hl 0 rfl) ?_
  refine va_iald hx hb hK hP 1 0 rfl rfl (vp_in_nI (n := 4) (by decide) (by decide)) dX16_say_59 ?_
  refine lv_topi (fun y22 ey22 => ?_)
  obtain rfl : x4 = y22 := ey22.symm
  refine lv_istore (lv' := [(12, .int x4), (11, .int 4), (8, .int 1), (10, .int 6), (9, .ref q1), (7, .ref q1), (0, .ref h0), (1, .int x0), (2, .int x1), (3, .int x2), (4, .int x3), (5, .int x4), (6, .int x5)]) hx hb dX16_say_60 hl (by decide) rfl (fun ls hl => ?_)
  refine lv_iload hx hb dX16_say_62 (lv_at hl 2 rfl) ?_
  refine lv_iload hx hb dX16_say_64 (lv_at hl 0 rfl) ?_
  refine lv_iconst (v := (-1)) hx hb dX16_say_66 (by decide) ?_
  refine lv_bipush (v := 21) hx hb dX16_say_67 (by decide) ?_
  have hPc := hP.sub (ws' := []) [] rfl
  have hDc := hD.sub (ws' := []) [] (by decide) rfl
  have hKc := hK.sub (tys' := []) [] rfl
  have hFc := va_free (wc := []) hD hS hA [] rfl
  refine va_calli (va_runS (As := [.int x4, .int (-1), .int 21]) (rest := [.int 1]) ⟨hx, hb, hml, hown, hts⟩ (kX16_isIn_23 l dC dI g H.size x4 ) (va_cwS 3 hts (ns_gp (List.forall_mem_cons.mpr ⟨wm240, (List.forall_mem_cons.mpr ⟨wm241, (List.forall_mem_cons.mpr ⟨wm192, (fun _ h9 => nomatch h9)⟩)⟩)⟩) wm233) rfl rfl rfl (by decide +kernel) ⟨Nat.le_of_ble_eq_true rfl, Nat.le_of_ble_eq_true rfl⟩) ⟨fun a U gg mk q => by obtain ⟨q0, q1, qP, qK, qD, qF⟩ := q; exact ⟨q0, q1, qP, va_K.moved (u := U) (U := U.calling gg mk a) (Vm.Alike.refl U.vm) qK, qD, ns_same qF⟩, fun U hU hW => ⟨rfl, by rw [hU], by rw [hU]; exact hPc, va_K.moved hW.alike hKc, hDc.weaken (fun _ _ _ _ => trivial), ns_call hF hS hFc hU hW⟩⟩ rfl rfl hl.1 rfl (lv_room (Nat.le_of_ble_eq_true rfl)) dX16_say_69 ⟨Nat.le_of_ble_eq_true rfl, Nat.le_of_ble_eq_true rfl⟩) hS (fun q _ h => hFc q h) hFc (fun r9 u t H1 locs ht hvm hw hB hz1 hk1 hS => ?_)
  obtain rfl := hw.symm
  obtain ⟨hP1, hK1, hD1⟩ := hB
  rw [ht] at hP1
  have hK1 := va_K.moved hvm.symm hK1
  obtain ⟨hP, hD⟩ := va_join (wr := [(h0, .inr (23, [v0, v1, v2, v3, v4, v5, v6, v7, v8])), (q1, .inl (cyq1, 6, .inl (upd (upd (upd (upd (upd (upd (fun _ => 0) 0 x0) 1 x1) 2 x2) 3 x3) 4 x4) 5 x5)))]) (w1 := []) hP hD [] [0, 1] rfl rfl (by decide) (by decide) hk1 hFc hP1 hD1
  have hK := (hK.sub (tys' := [(cyq1, .int)]) [0] rfl).app hK1
  generalize H1 = H at hP hS ⊢
  have hP : va_P (dC, dI) vwCl [(h0, .inr (23, [v0, v1, v2, v3, v4, v5, v6, v7, v8])), (q1, .inl (cyq1, 6, .inl (upd (upd (upd (upd (upd (upd (fun _ => 0) 0 x0) 1 x1) 2 x2) 3 x3) 4 x4) 5 x5)))] H := hP
  have hD : va_D A [(h0, .inr (23, [v0, v1, v2, v3, v4, v5, v6, v7, v8])), (q1, .inl (cyq1, 6, .inl (upd (upd (upd (upd (upd (upd (fun _ => 0) 0 x0) 1 x1) 2 x2) 3 x3) 4 x4) 5 x5)))] := hD
  have hK : va_K (dC, dI) vwCl [(cyq1, .int)] s := hK
  refine W.widen (k := 1) (n := 6) (Nat.le_of_ble_eq_true rfl) (Nat.le_of_ble_eq_true rfl) ?_
  have r23 := ns_in_rng x4 (-1) 21
  refine ns_bool hx hb dX16_say_72 dX16_say_75 dX16_say_76 dX16_say_79 ?_
  have r24 := ns_not_rng (ns_in x4 (-1) 21)
  refine lv_ior hx hb dX16_say_80 ?_
  refine lv_topi (fun y25 ey25 => ?_)
  obtain rfl : y25 = 1 := ey25.trans (ns_or1 (by omega) (by omega))
  refine lv_istore (lv' := [(8, .int 1), (12, .int x4), (11, .int 4), (10, .int 6), (9, .ref q1), (7, .ref q1), (0, .ref h0), (1, .int x0), (2, .int x1), (3, .int x2), (4, .int x3), (5, .int x4), (6, .int x5)]) hx hb dX16_say_81 hl (by decide) rfl (fun ls hl => ?_)
  refine lv_iinc (v := 5) (lv' := [(11, .int 5), (8, .int 1), (12, .int x4), (10, .int 6), (9, .ref q1), (7, .ref q1), (0, .ref h0), (1, .int x0), (2, .int x1), (3, .int x2), (4, .int x3), (5, .int x4), (6, .int x5)]) hx hb dX16_say_83 hl (k := 2) rfl (by decide) (by decide) rfl (fun ls hl => ?_)
  refine lv_goto (tgt := 48) hx hb dX16_say_86 (by decide) ?_
  refine lv_iload hx hb dX16_say_48 (lv_at hl 0 rfl) ?_
  refine lv_iload hx hb dX16_say_50 (lv_at hl 3 rfl) ?_
  refine lv_icmp_ge (tgt := 89) hx hb dX16_say_52 (by decide) (fun c26 => absurd c26 (by decide)) (fun c26 => ?_)
  refine lv_aload hx hb dX16_say_55 (lv_at hl 4 rfl) ?_
  refine lv_iload hx hb dX16_say_57 (lv_at hl 0 rfl) ?_
  refine va_iald hx hb hK hP 1 0 rfl rfl (vp_in_nI (n := 5) (by decide) (by decide)) dX16_say_59 ?_
  refine lv_topi (fun y27 ey27 => ?_)
  obtain rfl : x5 = y27 := ey27.symm
  refine lv_istore (lv' := [(12, .int x5), (11, .int 5), (8, .int 1), (10, .int 6), (9, .ref q1), (7, .ref q1), (0, .ref h0), (1, .int x0), (2, .int x1), (3, .int x2), (4, .int x3), (5, .int x4), (6, .int x5)]) hx hb dX16_say_60 hl (by decide) rfl (fun ls hl => ?_)
  refine lv_iload hx hb dX16_say_62 (lv_at hl 2 rfl) ?_
  refine lv_iload hx hb dX16_say_64 (lv_at hl 0 rfl) ?_
  refine lv_iconst (v := (-1)) hx hb dX16_say_66 (by decide) ?_
  refine lv_bipush (v := 21) hx hb dX16_say_67 (by decide) ?_
  have hPc := hP.sub (ws' := []) [] rfl
  have hDc := hD.sub (ws' := []) [] (by decide) rfl
  have hKc := hK.sub (tys' := []) [] rfl
  have hFc := va_free (wc := []) hD hS hA [] rfl
  refine va_calli (va_runS (As := [.int x5, .int (-1), .int 21]) (rest := [.int 1]) ⟨hx, hb, hml, hown, hts⟩ (kX16_isIn_23 l dC dI g H.size x5 ) (va_cwS 3 hts (ns_gp (List.forall_mem_cons.mpr ⟨wm240, (List.forall_mem_cons.mpr ⟨wm241, (List.forall_mem_cons.mpr ⟨wm192, (fun _ h9 => nomatch h9)⟩)⟩)⟩) wm233) rfl rfl rfl (by decide +kernel) ⟨Nat.le_of_ble_eq_true rfl, Nat.le_of_ble_eq_true rfl⟩) ⟨fun a U gg mk q => by obtain ⟨q0, q1, qP, qK, qD, qF⟩ := q; exact ⟨q0, q1, qP, va_K.moved (u := U) (U := U.calling gg mk a) (Vm.Alike.refl U.vm) qK, qD, ns_same qF⟩, fun U hU hW => ⟨rfl, by rw [hU], by rw [hU]; exact hPc, va_K.moved hW.alike hKc, hDc.weaken (fun _ _ _ _ => trivial), ns_call hF hS hFc hU hW⟩⟩ rfl rfl hl.1 rfl (lv_room (Nat.le_of_ble_eq_true rfl)) dX16_say_69 ⟨Nat.le_of_ble_eq_true rfl, Nat.le_of_ble_eq_true rfl⟩) hS (fun q _ h => hFc q h) hFc (fun r9 u t H1 locs ht hvm hw hB hz1 hk1 hS => ?_)
  obtain rfl := hw.symm
  obtain ⟨hP1, hK1, hD1⟩ := hB
  rw [ht] at hP1
  have hK1 := va_K.moved hvm.symm hK1
  obtain ⟨hP, hD⟩ := va_join (wr := [(h0, .inr (23, [v0, v1, v2, v3, v4, v5, v6, v7, v8])), (q1, .inl (cyq1, 6, .inl (upd (upd (upd (upd (upd (upd (fun _ => 0) 0 x0) 1 x1) 2 x2) 3 x3) 4 x4) 5 x5)))]) (w1 := []) hP hD [] [0, 1] rfl rfl (by decide) (by decide) hk1 hFc hP1 hD1
  have hK := (hK.sub (tys' := [(cyq1, .int)]) [0] rfl).app hK1
  generalize H1 = H at hP hS ⊢
  have hP : va_P (dC, dI) vwCl [(h0, .inr (23, [v0, v1, v2, v3, v4, v5, v6, v7, v8])), (q1, .inl (cyq1, 6, .inl (upd (upd (upd (upd (upd (upd (fun _ => 0) 0 x0) 1 x1) 2 x2) 3 x3) 4 x4) 5 x5)))] H := hP
  have hD : va_D A [(h0, .inr (23, [v0, v1, v2, v3, v4, v5, v6, v7, v8])), (q1, .inl (cyq1, 6, .inl (upd (upd (upd (upd (upd (upd (fun _ => 0) 0 x0) 1 x1) 2 x2) 3 x3) 4 x4) 5 x5)))] := hD
  have hK : va_K (dC, dI) vwCl [(cyq1, .int)] s := hK
  refine W.widen (k := 1) (n := 6) (Nat.le_of_ble_eq_true rfl) (Nat.le_of_ble_eq_true rfl) ?_
  have r28 := ns_in_rng x5 (-1) 21
  refine ns_bool hx hb dX16_say_72 dX16_say_75 dX16_say_76 dX16_say_79 ?_
  have r29 := ns_not_rng (ns_in x5 (-1) 21)
  refine lv_ior hx hb dX16_say_80 ?_
  refine lv_topi (fun y30 ey30 => ?_)
  obtain rfl : y30 = 1 := ey30.trans (ns_or1 (by omega) (by omega))
  refine lv_istore (lv' := [(8, .int 1), (12, .int x5), (11, .int 5), (10, .int 6), (9, .ref q1), (7, .ref q1), (0, .ref h0), (1, .int x0), (2, .int x1), (3, .int x2), (4, .int x3), (5, .int x4), (6, .int x5)]) hx hb dX16_say_81 hl (by decide) rfl (fun ls hl => ?_)
  refine lv_iinc (v := 6) (lv' := [(11, .int 6), (8, .int 1), (12, .int x5), (10, .int 6), (9, .ref q1), (7, .ref q1), (0, .ref h0), (1, .int x0), (2, .int x1), (3, .int x2), (4, .int x3), (5, .int x4), (6, .int x5)]) hx hb dX16_say_83 hl (k := 2) rfl (by decide) (by decide) rfl (fun ls hl => ?_)
  refine lv_goto (tgt := 48) hx hb dX16_say_86 (by decide) ?_
  refine lv_iload hx hb dX16_say_48 (lv_at hl 0 rfl) ?_
  refine lv_iload hx hb dX16_say_50 (lv_at hl 3 rfl) ?_
  refine lv_icmp_ge (tgt := 89) hx hb dX16_say_52 (by decide) (fun c31 => ?_) (fun c31 => absurd (by decide) c31)
  refine lv_aload_n hx hb dX16_say_89 rfl (lv_at hl 6 rfl) ?_
  refine lv_iload hx hb dX16_say_90 (lv_at hl 1 rfl) ?_
  refine lv_iconst (v := 1) hx hb dX16_say_92 (by decide) ?_
  have hPc := hP.sub (ws' := [(h0, .inr (23, [v0, v1, v2, v3, v4, v5, v6, v7, v8]))]) [0] rfl
  have hDc := hD.sub (ws' := [(h0, .inr (23, [v0, v1, v2, v3, v4, v5, v6, v7, v8]))]) [0] (by decide) rfl
  have hKc := hK.sub (tys' := []) [] rfl
  have hFc := va_free (wc := [(h0, .inr (23, [v0, v1, v2, v3, v4, v5, v6, v7, v8]))]) hD hS hA [0] rfl
  refine va_calli (va_runV (As := [.int 1, .int 1]) (rest := []) ⟨hx, hb, hml, hown, hts⟩ (kX16_start l dC dI g H.size h0 v0 v1 v2 v3 v4 v5 v6 v7 v8 ) (cwV 2 hts (ns_gp (List.forall_mem_cons.mpr ⟨wm242, (List.forall_mem_cons.mpr ⟨wm243, (List.forall_mem_cons.mpr ⟨wm244, (List.forall_mem_cons.mpr ⟨wm192, (fun _ h9 => nomatch h9)⟩)⟩)⟩)⟩) wm239) rfl rfl rfl (by decide +kernel) ⟨Nat.le_of_ble_eq_true rfl, Nat.le_of_ble_eq_true rfl⟩) ⟨fun a U gg mk q => by obtain ⟨q0, q1, qP, qK, qD, qF⟩ := q; exact ⟨q0, q1, qP, va_K.moved (u := U) (U := U.calling gg mk a) (Vm.Alike.refl U.vm) qK, qD, ns_same qF⟩, va_recv hK hP (ci := 23) (q0 := 0) rfl rfl, fun U hU hW => ⟨rfl, by rw [hU], by rw [hU]; exact hPc, va_K.moved hW.alike hKc, hDc.weaken (fun _ _ _ _ => trivial), ns_call hF hS hFc hU hW⟩⟩ rfl rfl hl.1 rfl (lv_room (Nat.le_of_ble_eq_true rfl)) dX16_say_93 ⟨Nat.le_of_ble_eq_true rfl, Nat.le_of_ble_eq_true rfl⟩) hS (fun q _ h => hFc q h) hFc (fun r9 u t H1 locs ht hvm hw hB hz1 hk1 hS => ?_)
  obtain rfl := hw.symm
  obtain ⟨hP1, hK1, hD1⟩ := hB
  rw [ht] at hP1
  have hK1 := va_K.moved hvm.symm hK1
  obtain ⟨hP, hD⟩ := va_join (wr := [(q1, .inl (cyq1, 6, .inl (upd (upd (upd (upd (upd (upd (fun _ => 0) 0 x0) 1 x1) 2 x2) 3 x3) 4 x4) 5 x5)))]) (w1 := [(h0, .inr (23, [.int 1, v1, v2, v3, v4, v5, v6, v7, v8]))]) hP hD [0] [1] rfl rfl (by decide) (by decide) hk1 hFc hP1 hD1
  have hK := (hK.sub (tys' := [(cyq1, .int)]) [0] rfl).app hK1
  generalize H1 = H at hP hS ⊢
  have hP : va_P (dC, dI) vwCl [(q1, .inl (cyq1, 6, .inl (upd (upd (upd (upd (upd (upd (fun _ => 0) 0 x0) 1 x1) 2 x2) 3 x3) 4 x4) 5 x5))), (h0, .inr (23, [.int 1, v1, v2, v3, v4, v5, v6, v7, v8]))] H := hP
  have hD : va_D A [(q1, .inl (cyq1, 6, .inl (upd (upd (upd (upd (upd (upd (fun _ => 0) 0 x0) 1 x1) 2 x2) 3 x3) 4 x4) 5 x5))), (h0, .inr (23, [.int 1, v1, v2, v3, v4, v5, v6, v7, v8]))] := hD
  have hK : va_K (dC, dI) vwCl [(cyq1, .int)] s := hK
  refine W.widen (k := 1) (n := 6) (Nat.le_of_ble_eq_true rfl) (Nat.le_of_ble_eq_true rfl) ?_
  refine lv_if_eq (tgt := 101) hx hb dX16_say_96 (by decide) (fun c32 => absurd c32 (by decide)) (fun c32 => ?_)
  refine lv_iconst (v := 0) hx hb dX16_say_99 (by decide) ?_
  have hP9 := hP.sub (ws' := [(h0, .inr (23, [.int 1, v1, v2, v3, v4, v5, v6, v7, v8]))]) [1] rfl
  have hD9 := hD.sub (ws' := [(h0, .inr (23, [.int 1, v1, v2, v3, v4, v5, v6, v7, v8]))]) [1] (by decide) rfl
  have hK9 := hK.sub (tys' := []) [] rfl
  refine W.widen (k := 1) (n := 6) (Nat.le_of_ble_eq_true rfl) (Nat.le_of_ble_eq_true rfl) ?_
  exact W.iret (v := 0) hx hb hr (fun t ht hW => ⟨⟨_, (), rfl, rfl, by rw [ht]; exact hP9, va_K.moved hW.alike hK9, hD9⟩, hS.F ht⟩) hS.2.2 dX16_say_100
set_option maxHeartbeats 4000000 in
set_option maxRecDepth 100000 in
theorem kX9_say_5 (l : Launch) (dC : Nat → ClassId) (dI : Nat → Nat → Nat) (g : Nat → Nat) (sz : Nat) (h0 : Nat) (x0 : Int32) (x1 : Int32) (x2 : Int32) (x3 : Int32) (x4 : Int32) (x5 : Int32) (h1 : Nat) (h2 : Nat) (v0 : Value) (v1 : Value) (v2 : Value) (v3 : Value) (v4 : Value) (v5 : Value) (v6 : Value) (v7 : Value) (v8 : Value) (v9 : Value) (v10 : Value) (v11 : Value) (v12 : Value) (v13 : Value) (v14 : Value) (v15 : Value) (cc0 : ClassId) (ex0 : (-1 : Int) ≤ x0.toInt ∧ x0.toInt ≤ (21 : Int)) (ex1 : (-1 : Int) ≤ x1.toInt ∧ x1.toInt ≤ (21 : Int)) (ex2 : (-1 : Int) ≤ x2.toInt ∧ x2.toInt ≤ (21 : Int)) (ex3 : (-1 : Int) ≤ x3.toInt ∧ x3.toInt ≤ (21 : Int)) (ex4 : (-2147483648 : Int) ≤ x4.toInt ∧ x4.toInt ≤ (-2 : Int)) (hlt : l.stackTraces = false) : vx_Met l yX9_say wbX9_say ({ frames := 7, cells := 1, slots := 6, locals := 104 }) (va_Pc [.ref h0, .int x0, .int x1, .int x2, .int x3, .int x4, .int x5] (fun U => U.heap.size = sz ∧ va_P (dC, dI) vwCl [(h0, .inr (16, [v0, v1, .ref h1, v2, v3, v4, v5, v6, v7, v8, v9, v10, v11, v12, v13, v14])), (h1, .inr (11, [.ref h2, v15])), (h2, .inl (cc0, 6, .inl (fun _ => 0)))] U.heap ∧ va_K (dC, dI) vwCl [(cc0, .int)] U ∧ va_D (fun _ => True) [(h0, .inr (16, [v0, v1, .ref h1, v2, v3, v4, v5, v6, v7, v8, v9, v10, v11, v12, v13, v14])), (h1, .inr (11, [.ref h2, v15])), (h2, .inl (cc0, 6, .inl (fun _ => 0)))] ∧ ns_F g (va_A [(h0, .inr (16, [v0, v1, .ref h1, v2, v3, v4, v5, v6, v7, v8, v9, v10, v11, v12, v13, v14])), (h1, .inr (11, [.ref h2, v15])), (h2, .inl (cc0, 6, .inl (fun _ => 0)))] sz) U U.heap)) (va_Qv (fun _ : Unit => False) (fun _ _ => True) (va_A [(h0, .inr (16, [v0, v1, .ref h1, v2, v3, v4, v5, v6, v7, v8, v9, v10, v11, v12, v13, v14])), (h1, .inr (11, [.ref h2, v15])), (h2, .inl (cc0, 6, .inl (fun _ => 0)))] sz)) (vx_X (fun _ : Unit => True) (fun E _ _ => E = "java/lang/IllegalArgumentException") (va_A [(h0, .inr (16, [v0, v1, .ref h1, v2, v3, v4, v5, v6, v7, v8, v9, v10, v11, v12, v13, v14])), (h1, .inr (11, [.ref h2, v15])), (h2, .inl (cc0, 6, .inl (fun _ => 0)))] sz)) 1 6 (va_A [(h0, .inr (16, [v0, v1, .ref h1, v2, v3, v4, v5, v6, v7, v8, v9, v10, v11, v12, v13, v14])), (h1, .inr (11, [.ref h2, v15])), (h2, .inl (cc0, 6, .inl (fun _ => 0)))] sz) := by
  refine vx_ofW (cc := cX9_say) (maxL := 8) (ret := (some .int)) (by decide) rfl ?_
  intro p e s m args below meth c s₁ B hml hnox hv
  obtain ⟨rfl, hsz, hP, hK, hD0, hF⟩ := hv
  have hx := B.exec
  have hb := B.bytes
  have hr := B.returns
  have hts := atoms_spec (ws := wbX9_say) B.pre
  have hta : ∀ w ∈ wsALL, w.before _ s = true := fun w h => hts w (List.mem_cons_of_mem _ h)
  have hown : s.vm.findClass RX9 = some m.cls := findClass_of_methodNamed B.named
  have hlocks := B.notSynchronized
  subst hsz
  have hD := hD0.self (sz := s.heap.size)
  generalize hAe : va_A [(h0, .inr (16, [v0, v1, .ref h1, v2, v3, v4, v5, v6, v7, v8, v9, v10, v11, v12, v13, v14])), (h1, .inr (11, [.ref h2, v15])), (h2, .inl (cc0, 6, .inl (fun _ => 0)))] s.heap.size = A at hD hF ⊢
  have hA : ∀ q : Nat, s.heap.size ≤ q → A q := fun q h => by rw [← hAe]; exact Or.inr h
  have hS : va_S A s.heap s.heap [] := va_S.rf
  have hP : va_P (dC, dI) vwCl [(h0, .inr (16, [v0, v1, .ref h1, v2, v3, v4, v5, v6, v7, v8, v9, v10, v11, v12, v13, v14])), (h1, .inr (11, [.ref h2, v15])), (h2, .inl (cc0, 6, .inl (fun _ => 0)))] s.heap := hP
  have hl := lv_entry ([.ref h0, .int x0, .int x1, .int x2, .int x3, .int x4, .int x5]) (n := 8) (Nat.le_of_ble_eq_true rfl)
  rw [lg_entry_eq]
  generalize (lg_sl ([.ref h0, .int x0, .int x1, .int x2, .int x3, .int x4, .int x5]) ++ List.replicate (8 - (lg_sl ([.ref h0, .int x0, .int x1, .int x2, .int x3, .int x4, .int x5])).length) Slot.unset).toArray = ls at hl ⊢
  have hl : lv_has ls 8 [(0, .ref h0), (1, .int x0), (2, .int x1), (3, .int x2), (4, .int x3), (5, .int x4), (6, .int x5)] := hl
  refine lv_aload_n hx hb dX9_say_0 rfl (lv_at hl 0 rfl) ?_
  refine va_get (D := (dC, dI)) (ci := 16) (v := .ref h1) (C := RX9) (T := TX9) (N := 16) hx hb hta naX9 hown hK hP 0 rfl rfl 2 (by decide) (hta _ wm33) (fun _ h9 => h9) rfl dX9_say_1 ?_
  have hPc := hP.sub (ws' := [(h1, .inr (11, [.ref h2, v15]))]) [1] rfl
  have hDc := hD.sub (ws' := [(h1, .inr (11, [.ref h2, v15]))]) [1] (by decide) rfl
  have hKc := hK.sub (tys' := []) [] rfl
  have hFc := va_free (wc := [(h1, .inr (11, [.ref h2, v15]))]) hD hS hA [1] rfl
  refine va_callv (va_runV (As := []) (rest := []) ⟨hx, hb, hml, hown, hts⟩ (kX4_clear l dC dI g s.heap.size h1 (.ref h2) v15 ) (cwV 0 hts (ns_gp (List.forall_mem_cons.mpr ⟨wm554, (List.forall_mem_cons.mpr ⟨wm504, (List.forall_mem_cons.mpr ⟨wm505, (List.forall_mem_cons.mpr ⟨wm12, (fun _ h9 => nomatch h9)⟩)⟩)⟩)⟩) wm502) rfl rfl rfl (by decide +kernel) ⟨Nat.le_of_ble_eq_true rfl, Nat.le_of_ble_eq_true rfl⟩) ⟨fun a U gg mk q => by obtain ⟨q0, q1, qP, qK, qD, qF⟩ := q; exact ⟨q0, q1, qP, va_K.moved (u := U) (U := U.calling gg mk a) (Vm.Alike.refl U.vm) qK, qD, ns_same qF⟩, va_recv hK hP (ci := 11) (q0 := 1) rfl rfl, fun U hU hW => ⟨rfl, by rw [hU], by rw [hU]; exact hPc, va_K.moved hW.alike hKc, hDc.weaken (fun _ _ _ _ => trivial), ns_call hF hS hFc hU hW⟩⟩ rfl rfl hl.1 rfl (lv_room (Nat.le_of_ble_eq_true rfl)) dX9_say_4 ⟨Nat.le_of_ble_eq_true rfl, Nat.le_of_ble_eq_true rfl⟩) hS (fun q _ h => hFc q h) hFc (fun u t H1 locs ht hvm hw hB hz1 hk1 hS => ?_)
  obtain ⟨hP1, hK1, hD1⟩ := hB
  rw [ht] at hP1
  have hK1 := va_K.moved hvm.symm hK1
  obtain ⟨hP, hD⟩ := va_join (wr := [(h0, .inr (16, [v0, v1, .ref h1, v2, v3, v4, v5, v6, v7, v8, v9, v10, v11, v12, v13, v14])), (h2, .inl (cc0, 6, .inl (fun _ => 0)))]) (w1 := [(h1, .inr (11, [.ref h2, .int 0]))]) hP hD [1] [0, 2] rfl rfl (by decide) (by decide) hk1 hFc hP1 hD1
  have hK := (hK.sub (tys' := [(cc0, .int)]) [0] rfl).app hK1
  generalize H1 = H at hP hS ⊢
  have hP : va_P (dC, dI) vwCl [(h0, .inr (16, [v0, v1, .ref h1, v2, v3, v4, v5, v6, v7, v8, v9, v10, v11, v12, v13, v14])), (h2, .inl (cc0, 6, .inl (fun _ => 0))), (h1, .inr (11, [.ref h2, .int 0]))] H := hP
  have hD : va_D A [(h0, .inr (16, [v0, v1, .ref h1, v2, v3, v4, v5, v6, v7, v8, v9, v10, v11, v12, v13, v14])), (h2, .inl (cc0, 6, .inl (fun _ => 0))), (h1, .inr (11, [.ref h2, .int 0]))] := hD
  have hK : va_K (dC, dI) vwCl [(cc0, .int)] s := hK
  refine W.widen (k := 0) (n := 0) (Nat.le_of_ble_eq_true rfl) (Nat.le_of_ble_eq_true rfl) ?_
  refine lv_aload_n hx hb dX9_say_7 rfl (lv_at hl 0 rfl) ?_
  refine va_get (D := (dC, dI)) (ci := 16) (v := .ref h1) (C := RX9) (T := TX9) (N := 16) hx hb hta naX9 hown hK hP 0 rfl rfl 2 (by decide) (hta _ wm33) (fun _ h9 => h9) rfl dX9_say_8 ?_
  refine lv_iload_n hx hb dX9_say_11 rfl (lv_at hl 1 rfl) ?_
  have hPc := hP.sub (ws' := [(h1, .inr (11, [.ref h2, .int 0])), (h2, .inl (cc0, 6, .inl (fun _ => 0)))]) [2, 1] rfl
  have hDc := hD.sub (ws' := [(h1, .inr (11, [.ref h2, .int 0])), (h2, .inl (cc0, 6, .inl (fun _ => 0)))]) [2, 1] (by decide) rfl
  have hKc := hK.sub (tys' := [(cc0, .int)]) [0] rfl
  have hFc := va_free (wc := [(h1, .inr (11, [.ref h2, .int 0])), (h2, .inl (cc0, 6, .inl (fun _ => 0)))]) hD hS hA [2, 1] rfl
  refine va_callv (va_runV (As := [.int x0]) (rest := []) ⟨hx, hb, hml, hown, hts⟩ (kX4_add_28 l dC dI g H.size h1 x0 h2 cc0 (fun _ => 0) ⟨by omega, by omega⟩) (cwV 1 hts (ns_gp (List.forall_mem_cons.mpr ⟨wm555, (List.forall_mem_cons.mpr ⟨wm258, (List.forall_mem_cons.mpr ⟨wm259, (List.forall_mem_cons.mpr ⟨wm12, (fun _ h9 => nomatch h9)⟩)⟩)⟩)⟩) wm256) rfl rfl rfl (by decide +kernel) ⟨Nat.le_of_ble_eq_true rfl, Nat.le_of_ble_eq_true rfl⟩) ⟨fun a U gg mk q => by obtain ⟨q0, q1, qP, qK, qD, qF⟩ := q; exact ⟨q0, q1, qP, va_K.moved (u := U) (U := U.calling gg mk a) (Vm.Alike.refl U.vm) qK, qD, ns_same qF⟩, va_recv hK hP (ci := 11) (q0 := 2) rfl rfl, fun U hU hW => ⟨rfl, by rw [hU], by rw [hU]; exact hPc, va_K.moved hW.alike hKc, hDc.weaken (fun _ _ _ _ => trivial), ns_call hF hS hFc hU hW⟩⟩ rfl rfl hl.1 rfl (lv_room (Nat.le_of_ble_eq_true rfl)) dX9_say_12 ⟨Nat.le_of_ble_eq_true rfl, Nat.le_of_ble_eq_true rfl⟩) hS (fun q _ h => hFc q h) hFc (fun u t H1 locs ht hvm hw hB hz1 hk1 hS => ?_)
  obtain ⟨hP1, hK1, hD1⟩ := hB
  rw [ht] at hP1
  have hK1 := va_K.moved hvm.symm hK1
  obtain ⟨hP, hD⟩ := va_join (wr := [(h0, .inr (16, [v0, v1, .ref h1, v2, v3, v4, v5, v6, v7, v8, v9, v10, v11, v12, v13, v14]))]) (w1 := [(h1, .inr (11, [.ref h2, .int 1])), (h2, .inl (cc0, 6, .inl (upd ((fun _ => 0)) 0 x0)))]) hP hD [2, 1] [0] rfl rfl (by decide) (by decide) hk1 hFc hP1 hD1
  have hK := (hK.sub (tys' := []) [] rfl).app hK1
  generalize H1 = H at hP hS ⊢
  have hP : va_P (dC, dI) vwCl [(h0, .inr (16, [v0, v1, .ref h1, v2, v3, v4, v5, v6, v7, v8, v9, v10, v11, v12, v13, v14])), (h1, .inr (11, [.ref h2, .int 1])), (h2, .inl (cc0, 6, .inl (upd ((fun _ => 0)) 0 x0)))] H := hP
  have hD : va_D A [(h0, .inr (16, [v0, v1, .ref h1, v2, v3, v4, v5, v6, v7, v8, v9, v10, v11, v12, v13, v14])), (h1, .inr (11, [.ref h2, .int 1])), (h2, .inl (cc0, 6, .inl (upd ((fun _ => 0)) 0 x0)))] := hD
  have hK : va_K (dC, dI) vwCl [(cc0, .int)] s := hK
  refine W.widen (k := 0) (n := 0) (Nat.le_of_ble_eq_true rfl) (Nat.le_of_ble_eq_true rfl) ?_
  refine lv_aload_n hx hb dX9_say_15 rfl (lv_at hl 0 rfl) ?_
  refine va_get (D := (dC, dI)) (ci := 16) (v := .ref h1) (C := RX9) (T := TX9) (N := 16) hx hb hta naX9 hown hK hP 0 rfl rfl 2 (by decide) (hta _ wm33) (fun _ h9 => h9) rfl dX9_say_16 ?_
  refine lv_iload_n hx hb dX9_say_19 rfl (lv_at hl 2 rfl) ?_
  have hPc := hP.sub (ws' := [(h1, .inr (11, [.ref h2, .int 1])), (h2, .inl (cc0, 6, .inl (upd ((fun _ => 0)) 0 x0)))]) [1, 2] rfl
  have hDc := hD.sub (ws' := [(h1, .inr (11, [.ref h2, .int 1])), (h2, .inl (cc0, 6, .inl (upd ((fun _ => 0)) 0 x0)))]) [1, 2] (by decide) rfl
  have hKc := hK.sub (tys' := [(cc0, .int)]) [0] rfl
  have hFc := va_free (wc := [(h1, .inr (11, [.ref h2, .int 1])), (h2, .inl (cc0, 6, .inl (upd ((fun _ => 0)) 0 x0)))]) hD hS hA [1, 2] rfl
  refine va_callv (va_runV (As := [.int x1]) (rest := []) ⟨hx, hb, hml, hown, hts⟩ (kX4_add_30 l dC dI g H.size h1 x1 h2 cc0 (upd ((fun _ => 0)) 0 x0) ⟨by omega, by omega⟩) (cwV 1 hts (ns_gp (List.forall_mem_cons.mpr ⟨wm555, (List.forall_mem_cons.mpr ⟨wm258, (List.forall_mem_cons.mpr ⟨wm259, (List.forall_mem_cons.mpr ⟨wm12, (fun _ h9 => nomatch h9)⟩)⟩)⟩)⟩) wm256) rfl rfl rfl (by decide +kernel) ⟨Nat.le_of_ble_eq_true rfl, Nat.le_of_ble_eq_true rfl⟩) ⟨fun a U gg mk q => by obtain ⟨q0, q1, qP, qK, qD, qF⟩ := q; exact ⟨q0, q1, qP, va_K.moved (u := U) (U := U.calling gg mk a) (Vm.Alike.refl U.vm) qK, qD, ns_same qF⟩, va_recv hK hP (ci := 11) (q0 := 1) rfl rfl, fun U hU hW => ⟨rfl, by rw [hU], by rw [hU]; exact hPc, va_K.moved hW.alike hKc, hDc.weaken (fun _ _ _ _ => trivial), ns_call hF hS hFc hU hW⟩⟩ rfl rfl hl.1 rfl (lv_room (Nat.le_of_ble_eq_true rfl)) dX9_say_20 ⟨Nat.le_of_ble_eq_true rfl, Nat.le_of_ble_eq_true rfl⟩) hS (fun q _ h => hFc q h) hFc (fun u t H1 locs ht hvm hw hB hz1 hk1 hS => ?_)
  obtain ⟨hP1, hK1, hD1⟩ := hB
  rw [ht] at hP1
  have hK1 := va_K.moved hvm.symm hK1
  obtain ⟨hP, hD⟩ := va_join (wr := [(h0, .inr (16, [v0, v1, .ref h1, v2, v3, v4, v5, v6, v7, v8, v9, v10, v11, v12, v13, v14]))]) (w1 := [(h1, .inr (11, [.ref h2, .int 2])), (h2, .inl (cc0, 6, .inl (upd ((upd ((fun _ => 0)) 0 x0)) 1 x1)))]) hP hD [1, 2] [0] rfl rfl (by decide) (by decide) hk1 hFc hP1 hD1
  have hK := (hK.sub (tys' := []) [] rfl).app hK1
  generalize H1 = H at hP hS ⊢
  have hP : va_P (dC, dI) vwCl [(h0, .inr (16, [v0, v1, .ref h1, v2, v3, v4, v5, v6, v7, v8, v9, v10, v11, v12, v13, v14])), (h1, .inr (11, [.ref h2, .int 2])), (h2, .inl (cc0, 6, .inl (upd ((upd ((fun _ => 0)) 0 x0)) 1 x1)))] H := hP
  have hD : va_D A [(h0, .inr (16, [v0, v1, .ref h1, v2, v3, v4, v5, v6, v7, v8, v9, v10, v11, v12, v13, v14])), (h1, .inr (11, [.ref h2, .int 2])), (h2, .inl (cc0, 6, .inl (upd ((upd ((fun _ => 0)) 0 x0)) 1 x1)))] := hD
  have hK : va_K (dC, dI) vwCl [(cc0, .int)] s := hK
  refine W.widen (k := 0) (n := 0) (Nat.le_of_ble_eq_true rfl) (Nat.le_of_ble_eq_true rfl) ?_
  refine lv_aload_n hx hb dX9_say_23 rfl (lv_at hl 0 rfl) ?_
  refine va_get (D := (dC, dI)) (ci := 16) (v := .ref h1) (C := RX9) (T := TX9) (N := 16) hx hb hta naX9 hown hK hP 0 rfl rfl 2 (by decide) (hta _ wm33) (fun _ h9 => h9) rfl dX9_say_24 ?_
  refine lv_iload_n hx hb dX9_say_27 rfl (lv_at hl 3 rfl) ?_
  have hPc := hP.sub (ws' := [(h1, .inr (11, [.ref h2, .int 2])), (h2, .inl (cc0, 6, .inl (upd ((upd ((fun _ => 0)) 0 x0)) 1 x1)))]) [1, 2] rfl
  have hDc := hD.sub (ws' := [(h1, .inr (11, [.ref h2, .int 2])), (h2, .inl (cc0, 6, .inl (upd ((upd ((fun _ => 0)) 0 x0)) 1 x1)))]) [1, 2] (by decide) rfl
  have hKc := hK.sub (tys' := [(cc0, .int)]) [0] rfl
  have hFc := va_free (wc := [(h1, .inr (11, [.ref h2, .int 2])), (h2, .inl (cc0, 6, .inl (upd ((upd ((fun _ => 0)) 0 x0)) 1 x1)))]) hD hS hA [1, 2] rfl
  refine va_callv (va_runV (As := [.int x2]) (rest := []) ⟨hx, hb, hml, hown, hts⟩ (kX4_add_32 l dC dI g H.size h1 x2 h2 cc0 (upd ((upd ((fun _ => 0)) 0 x0)) 1 x1) ⟨by omega, by omega⟩) (cwV 1 hts (ns_gp (List.forall_mem_cons.mpr ⟨wm555, (List.forall_mem_cons.mpr ⟨wm258, (List.forall_mem_cons.mpr ⟨wm259, (List.forall_mem_cons.mpr ⟨wm12, (fun _ h9 => nomatch h9)⟩)⟩)⟩)⟩) wm256) rfl rfl rfl (by decide +kernel) ⟨Nat.le_of_ble_eq_true rfl, Nat.le_of_ble_eq_true rfl⟩) ⟨fun a U gg mk q => by obtain ⟨q0, q1, qP, qK, qD, qF⟩ := q; exact ⟨q0, q1, qP, va_K.moved (u := U) (U := U.calling gg mk a) (Vm.Alike.refl U.vm) qK, qD, ns_same qF⟩, va_recv hK hP (ci := 11) (q0 := 1) rfl rfl, fun U hU hW => ⟨rfl, by rw [hU], by rw [hU]; exact hPc, va_K.moved hW.alike hKc, hDc.weaken (fun _ _ _ _ => trivial), ns_call hF hS hFc hU hW⟩⟩ rfl rfl hl.1 rfl (lv_room (Nat.le_of_ble_eq_true rfl)) dX9_say_28 ⟨Nat.le_of_ble_eq_true rfl, Nat.le_of_ble_eq_true rfl⟩) hS (fun q _ h => hFc q h) hFc (fun u t H1 locs ht hvm hw hB hz1 hk1 hS => ?_)
  obtain ⟨hP1, hK1, hD1⟩ := hB
  rw [ht] at hP1
  have hK1 := va_K.moved hvm.symm hK1
  obtain ⟨hP, hD⟩ := va_join (wr := [(h0, .inr (16, [v0, v1, .ref h1, v2, v3, v4, v5, v6, v7, v8, v9, v10, v11, v12, v13, v14]))]) (w1 := [(h1, .inr (11, [.ref h2, .int 3])), (h2, .inl (cc0, 6, .inl (upd ((upd ((upd ((fun _ => 0)) 0 x0)) 1 x1)) 2 x2)))]) hP hD [1, 2] [0] rfl rfl (by decide) (by decide) hk1 hFc hP1 hD1
  have hK := (hK.sub (tys' := []) [] rfl).app hK1
  generalize H1 = H at hP hS ⊢
  have hP : va_P (dC, dI) vwCl [(h0, .inr (16, [v0, v1, .ref h1, v2, v3, v4, v5, v6, v7, v8, v9, v10, v11, v12, v13, v14])), (h1, .inr (11, [.ref h2, .int 3])), (h2, .inl (cc0, 6, .inl (upd ((upd ((upd ((fun _ => 0)) 0 x0)) 1 x1)) 2 x2)))] H := hP
  have hD : va_D A [(h0, .inr (16, [v0, v1, .ref h1, v2, v3, v4, v5, v6, v7, v8, v9, v10, v11, v12, v13, v14])), (h1, .inr (11, [.ref h2, .int 3])), (h2, .inl (cc0, 6, .inl (upd ((upd ((upd ((fun _ => 0)) 0 x0)) 1 x1)) 2 x2)))] := hD
  have hK : va_K (dC, dI) vwCl [(cc0, .int)] s := hK
  refine W.widen (k := 0) (n := 0) (Nat.le_of_ble_eq_true rfl) (Nat.le_of_ble_eq_true rfl) ?_
  refine lv_aload_n hx hb dX9_say_31 rfl (lv_at hl 0 rfl) ?_
  refine va_get (D := (dC, dI)) (ci := 16) (v := .ref h1) (C := RX9) (T := TX9) (N := 16) hx hb hta naX9 hown hK hP 0 rfl rfl 2 (by decide) (hta _ wm33) (fun _ h9 => h9) rfl dX9_say_32 ?_
  refine lv_iload hx hb dX9_say_35 (lv_at hl 4 rfl) ?_
  have hPc := hP.sub (ws' := [(h1, .inr (11, [.ref h2, .int 3])), (h2, .inl (cc0, 6, .inl (upd ((upd ((upd ((fun _ => 0)) 0 x0)) 1 x1)) 2 x2)))]) [1, 2] rfl
  have hDc := hD.sub (ws' := [(h1, .inr (11, [.ref h2, .int 3])), (h2, .inl (cc0, 6, .inl (upd ((upd ((upd ((fun _ => 0)) 0 x0)) 1 x1)) 2 x2)))]) [1, 2] (by decide) rfl
  have hKc := hK.sub (tys' := [(cc0, .int)]) [0] rfl
  have hFc := va_free (wc := [(h1, .inr (11, [.ref h2, .int 3])), (h2, .inl (cc0, 6, .inl (upd ((upd ((upd ((fun _ => 0)) 0 x0)) 1 x1)) 2 x2)))]) hD hS hA [1, 2] rfl
  refine va_callv (va_runV (As := [.int x3]) (rest := []) ⟨hx, hb, hml, hown, hts⟩ (kX4_add_34 l dC dI g H.size h1 x3 h2 cc0 (upd ((upd ((upd ((fun _ => 0)) 0 x0)) 1 x1)) 2 x2) ⟨by omega, by omega⟩) (cwV 1 hts (ns_gp (List.forall_mem_cons.mpr ⟨wm555, (List.forall_mem_cons.mpr ⟨wm258, (List.forall_mem_cons.mpr ⟨wm259, (List.forall_mem_cons.mpr ⟨wm12, (fun _ h9 => nomatch h9)⟩)⟩)⟩)⟩) wm256) rfl rfl rfl (by decide +kernel) ⟨Nat.le_of_ble_eq_true rfl, Nat.le_of_ble_eq_true rfl⟩) ⟨fun a U gg mk q => by obtain ⟨q0, q1, qP, qK, qD, qF⟩ := q; exact ⟨q0, q1, qP, va_K.moved (u := U) (U := U.calling gg mk a) (Vm.Alike.refl U.vm) qK, qD, ns_same qF⟩, va_recv hK hP (ci := 11) (q0 := 1) rfl rfl, fun U hU hW => ⟨rfl, by rw [hU], by rw [hU]; exact hPc, va_K.moved hW.alike hKc, hDc.weaken (fun _ _ _ _ => trivial), ns_call hF hS hFc hU hW⟩⟩ rfl rfl hl.1 rfl (lv_room (Nat.le_of_ble_eq_true rfl)) dX9_say_37 ⟨Nat.le_of_ble_eq_true rfl, Nat.le_of_ble_eq_true rfl⟩) hS (fun q _ h => hFc q h) hFc (fun u t H1 locs ht hvm hw hB hz1 hk1 hS => ?_)
  obtain ⟨hP1, hK1, hD1⟩ := hB
  rw [ht] at hP1
  have hK1 := va_K.moved hvm.symm hK1
  obtain ⟨hP, hD⟩ := va_join (wr := [(h0, .inr (16, [v0, v1, .ref h1, v2, v3, v4, v5, v6, v7, v8, v9, v10, v11, v12, v13, v14]))]) (w1 := [(h1, .inr (11, [.ref h2, .int 4])), (h2, .inl (cc0, 6, .inl (upd ((upd ((upd ((upd ((fun _ => 0)) 0 x0)) 1 x1)) 2 x2)) 3 x3)))]) hP hD [1, 2] [0] rfl rfl (by decide) (by decide) hk1 hFc hP1 hD1
  have hK := (hK.sub (tys' := []) [] rfl).app hK1
  generalize H1 = H at hP hS ⊢
  have hP : va_P (dC, dI) vwCl [(h0, .inr (16, [v0, v1, .ref h1, v2, v3, v4, v5, v6, v7, v8, v9, v10, v11, v12, v13, v14])), (h1, .inr (11, [.ref h2, .int 4])), (h2, .inl (cc0, 6, .inl (upd ((upd ((upd ((upd ((fun _ => 0)) 0 x0)) 1 x1)) 2 x2)) 3 x3)))] H := hP
  have hD : va_D A [(h0, .inr (16, [v0, v1, .ref h1, v2, v3, v4, v5, v6, v7, v8, v9, v10, v11, v12, v13, v14])), (h1, .inr (11, [.ref h2, .int 4])), (h2, .inl (cc0, 6, .inl (upd ((upd ((upd ((upd ((fun _ => 0)) 0 x0)) 1 x1)) 2 x2)) 3 x3)))] := hD
  have hK : va_K (dC, dI) vwCl [(cc0, .int)] s := hK
  refine W.widen (k := 0) (n := 0) (Nat.le_of_ble_eq_true rfl) (Nat.le_of_ble_eq_true rfl) ?_
  refine lv_aload_n hx hb dX9_say_40 rfl (lv_at hl 0 rfl) ?_
  refine va_get (D := (dC, dI)) (ci := 16) (v := .ref h1) (C := RX9) (T := TX9) (N := 16) hx hb hta naX9 hown hK hP 0 rfl rfl 2 (by decide) (hta _ wm33) (fun _ h9 => h9) rfl dX9_say_41 ?_
  refine lv_iload hx hb dX9_say_44 (lv_at hl 5 rfl) ?_
  have hPc := hP.sub (ws' := [(h1, .inr (11, [.ref h2, .int 4])), (h2, .inl (cc0, 6, .inl (upd ((upd ((upd ((upd ((fun _ => 0)) 0 x0)) 1 x1)) 2 x2)) 3 x3)))]) [1, 2] rfl
  have hDc := hD.sub (ws' := [(h1, .inr (11, [.ref h2, .int 4])), (h2, .inl (cc0, 6, .inl (upd ((upd ((upd ((upd ((fun _ => 0)) 0 x0)) 1 x1)) 2 x2)) 3 x3)))]) [1, 2] (by decide) rfl
  have hKc := hK.sub (tys' := [(cc0, .int)]) [0] rfl
  have hFc := va_free (wc := [(h1, .inr (11, [.ref h2, .int 4])), (h2, .inl (cc0, 6, .inl (upd ((upd ((upd ((upd ((fun _ => 0)) 0 x0)) 1 x1)) 2 x2)) 3 x3)))]) hD hS hA [1, 2] rfl
  refine va_callv (va_runV (As := [.int x4]) (rest := []) ⟨hx, hb, hml, hown, hts⟩ (kX4_add_35 l dC dI g H.size h1 x4 h2 cc0 (upd ((upd ((upd ((upd ((fun _ => 0)) 0 x0)) 1 x1)) 2 x2)) 3 x3) ⟨by omega, by omega⟩) (cwV 1 hts (ns_gp (List.forall_mem_cons.mpr ⟨wm555, (List.forall_mem_cons.mpr ⟨wm258, (List.forall_mem_cons.mpr ⟨wm259, (List.forall_mem_cons.mpr ⟨wm12, (fun _ h9 => nomatch h9)⟩)⟩)⟩)⟩) wm256) rfl rfl rfl (by decide +kernel) ⟨Nat.le_of_ble_eq_true rfl, Nat.le_of_ble_eq_true rfl⟩) ⟨fun a U gg mk q => by obtain ⟨q0, q1, qP, qK, qD, qF⟩ := q; exact ⟨q0, q1, qP, va_K.moved (u := U) (U := U.calling gg mk a) (Vm.Alike.refl U.vm) qK, qD, ns_same qF⟩, va_recv hK hP (ci := 11) (q0 := 1) rfl rfl, fun U hU hW => ⟨rfl, by rw [hU], by rw [hU]; exact hPc, va_K.moved hW.alike hKc, hDc.weaken (fun _ _ _ _ => trivial), ns_call hF hS hFc hU hW⟩⟩ rfl rfl hl.1 rfl (lv_room (Nat.le_of_ble_eq_true rfl)) dX9_say_46 ⟨Nat.le_of_ble_eq_true rfl, Nat.le_of_ble_eq_true rfl⟩) hS (fun q _ h => hFc q h) hFc (fun u t H1 locs ht hvm hw hB hz1 hk1 hS => ?_)
  obtain ⟨hP1, hK1, hD1⟩ := hB
  rw [ht] at hP1
  have hK1 := va_K.moved hvm.symm hK1
  obtain ⟨hP, hD⟩ := va_join (wr := [(h0, .inr (16, [v0, v1, .ref h1, v2, v3, v4, v5, v6, v7, v8, v9, v10, v11, v12, v13, v14]))]) (w1 := [(h1, .inr (11, [.ref h2, .int 5])), (h2, .inl (cc0, 6, .inl (upd ((upd ((upd ((upd ((upd ((fun _ => 0)) 0 x0)) 1 x1)) 2 x2)) 3 x3)) 4 x4)))]) hP hD [1, 2] [0] rfl rfl (by decide) (by decide) hk1 hFc hP1 hD1
  have hK := (hK.sub (tys' := []) [] rfl).app hK1
  generalize H1 = H at hP hS ⊢
  have hP : va_P (dC, dI) vwCl [(h0, .inr (16, [v0, v1, .ref h1, v2, v3, v4, v5, v6, v7, v8, v9, v10, v11, v12, v13, v14])), (h1, .inr (11, [.ref h2, .int 5])), (h2, .inl (cc0, 6, .inl (upd ((upd ((upd ((upd ((upd ((fun _ => 0)) 0 x0)) 1 x1)) 2 x2)) 3 x3)) 4 x4)))] H := hP
  have hD : va_D A [(h0, .inr (16, [v0, v1, .ref h1, v2, v3, v4, v5, v6, v7, v8, v9, v10, v11, v12, v13, v14])), (h1, .inr (11, [.ref h2, .int 5])), (h2, .inl (cc0, 6, .inl (upd ((upd ((upd ((upd ((upd ((fun _ => 0)) 0 x0)) 1 x1)) 2 x2)) 3 x3)) 4 x4)))] := hD
  have hK : va_K (dC, dI) vwCl [(cc0, .int)] s := hK
  refine W.widen (k := 0) (n := 0) (Nat.le_of_ble_eq_true rfl) (Nat.le_of_ble_eq_true rfl) ?_
  refine lv_aload_n hx hb dX9_say_49 rfl (lv_at hl 0 rfl) ?_
  refine va_get (D := (dC, dI)) (ci := 16) (v := .ref h1) (C := RX9) (T := TX9) (N := 16) hx hb hta naX9 hown hK hP 0 rfl rfl 2 (by decide) (hta _ wm33) (fun _ h9 => h9) rfl dX9_say_50 ?_
  refine lv_iload hx hb dX9_say_53 (lv_at hl 6 rfl) ?_
  have hPc := hP.sub (ws' := [(h1, .inr (11, [.ref h2, .int 5])), (h2, .inl (cc0, 6, .inl (upd ((upd ((upd ((upd ((upd ((fun _ => 0)) 0 x0)) 1 x1)) 2 x2)) 3 x3)) 4 x4)))]) [1, 2] rfl
  have hDc := hD.sub (ws' := [(h1, .inr (11, [.ref h2, .int 5])), (h2, .inl (cc0, 6, .inl (upd ((upd ((upd ((upd ((upd ((fun _ => 0)) 0 x0)) 1 x1)) 2 x2)) 3 x3)) 4 x4)))]) [1, 2] (by decide) rfl
  have hKc := hK.sub (tys' := [(cc0, .int)]) [0] rfl
  have hFc := va_free (wc := [(h1, .inr (11, [.ref h2, .int 5])), (h2, .inl (cc0, 6, .inl (upd ((upd ((upd ((upd ((upd ((fun _ => 0)) 0 x0)) 1 x1)) 2 x2)) 3 x3)) 4 x4)))]) hD hS hA [1, 2] rfl
  refine va_callv (va_runV (As := [.int x5]) (rest := []) ⟨hx, hb, hml, hown, hts⟩ (kX4_add_27 l dC dI g H.size h1 x5 h2 cc0 (upd ((upd ((upd ((upd ((upd ((fun _ => 0)) 0 x0)) 1 x1)) 2 x2)) 3 x3)) 4 x4) ) (cwV 1 hts (ns_gp (List.forall_mem_cons.mpr ⟨wm555, (List.forall_mem_cons.mpr ⟨wm258, (List.forall_mem_cons.mpr ⟨wm259, (List.forall_mem_cons.mpr ⟨wm12, (fun _ h9 => nomatch h9)⟩)⟩)⟩)⟩) wm256) rfl rfl rfl (by decide +kernel) ⟨Nat.le_of_ble_eq_true rfl, Nat.le_of_ble_eq_true rfl⟩) ⟨fun a U gg mk q => by obtain ⟨q0, q1, qP, qK, qD, qF⟩ := q; exact ⟨q0, q1, qP, va_K.moved (u := U) (U := U.calling gg mk a) (Vm.Alike.refl U.vm) qK, qD, ns_same qF⟩, va_recv hK hP (ci := 11) (q0 := 1) rfl rfl, fun U hU hW => ⟨rfl, by rw [hU], by rw [hU]; exact hPc, va_K.moved hW.alike hKc, hDc.weaken (fun _ _ _ _ => trivial), ns_call hF hS hFc hU hW⟩⟩ rfl rfl hl.1 rfl (lv_room (Nat.le_of_ble_eq_true rfl)) dX9_say_55 ⟨Nat.le_of_ble_eq_true rfl, Nat.le_of_ble_eq_true rfl⟩) hS (fun q _ h => hFc q h) hFc (fun u t H1 locs ht hvm hw hB hz1 hk1 hS => ?_)
  obtain ⟨hP1, hK1, hD1⟩ := hB
  rw [ht] at hP1
  have hK1 := va_K.moved hvm.symm hK1
  obtain ⟨hP, hD⟩ := va_join (wr := [(h0, .inr (16, [v0, v1, .ref h1, v2, v3, v4, v5, v6, v7, v8, v9, v10, v11, v12, v13, v14]))]) (w1 := [(h1, .inr (11, [.ref h2, .int 6])), (h2, .inl (cc0, 6, .inl (upd ((upd ((upd ((upd ((upd ((upd ((fun _ => 0)) 0 x0)) 1 x1)) 2 x2)) 3 x3)) 4 x4)) 5 x5)))]) hP hD [1, 2] [0] rfl rfl (by decide) (by decide) hk1 hFc hP1 hD1
  have hK := (hK.sub (tys' := []) [] rfl).app hK1
  generalize H1 = H at hP hS ⊢
  have hP : va_P (dC, dI) vwCl [(h0, .inr (16, [v0, v1, .ref h1, v2, v3, v4, v5, v6, v7, v8, v9, v10, v11, v12, v13, v14])), (h1, .inr (11, [.ref h2, .int 6])), (h2, .inl (cc0, 6, .inl (upd ((upd ((upd ((upd ((upd ((upd ((fun _ => 0)) 0 x0)) 1 x1)) 2 x2)) 3 x3)) 4 x4)) 5 x5)))] H := hP
  have hD : va_D A [(h0, .inr (16, [v0, v1, .ref h1, v2, v3, v4, v5, v6, v7, v8, v9, v10, v11, v12, v13, v14])), (h1, .inr (11, [.ref h2, .int 6])), (h2, .inl (cc0, 6, .inl (upd ((upd ((upd ((upd ((upd ((upd ((fun _ => 0)) 0 x0)) 1 x1)) 2 x2)) 3 x3)) 4 x4)) 5 x5)))] := hD
  have hK : va_K (dC, dI) vwCl [(cc0, .int)] s := hK
  refine W.widen (k := 0) (n := 0) (Nat.le_of_ble_eq_true rfl) (Nat.le_of_ble_eq_true rfl) ?_
  refine lv_aload_n hx hb dX9_say_58 rfl (lv_at hl 0 rfl) ?_
  have hPc := hP.sub (ws' := [(h0, .inr (16, [v0, v1, .ref h1, v2, v3, v4, v5, v6, v7, v8, v9, v10, v11, v12, v13, v14])), (h1, .inr (11, [.ref h2, .int 6])), (h2, .inl (cc0, 6, .inl (upd (upd (upd (upd (upd (upd (fun _ => 0) 0 x0) 1 x1) 2 x2) 3 x3) 4 x4) 5 x5)))]) [0, 1, 2] rfl
  have hDc := hD.sub (ws' := [(h0, .inr (16, [v0, v1, .ref h1, v2, v3, v4, v5, v6, v7, v8, v9, v10, v11, v12, v13, v14])), (h1, .inr (11, [.ref h2, .int 6])), (h2, .inl (cc0, 6, .inl (upd (upd (upd (upd (upd (upd (fun _ => 0) 0 x0) 1 x1) 2 x2) 3 x3) 4 x4) 5 x5)))]) [0, 1, 2] (by decide) rfl
  have hKc := hK.sub (tys' := [(cc0, .int)]) [0] rfl
  have hFc := va_free (wc := [(h0, .inr (16, [v0, v1, .ref h1, v2, v3, v4, v5, v6, v7, v8, v9, v10, v11, v12, v13, v14])), (h1, .inr (11, [.ref h2, .int 6])), (h2, .inl (cc0, 6, .inl (upd (upd (upd (upd (upd (upd (fun _ => 0) 0 x0) 1 x1) 2 x2) 3 x3) 4 x4) 5 x5)))]) hD hS hA [0, 1, 2] rfl
  refine vx_callv (vx_runV (As := []) (rest := []) ⟨hx, hb, hml, hown, hts⟩ (kX9_needCodes_5 l dC dI g H.size h0 h1 h2 v0 v1 v2 v3 v4 v5 v6 v7 v8 v9 v10 v11 v12 v13 v14 cc0 x0 x1 x2 x3 x4 x5 ⟨by omega, by omega⟩ ⟨by omega, by omega⟩ ⟨by omega, by omega⟩ ⟨by omega, by omega⟩ ⟨by omega, by omega⟩ hlt) (cwV 0 hts (ns_gp (List.forall_mem_cons.mpr ⟨wm556, (List.forall_mem_cons.mpr ⟨wm557, (List.forall_mem_cons.mpr ⟨wm558, (List.forall_mem_cons.mpr ⟨wm2, (fun _ h9 => nomatch h9)⟩)⟩)⟩)⟩) wm553) rfl rfl rfl (by decide +kernel) ⟨Nat.le_of_ble_eq_true rfl, Nat.le_of_ble_eq_true rfl⟩) ⟨fun a U gg mk q => by obtain ⟨q0, q1, qP, qK, qD, qF⟩ := q; exact ⟨q0, q1, qP, va_K.moved (u := U) (U := U.calling gg mk a) (Vm.Alike.refl U.vm) qK, qD, ns_same qF⟩, va_recv hK hP (ci := 16) (q0 := 0) rfl rfl, fun U hU hW => ⟨rfl, by rw [hU], by rw [hU]; exact hPc, va_K.moved hW.alike hKc, hDc.weaken (fun _ _ _ _ => trivial), ns_call hF hS hFc hU hW⟩⟩ rfl rfl hl.1 rfl (lv_room (Nat.le_of_ble_eq_true rfl)) dX9_say_59 ⟨Nat.le_of_ble_eq_true rfl, Nat.le_of_ble_eq_true rfl⟩) hS (fun q _ h => hFc q h) hFc (fun q _ h => hFc q h) (fun E ce q9 u t H1 locs ht hvm hw hB hz1 hk1 hS hc1 hc2 hc3 => ?_) (fun _ _ _ _ _ _ hw _ _ _ _ => False.elim hw)
  obtain rfl : E = "java/lang/IllegalArgumentException" := hB
  exact vx_out (fun x hx => (hnox x hx).elim) hlocks hc1 hc2 hc3 (fun t9 ht9 hal => ⟨(), trivial, rfl, hS.F ht9⟩) hS.2.2 (Nat.le_of_ble_eq_true rfl) (Nat.le_of_ble_eq_true rfl)
set_option maxHeartbeats 4000000 in
set_option maxRecDepth 100000 in
theorem kX3_addText_9 (l : Launch) (dC : Nat → ClassId) (dI : Nat → Nat → Nat) (g : Nat → Nat) (sz : Nat) (h0 : Nat) (h1 : Nat) (h2 : Nat) (h3 : Nat) (h4 : Nat) (h5 : Nat) (h6 : Nat) (h7 : Nat) (h8 : Nat) (h9 : Nat) (h10 : Nat) (h11 : Nat) (h12 : Nat) (h13 : Nat) (v0 : Value) (v1 : Value) (v2 : Value) (cc0 : ClassId) (f0 : Nat → Int32) (cc1 : ClassId) (f1 : Nat → Int32) (cc2 : ClassId) (f2 : Nat → Int32) (cc3 : ClassId) (f3 : Nat → Int32) (cc4 : ClassId) (f4 : Nat → Int32) (cc5 : ClassId) (f5 : Nat → Int32) : Met l yX3_addText wbX3_addText ({ frames := 2, cells := 0, slots := 0, locals := 47 }) (va_Pc [.ref h0, .int 9] (fun U => U.heap.size = sz ∧ va_P (dC, dI) vwCl [(h0, .inr (10, [v0, .ref h2, .ref h4, .ref h6, .ref h8, .ref h10, .ref h12, v1, .ref h1])), (h1, .inr (11, [v2, .int 9])), (h2, .inr (11, [.ref h3, .int 0])), (h3, .inl (cc0, 4960, .inl f0)), (h4, .inr (11, [.ref h5, .int 0])), (h5, .inl (cc1, 4960, .inl f1)), (h6, .inr (11, [.ref h7, .int 0])), (h7, .inl (cc2, 4960, .inl f2)), (h8, .inr (11, [.ref h9, .int 0])), (h9, .inl (cc3, 4960, .inl f3)), (h10, .inr (11, [.ref h11, .int 0])), (h11, .inl (cc4, 4960, .inl f4)), (h12, .inr (11, [.ref h13, .int 0])), (h13, .inl (cc5, 4960, .inl f5))] U.heap ∧ va_K (dC, dI) vwCl [(cc0, .int), (cc1, .int), (cc2, .int), (cc3, .int), (cc4, .int), (cc5, .int)] U ∧ va_D (fun _ => True) [(h0, .inr (10, [v0, .ref h2, .ref h4, .ref h6, .ref h8, .ref h10, .ref h12, v1, .ref h1])), (h1, .inr (11, [v2, .int 9])), (h2, .inr (11, [.ref h3, .int 0])), (h3, .inl (cc0, 4960, .inl f0)), (h4, .inr (11, [.ref h5, .int 0])), (h5, .inl (cc1, 4960, .inl f1)), (h6, .inr (11, [.ref h7, .int 0])), (h7, .inl (cc2, 4960, .inl f2)), (h8, .inr (11, [.ref h9, .int 0])), (h9, .inl (cc3, 4960, .inl f3)), (h10, .inr (11, [.ref h11, .int 0])), (h11, .inl (cc4, 4960, .inl f4)), (h12, .inr (11, [.ref h13, .int 0])), (h13, .inl (cc5, 4960, .inl f5))] ∧ ns_F g (va_A [(h0, .inr (10, [v0, .ref h2, .ref h4, .ref h6, .ref h8, .ref h10, .ref h12, v1, .ref h1])), (h1, .inr (11, [v2, .int 9])), (h2, .inr (11, [.ref h3, .int 0])), (h3, .inl (cc0, 4960, .inl f0)), (h4, .inr (11, [.ref h5, .int 0])), (h5, .inl (cc1, 4960, .inl f1)), (h6, .inr (11, [.ref h7, .int 0])), (h7, .inl (cc2, 4960, .inl f2)), (h8, .inr (11, [.ref h9, .int 0])), (h9, .inl (cc3, 4960, .inl f3)), (h10, .inr (11, [.ref h11, .int 0])), (h11, .inl (cc4, 4960, .inl f4)), (h12, .inr (11, [.ref h13, .int 0])), (h13, .inl (cc5, 4960, .inl f5))] sz) U U.heap)) (va_Qi (fun (r : Int32) (_ : Unit) => r = 0) (fun _ t => va_P (dC, dI) vwCl [(h1, .inr (11, [v2, .int 9])), (h0, .inr (10, [v0, .ref h2, .ref h4, .ref h6, .ref h8, .ref h10, .ref h12, v1, .ref h1])), (h3, .inl (cc0, 4960, .inl (upd (f0) 0 0))), (h4, .inr (11, [.ref h5, .int 1])), (h5, .inl (cc1, 4960, .inl (upd (f1) 0 0))), (h6, .inr (11, [.ref h7, .int 1])), (h7, .inl (cc2, 4960, .inl (upd (f2) 0 9))), (h8, .inr (11, [.ref h9, .int 1])), (h9, .inl (cc3, 4960, .inl (upd (f3) 0 0))), (h10, .inr (11, [.ref h11, .int 1])), (h11, .inl (cc4, 4960, .inl (upd (f4) 0 1))), (h12, .inr (11, [.ref h13, .int 1])), (h13, .inl (cc5, 4960, .inl (upd (f5) 0 1))), (h2, .inr (11, [.ref h3, .int 1]))] t.heap ∧ va_K (dC, dI) vwCl [(cc0, .int), (cc1, .int), (cc2, .int), (cc3, .int), (cc4, .int), (cc5, .int)] t ∧ va_D (va_A [(h0, .inr (10, [v0, .ref h2, .ref h4, .ref h6, .ref h8, .ref h10, .ref h12, v1, .ref h1])), (h1, .inr (11, [v2, .int 9])), (h2, .inr (11, [.ref h3, .int 0])), (h3, .inl (cc0, 4960, .inl f0)), (h4, .inr (11, [.ref h5, .int 0])), (h5, .inl (cc1, 4960, .inl f1)), (h6, .inr (11, [.ref h7, .int 0])), (h7, .inl (cc2, 4960, .inl f2)), (h8, .inr (11, [.ref h9, .int 0])), (h9, .inl (cc3, 4960, .inl f3)), (h10, .inr (11, [.ref h11, .int 0])), (h11, .inl (cc4, 4960, .inl f4)), (h12, .inr (11, [.ref h13, .int 0])), (h13, .inl (cc5, 4960, .inl f5))] sz) [(h1, .inr (11, [v2, .int 9])), (h0, .inr (10, [v0, .ref h2, .ref h4, .ref h6, .ref h8, .ref h10, .ref h12, v1, .ref h1])), (h3, .inl (cc0, 4960, .inl (upd (f0) 0 0))), (h4, .inr (11, [.ref h5, .int 1])), (h5, .inl (cc1, 4960, .inl (upd (f1) 0 0))), (h6, .inr (11, [.ref h7, .int 1])), (h7, .inl (cc2, 4960, .inl (upd (f2) 0 9))), (h8, .inr (11, [.ref h9, .int 1])), (h9, .inl (cc3, 4960, .inl (upd (f3) 0 0))), (h10, .inr (11, [.ref h11, .int 1])), (h11, .inl (cc4, 4960, .inl (upd (f4) 0 1))), (h12, .inr (11, [.ref h13, .int 1])), (h13, .inl (cc5, 4960, .inl (upd (f5) 0 1))), (h2, .inr (11, [.ref h3, .int 1]))]) (va_A [(h0, .inr (10, [v0, .ref h2, .ref h4, .ref h6, .ref h8, .ref h10, .ref h12, v1, .ref h1])), (h1, .inr (11, [v2, .int 9])), (h2, .inr (11, [.ref h3, .int 0])), (h3, .inl (cc0, 4960, .inl f0)), (h4, .inr (11, [.ref h5, .int 0])), (h5, .inl (cc1, 4960, .inl f1)), (h6, .inr (11, [.ref h7, .int 0])), (h7, .inl (cc2, 4960, .inl f2)), (h8, .inr (11, [.ref h9, .int 0])), (h9, .inl (cc3, 4960, .inl f3)), (h10, .inr (11, [.ref h11, .int 0])), (h11, .inl (cc4, 4960, .inl f4)), (h12, .inr (11, [.ref h13, .int 0])), (h13, .inl (cc5, 4960, .inl f5))] sz)) 0 0 (va_A [(h0, .inr (10, [v0, .ref h2, .ref h4, .ref h6, .ref h8, .ref h10, .ref h12, v1, .ref h1])), (h1, .inr (11, [v2, .int 9])), (h2, .inr (11, [.ref h3, .int 0])), (h3, .inl (cc0, 4960, .inl f0)), (h4, .inr (11, [.ref h5, .int 0])), (h5, .inl (cc1, 4960, .inl f1)), (h6, .inr (11, [.ref h7, .int 0])), (h7, .inl (cc2, 4960, .inl f2)), (h8, .inr (11, [.ref h9, .int 0])), (h9, .inl (cc3, 4960, .inl f3)), (h10, .inr (11, [.ref h11, .int 0])), (h11, .inl (cc4, 4960, .inl f4)), (h12, .inr (11, [.ref h13, .int 0])), (h13, .inl (cc5, 4960, .inl f5))] sz) := by
  refine Met.ofW (cc := cX3_addText) (maxL := 2) (ret := (some .int)) (by decide) rfl ?_
  intro p e s m args below meth c s₁ B hml hv
  obtain ⟨rfl, hsz, hP, hK, hD0, hF⟩ := hv
  have hx := B.exec
  have hb := B.bytes
  have hr := B.returns
  have hts := atoms_spec (ws := wbX3_addText) B.pre
  have hta : ∀ w ∈ wsALL, w.before _ s = true := fun w h => hts w (List.mem_cons_of_mem _ h)
  have hown : s.vm.findClass RX3 = some m.cls := findClass_of_methodNamed B.named
  have hlocks := B.notSynchronized
  subst hsz
  have hD := hD0.self (sz := s.heap.size)
  generalize hAe : va_A [(h0, .inr (10, [v0, .ref h2, .ref h4, .ref h6, .ref h8, .ref h10, .ref h12, v1, .ref h1])), (h1, .inr (11, [v2, .int 9])), (h2, .inr (11, [.ref h3, .int 0])), (h3, .inl (cc0, 4960, .inl f0)), (h4, .inr (11, [.ref h5, .int 0])), (h5, .inl (cc1, 4960, .inl f1)), (h6, .inr (11, [.ref h7, .int 0])), (h7, .inl (cc2, 4960, .inl f2)), (h8, .inr (11, [.ref h9, .int 0])), (h9, .inl (cc3, 4960, .inl f3)), (h10, .inr (11, [.ref h11, .int 0])), (h11, .inl (cc4, 4960, .inl f4)), (h12, .inr (11, [.ref h13, .int 0])), (h13, .inl (cc5, 4960, .inl f5))] s.heap.size = A at hD hF ⊢
  have hA : ∀ q : Nat, s.heap.size ≤ q → A q := fun q h => by rw [← hAe]; exact Or.inr h
  have hS : va_S A s.heap s.heap [] := va_S.rf
  have hP : va_P (dC, dI) vwCl [(h0, .inr (10, [v0, .ref h2, .ref h4, .ref h6, .ref h8, .ref h10, .ref h12, v1, .ref h1])), (h1, .inr (11, [v2, .int 9])), (h2, .inr (11, [.ref h3, .int 0])), (h3, .inl (cc0, 4960, .inl f0)), (h4, .inr (11, [.ref h5, .int 0])), (h5, .inl (cc1, 4960, .inl f1)), (h6, .inr (11, [.ref h7, .int 0])), (h7, .inl (cc2, 4960, .inl f2)), (h8, .inr (11, [.ref h9, .int 0])), (h9, .inl (cc3, 4960, .inl f3)), (h10, .inr (11, [.ref h11, .int 0])), (h11, .inl (cc4, 4960, .inl f4)), (h12, .inr (11, [.ref h13, .int 0])), (h13, .inl (cc5, 4960, .inl f5))] s.heap := hP
  have hl := lv_entry ([.ref h0, .int 9]) (n := 2) (Nat.le_of_ble_eq_true rfl)
  rw [lg_entry_eq]
  generalize (lg_sl ([.ref h0, .int 9]) ++ List.replicate (2 - (lg_sl ([.ref h0, .int 9])).length) Slot.unset).toArray = ls at hl ⊢
  have hl : lv_has ls 2 [(0, .ref h0), (1, .int 9)] := hl
  refine lv_aload_n hx hb dX3_addText_0 rfl (lv_at hl 0 rfl) ?_
  refine lv_iconst (v := 0) hx hb dX3_addText_1 (by decide) ?_
  refine lv_aload_n hx hb dX3_addText_2 rfl (lv_at hl 0 rfl) ?_
  refine va_get (D := (dC, dI)) (ci := 10) (v := .ref h1) (C := RX3) (T := TX3) (N := 9) hx hb hta naX3 hown hK hP 0 rfl rfl 8 (by decide) (hta _ wm26) (fun _ h9 => h9) rfl dX3_addText_3 ?_
  have hPc := hP.sub (ws' := [(h1, .inr (11, [v2, .int 9]))]) [1] rfl
  have hDc := hD.sub (ws' := [(h1, .inr (11, [v2, .int 9]))]) [1] (by decide) rfl
  have hKc := hK.sub (tys' := []) [] rfl
  have hFc := va_free (wc := [(h1, .inr (11, [v2, .int 9]))]) hD hS hA [1] rfl
  refine va_calli (va_runV (As := []) (rest := [.int 0, .ref h0]) ⟨hx, hb, hml, hown, hts⟩ (kX4_size_10 l dC dI g s.heap.size h1 v2 ) (cwV 0 hts (ns_gp (List.forall_mem_cons.mpr ⟨wm248, (List.forall_mem_cons.mpr ⟨wm249, (List.forall_mem_cons.mpr ⟨wm250, (List.forall_mem_cons.mpr ⟨wm12, (fun _ h9 => nomatch h9)⟩)⟩)⟩)⟩) wm247) rfl rfl rfl (by decide +kernel) ⟨Nat.le_of_ble_eq_true rfl, Nat.le_of_ble_eq_true rfl⟩) ⟨fun a U gg mk q => by obtain ⟨q0, q1, qP, qK, qD, qF⟩ := q; exact ⟨q0, q1, qP, va_K.moved (u := U) (U := U.calling gg mk a) (Vm.Alike.refl U.vm) qK, qD, ns_same qF⟩, va_recv hK hP (ci := 11) (q0 := 1) rfl rfl, fun U hU hW => ⟨rfl, by rw [hU], by rw [hU]; exact hPc, va_K.moved hW.alike hKc, hDc.weaken (fun _ _ _ _ => trivial), ns_call hF hS hFc hU hW⟩⟩ rfl rfl hl.1 rfl (lv_room (Nat.le_of_ble_eq_true rfl)) dX3_addText_6 ⟨Nat.le_of_ble_eq_true rfl, Nat.le_of_ble_eq_true rfl⟩) hS (fun q _ h => hFc q h) hFc (fun r9 u t H1 locs ht hvm hw hB hz1 hk1 hS => ?_)
  obtain rfl := hw.symm
  obtain ⟨hP1, hK1, hD1⟩ := hB
  rw [ht] at hP1
  have hK1 := va_K.moved hvm.symm hK1
  obtain ⟨hP, hD⟩ := va_join (wr := [(h0, .inr (10, [v0, .ref h2, .ref h4, .ref h6, .ref h8, .ref h10, .ref h12, v1, .ref h1])), (h2, .inr (11, [.ref h3, .int 0])), (h3, .inl (cc0, 4960, .inl f0)), (h4, .inr (11, [.ref h5, .int 0])), (h5, .inl (cc1, 4960, .inl f1)), (h6, .inr (11, [.ref h7, .int 0])), (h7, .inl (cc2, 4960, .inl f2)), (h8, .inr (11, [.ref h9, .int 0])), (h9, .inl (cc3, 4960, .inl f3)), (h10, .inr (11, [.ref h11, .int 0])), (h11, .inl (cc4, 4960, .inl f4)), (h12, .inr (11, [.ref h13, .int 0])), (h13, .inl (cc5, 4960, .inl f5))]) (w1 := [(h1, .inr (11, [v2, .int 9]))]) hP hD [1] [0, 2, 3, 4, 5, 6, 7, 8, 9, 10, 11, 12, 13] rfl rfl (by decide) (by decide) hk1 hFc hP1 hD1
  have hK := (hK.sub (tys' := [(cc0, .int), (cc1, .int), (cc2, .int), (cc3, .int), (cc4, .int), (cc5, .int)]) [0, 1, 2, 3, 4, 5] rfl).app hK1
  generalize H1 = H at hP hS ⊢
  have hP : va_P (dC, dI) vwCl [(h0, .inr (10, [v0, .ref h2, .ref h4, .ref h6, .ref h8, .ref h10, .ref h12, v1, .ref h1])), (h2, .inr (11, [.ref h3, .int 0])), (h3, .inl (cc0, 4960, .inl f0)), (h4, .inr (11, [.ref h5, .int 0])), (h5, .inl (cc1, 4960, .inl f1)), (h6, .inr (11, [.ref h7, .int 0])), (h7, .inl (cc2, 4960, .inl f2)), (h8, .inr (11, [.ref h9, .int 0])), (h9, .inl (cc3, 4960, .inl f3)), (h10, .inr (11, [.ref h11, .int 0])), (h11, .inl (cc4, 4960, .inl f4)), (h12, .inr (11, [.ref h13, .int 0])), (h13, .inl (cc5, 4960, .inl f5)), (h1, .inr (11, [v2, .int 9]))] H := hP
  have hD : va_D A [(h0, .inr (10, [v0, .ref h2, .ref h4, .ref h6, .ref h8, .ref h10, .ref h12, v1, .ref h1])), (h2, .inr (11, [.ref h3, .int 0])), (h3, .inl (cc0, 4960, .inl f0)), (h4, .inr (11, [.ref h5, .int 0])), (h5, .inl (cc1, 4960, .inl f1)), (h6, .inr (11, [.ref h7, .int 0])), (h7, .inl (cc2, 4960, .inl f2)), (h8, .inr (11, [.ref h9, .int 0])), (h9, .inl (cc3, 4960, .inl f3)), (h10, .inr (11, [.ref h11, .int 0])), (h11, .inl (cc4, 4960, .inl f4)), (h12, .inr (11, [.ref h13, .int 0])), (h13, .inl (cc5, 4960, .inl f5)), (h1, .inr (11, [v2, .int 9]))] := hD
  have hK : va_K (dC, dI) vwCl [(cc0, .int), (cc1, .int), (cc2, .int), (cc3, .int), (cc4, .int), (cc5, .int)] s := hK
  refine W.widen (k := 0) (n := 0) (Nat.le_of_ble_eq_true rfl) (Nat.le_of_ble_eq_true rfl) ?_
  refine lv_iload_n hx hb dX3_addText_9 rfl (lv_at hl 1 rfl) ?_
  refine lv_isub hx hb dX3_addText_10 ?_
  refine lv_topi (fun y1 ey1 => ?_)
  obtain rfl : y1 = 0 := ey1.trans (by decide)
  refine lv_iload_n hx hb dX3_addText_11 rfl (lv_at hl 1 rfl) ?_
  refine lv_iconst (v := 0) hx hb dX3_addText_12 (by decide) ?_
  refine lv_iconst (v := 1) hx hb dX3_addText_13 (by decide) ?_
  refine lv_iconst (v := 1) hx hb dX3_addText_14 (by decide) ?_
  have hPc := hP.sub (ws' := [(h0, .inr (10, [v0, .ref h2, .ref h4, .ref h6, .ref h8, .ref h10, .ref h12, v1, .ref h1])), (h2, .inr (11, [.ref h3, .int 0])), (h3, .inl (cc0, 4960, .inl f0)), (h4, .inr (11, [.ref h5, .int 0])), (h5, .inl (cc1, 4960, .inl f1)), (h6, .inr (11, [.ref h7, .int 0])), (h7, .inl (cc2, 4960, .inl f2)), (h8, .inr (11, [.ref h9, .int 0])), (h9, .inl (cc3, 4960, .inl f3)), (h10, .inr (11, [.ref h11, .int 0])), (h11, .inl (cc4, 4960, .inl f4)), (h12, .inr (11, [.ref h13, .int 0])), (h13, .inl (cc5, 4960, .inl f5))]) [0, 1, 2, 3, 4, 5, 6, 7, 8, 9, 10, 11, 12] rfl
  have hDc := hD.sub (ws' := [(h0, .inr (10, [v0, .ref h2, .ref h4, .ref h6, .ref h8, .ref h10, .ref h12, v1, .ref h1])), (h2, .inr (11, [.ref h3, .int 0])), (h3, .inl (cc0, 4960, .inl f0)), (h4, .inr (11, [.ref h5, .int 0])), (h5, .inl (cc1, 4960, .inl f1)), (h6, .inr (11, [.ref h7, .int 0])), (h7, .inl (cc2, 4960, .inl f2)), (h8, .inr (11, [.ref h9, .int 0])), (h9, .inl (cc3, 4960, .inl f3)), (h10, .inr (11, [.ref h11, .int 0])), (h11, .inl (cc4, 4960, .inl f4)), (h12, .inr (11, [.ref h13, .int 0])), (h13, .inl (cc5, 4960, .inl f5))]) [0, 1, 2, 3, 4, 5, 6, 7, 8, 9, 10, 11, 12] (by decide) rfl
  have hKc := hK.sub (tys' := [(cc0, .int), (cc1, .int), (cc2, .int), (cc3, .int), (cc4, .int), (cc5, .int)]) [0, 1, 2, 3, 4, 5] rfl
  have hFc := va_free (wc := [(h0, .inr (10, [v0, .ref h2, .ref h4, .ref h6, .ref h8, .ref h10, .ref h12, v1, .ref h1])), (h2, .inr (11, [.ref h3, .int 0])), (h3, .inl (cc0, 4960, .inl f0)), (h4, .inr (11, [.ref h5, .int 0])), (h5, .inl (cc1, 4960, .inl f1)), (h6, .inr (11, [.ref h7, .int 0])), (h7, .inl (cc2, 4960, .inl f2)), (h8, .inr (11, [.ref h9, .int 0])), (h9, .inl (cc3, 4960, .inl f3)), (h10, .inr (11, [.ref h11, .int 0])), (h11, .inl (cc4, 4960, .inl f4)), (h12, .inr (11, [.ref h13, .int 0])), (h13, .inl (cc5, 4960, .inl f5))]) hD hS hA [0, 1, 2, 3, 4, 5, 6, 7, 8, 9, 10, 11, 12] rfl
  refine va_calli (va_runV (As := [.int 0, .int 0, .int 9, .int 0, .int 1, .int 1]) (rest := []) ⟨hx, hb, hml, hown, hts⟩ (kX3_addPlace_9 l dC dI g H.size h0 h2 h3 h4 h5 h6 h7 h8 h9 h10 h11 h12 h13 v0 v1 (.ref h1) cc0 f0 cc1 f1 cc2 f2 cc3 f3 cc4 f4 cc5 f5 ) (cwV 6 hts (ns_gp (List.forall_mem_cons.mpr ⟨wm262, (List.forall_mem_cons.mpr ⟨wm263, (List.forall_mem_cons.mpr ⟨wm264, (List.forall_mem_cons.mpr ⟨wm8, (fun _ h9 => nomatch h9)⟩)⟩)⟩)⟩) wm261) rfl rfl rfl (by decide +kernel) ⟨Nat.le_of_ble_eq_true rfl, Nat.le_of_ble_eq_true rfl⟩) ⟨fun a U gg mk q => by obtain ⟨q0, q1, qP, qK, qD, qF⟩ := q; exact ⟨q0, q1, qP, va_K.moved (u := U) (U := U.calling gg mk a) (Vm.Alike.refl U.vm) qK, qD, ns_same qF⟩, va_recv hK hP (ci := 10) (q0 := 0) rfl rfl, fun U hU hW => ⟨rfl, by rw [hU], by rw [hU]; exact hPc, va_K.moved hW.alike hKc, hDc.weaken (fun _ _ _ _ => trivial), ns_call hF hS hFc hU hW⟩⟩ rfl rfl hl.1 rfl (lv_room (Nat.le_of_ble_eq_true rfl)) dX3_addText_15 ⟨Nat.le_of_ble_eq_true rfl, Nat.le_of_ble_eq_true rfl⟩) hS (fun q _ h => hFc q h) hFc (fun r9 u t H1 locs ht hvm hw hB hz1 hk1 hS => ?_)
  obtain rfl := hw.symm
  obtain ⟨hP1, hK1, hD1⟩ := hB
  rw [ht] at hP1
  have hK1 := va_K.moved hvm.symm hK1
  obtain ⟨hP, hD⟩ := va_join (wr := [(h1, .inr (11, [v2, .int 9]))]) (w1 := [(h0, .inr (10, [v0, .ref h2, .ref h4, .ref h6, .ref h8, .ref h10, .ref h12, v1, .ref h1])), (h3, .inl (cc0, 4960, .inl (upd (f0) 0 0))), (h4, .inr (11, [.ref h5, .int 1])), (h5, .inl (cc1, 4960, .inl (upd (f1) 0 0))), (h6, .inr (11, [.ref h7, .int 1])), (h7, .inl (cc2, 4960, .inl (upd (f2) 0 9))), (h8, .inr (11, [.ref h9, .int 1])), (h9, .inl (cc3, 4960, .inl (upd (f3) 0 0))), (h10, .inr (11, [.ref h11, .int 1])), (h11, .inl (cc4, 4960, .inl (upd (f4) 0 1))), (h12, .inr (11, [.ref h13, .int 1])), (h13, .inl (cc5, 4960, .inl (upd (f5) 0 1))), (h2, .inr (11, [.ref h3, .int 1]))]) hP hD [0, 1, 2, 3, 4, 5, 6, 7, 8, 9, 10, 11, 12] [13] rfl rfl (by decide) (by decide) hk1 hFc hP1 hD1
  have hK := (hK.sub (tys' := []) [] rfl).app hK1
  generalize H1 = H at hP hS ⊢
  have hP : va_P (dC, dI) vwCl [(h1, .inr (11, [v2, .int 9])), (h0, .inr (10, [v0, .ref h2, .ref h4, .ref h6, .ref h8, .ref h10, .ref h12, v1, .ref h1])), (h3, .inl (cc0, 4960, .inl (upd (f0) 0 0))), (h4, .inr (11, [.ref h5, .int 1])), (h5, .inl (cc1, 4960, .inl (upd (f1) 0 0))), (h6, .inr (11, [.ref h7, .int 1])), (h7, .inl (cc2, 4960, .inl (upd (f2) 0 9))), (h8, .inr (11, [.ref h9, .int 1])), (h9, .inl (cc3, 4960, .inl (upd (f3) 0 0))), (h10, .inr (11, [.ref h11, .int 1])), (h11, .inl (cc4, 4960, .inl (upd (f4) 0 1))), (h12, .inr (11, [.ref h13, .int 1])), (h13, .inl (cc5, 4960, .inl (upd (f5) 0 1))), (h2, .inr (11, [.ref h3, .int 1]))] H := hP
  have hD : va_D A [(h1, .inr (11, [v2, .int 9])), (h0, .inr (10, [v0, .ref h2, .ref h4, .ref h6, .ref h8, .ref h10, .ref h12, v1, .ref h1])), (h3, .inl (cc0, 4960, .inl (upd (f0) 0 0))), (h4, .inr (11, [.ref h5, .int 1])), (h5, .inl (cc1, 4960, .inl (upd (f1) 0 0))), (h6, .inr (11, [.ref h7, .int 1])), (h7, .inl (cc2, 4960, .inl (upd (f2) 0 9))), (h8, .inr (11, [.ref h9, .int 1])), (h9, .inl (cc3, 4960, .inl (upd (f3) 0 0))), (h10, .inr (11, [.ref h11, .int 1])), (h11, .inl (cc4, 4960, .inl (upd (f4) 0 1))), (h12, .inr (11, [.ref h13, .int 1])), (h13, .inl (cc5, 4960, .inl (upd (f5) 0 1))), (h2, .inr (11, [.ref h3, .int 1]))] := hD
  have hK : va_K (dC, dI) vwCl [(cc0, .int), (cc1, .int), (cc2, .int), (cc3, .int), (cc4, .int), (cc5, .int)] s := hK
  refine W.widen (k := 0) (n := 0) (Nat.le_of_ble_eq_true rfl) (Nat.le_of_ble_eq_true rfl) ?_
  have hP9 := hP.sub (ws' := [(h1, .inr (11, [v2, .int 9])), (h0, .inr (10, [v0, .ref h2, .ref h4, .ref h6, .ref h8, .ref h10, .ref h12, v1, .ref h1])), (h3, .inl (cc0, 4960, .inl (upd (f0) 0 0))), (h4, .inr (11, [.ref h5, .int 1])), (h5, .inl (cc1, 4960, .inl (upd (f1) 0 0))), (h6, .inr (11, [.ref h7, .int 1])), (h7, .inl (cc2, 4960, .inl (upd (f2) 0 9))), (h8, .inr (11, [.ref h9, .int 1])), (h9, .inl (cc3, 4960, .inl (upd (f3) 0 0))), (h10, .inr (11, [.ref h11, .int 1])), (h11, .inl (cc4, 4960, .inl (upd (f4) 0 1))), (h12, .inr (11, [.ref h13, .int 1])), (h13, .inl (cc5, 4960, .inl (upd (f5) 0 1))), (h2, .inr (11, [.ref h3, .int 1]))]) [0, 1, 2, 3, 4, 5, 6, 7, 8, 9, 10, 11, 12, 13] rfl
  have hD9 := hD.sub (ws' := [(h1, .inr (11, [v2, .int 9])), (h0, .inr (10, [v0, .ref h2, .ref h4, .ref h6, .ref h8, .ref h10, .ref h12, v1, .ref h1])), (h3, .inl (cc0, 4960, .inl (upd (f0) 0 0))), (h4, .inr (11, [.ref h5, .int 1])), (h5, .inl (cc1, 4960, .inl (upd (f1) 0 0))), (h6, .inr (11, [.ref h7, .int 1])), (h7, .inl (cc2, 4960, .inl (upd (f2) 0 9))), (h8, .inr (11, [.ref h9, .int 1])), (h9, .inl (cc3, 4960, .inl (upd (f3) 0 0))), (h10, .inr (11, [.ref h11, .int 1])), (h11, .inl (cc4, 4960, .inl (upd (f4) 0 1))), (h12, .inr (11, [.ref h13, .int 1])), (h13, .inl (cc5, 4960, .inl (upd (f5) 0 1))), (h2, .inr (11, [.ref h3, .int 1]))]) [0, 1, 2, 3, 4, 5, 6, 7, 8, 9, 10, 11, 12, 13] (by decide) rfl
  have hK9 := hK.sub (tys' := [(cc0, .int), (cc1, .int), (cc2, .int), (cc3, .int), (cc4, .int), (cc5, .int)]) [0, 1, 2, 3, 4, 5] rfl
  refine W.widen (k := 0) (n := 0) (Nat.le_of_ble_eq_true rfl) (Nat.le_of_ble_eq_true rfl) ?_
  exact W.iret (v := 0) hx hb hr (fun t ht hW => ⟨⟨_, (), rfl, rfl, by rw [ht]; exact hP9, va_K.moved hW.alike hK9, hD9⟩, hS.F ht⟩) hS.2.2 dX3_addText_18
set_option maxHeartbeats 4000000 in
set_option maxRecDepth 100000 in
theorem kX3_addText_8 (l : Launch) (dC : Nat → ClassId) (dI : Nat → Nat → Nat) (g : Nat → Nat) (sz : Nat) (h0 : Nat) (h1 : Nat) (h2 : Nat) (h3 : Nat) (h4 : Nat) (h5 : Nat) (h6 : Nat) (h7 : Nat) (h8 : Nat) (h9 : Nat) (h10 : Nat) (h11 : Nat) (h12 : Nat) (h13 : Nat) (v0 : Value) (v1 : Value) (v2 : Value) (cc0 : ClassId) (f0 : Nat → Int32) (cc1 : ClassId) (f1 : Nat → Int32) (cc2 : ClassId) (f2 : Nat → Int32) (cc3 : ClassId) (f3 : Nat → Int32) (cc4 : ClassId) (f4 : Nat → Int32) (cc5 : ClassId) (f5 : Nat → Int32) : Met l yX3_addText wbX3_addText ({ frames := 2, cells := 0, slots := 0, locals := 47 }) (va_Pc [.ref h0, .int 8] (fun U => U.heap.size = sz ∧ va_P (dC, dI) vwCl [(h0, .inr (10, [v0, .ref h2, .ref h4, .ref h6, .ref h8, .ref h10, .ref h12, v1, .ref h1])), (h1, .inr (11, [v2, .int 8])), (h2, .inr (11, [.ref h3, .int 0])), (h3, .inl (cc0, 4960, .inl f0)), (h4, .inr (11, [.ref h5, .int 0])), (h5, .inl (cc1, 4960, .inl f1)), (h6, .inr (11, [.ref h7, .int 0])), (h7, .inl (cc2, 4960, .inl f2)), (h8, .inr (11, [.ref h9, .int 0])), (h9, .inl (cc3, 4960, .inl f3)), (h10, .inr (11, [.ref h11, .int 0])), (h11, .inl (cc4, 4960, .inl f4)), (h12, .inr (11, [.ref h13, .int 0])), (h13, .inl (cc5, 4960, .inl f5))] U.heap ∧ va_K (dC, dI) vwCl [(cc0, .int), (cc1, .int), (cc2, .int), (cc3, .int), (cc4, .int), (cc5, .int)] U ∧ va_D (fun _ => True) [(h0, .inr (10, [v0, .ref h2, .ref h4, .ref h6, .ref h8, .ref h10, .ref h12, v1, .ref h1])), (h1, .inr (11, [v2, .int 8])), (h2, .inr (11, [.ref h3, .int 0])), (h3, .inl (cc0, 4960, .inl f0)), (h4, .inr (11, [.ref h5, .int 0])), (h5, .inl (cc1, 4960, .inl f1)), (h6, .inr (11, [.ref h7, .int 0])), (h7, .inl (cc2, 4960, .inl f2)), (h8, .inr (11, [.ref h9, .int 0])), (h9, .inl (cc3, 4960, .inl f3)), (h10, .inr (11, [.ref h11, .int 0])), (h11, .inl (cc4, 4960, .inl f4)), (h12, .inr (11, [.ref h13, .int 0])), (h13, .inl (cc5, 4960, .inl f5))] ∧ ns_F g (va_A [(h0, .inr (10, [v0, .ref h2, .ref h4, .ref h6, .ref h8, .ref h10, .ref h12, v1, .ref h1])), (h1, .inr (11, [v2, .int 8])), (h2, .inr (11, [.ref h3, .int 0])), (h3, .inl (cc0, 4960, .inl f0)), (h4, .inr (11, [.ref h5, .int 0])), (h5, .inl (cc1, 4960, .inl f1)), (h6, .inr (11, [.ref h7, .int 0])), (h7, .inl (cc2, 4960, .inl f2)), (h8, .inr (11, [.ref h9, .int 0])), (h9, .inl (cc3, 4960, .inl f3)), (h10, .inr (11, [.ref h11, .int 0])), (h11, .inl (cc4, 4960, .inl f4)), (h12, .inr (11, [.ref h13, .int 0])), (h13, .inl (cc5, 4960, .inl f5))] sz) U U.heap)) (va_Qi (fun (r : Int32) (_ : Unit) => r = 0) (fun _ t => va_P (dC, dI) vwCl [(h1, .inr (11, [v2, .int 8])), (h0, .inr (10, [v0, .ref h2, .ref h4, .ref h6, .ref h8, .ref h10, .ref h12, v1, .ref h1])), (h3, .inl (cc0, 4960, .inl (upd (f0) 0 0))), (h4, .inr (11, [.ref h5, .int 1])), (h5, .inl (cc1, 4960, .inl (upd (f1) 0 0))), (h6, .inr (11, [.ref h7, .int 1])), (h7, .inl (cc2, 4960, .inl (upd (f2) 0 8))), (h8, .inr (11, [.ref h9, .int 1])), (h9, .inl (cc3, 4960, .inl (upd (f3) 0 0))), (h10, .inr (11, [.ref h11, .int 1])), (h11, .inl (cc4, 4960, .inl (upd (f4) 0 1))), (h12, .inr (11, [.ref h13, .int 1])), (h13, .inl (cc5, 4960, .inl (upd (f5) 0 1))), (h2, .inr (11, [.ref h3, .int 1]))] t.heap ∧ va_K (dC, dI) vwCl [(cc0, .int), (cc1, .int), (cc2, .int), (cc3, .int), (cc4, .int), (cc5, .int)] t ∧ va_D (va_A [(h0, .inr (10, [v0, .ref h2, .ref h4, .ref h6, .ref h8, .ref h10, .ref h12, v1, .ref h1])), (h1, .inr (11, [v2, .int 8])), (h2, .inr (11, [.ref h3, .int 0])), (h3, .inl (cc0, 4960, .inl f0)), (h4, .inr (11, [.ref h5, .int 0])), (h5, .inl (cc1, 4960, .inl f1)), (h6, .inr (11, [.ref h7, .int 0])), (h7, .inl (cc2, 4960, .inl f2)), (h8, .inr (11, [.ref h9, .int 0])), (h9, .inl (cc3, 4960, .inl f3)), (h10, .inr (11, [.ref h11, .int 0])), (h11, .inl (cc4, 4960, .inl f4)), (h12, .inr (11, [.ref h13, .int 0])), (h13, .inl (cc5, 4960, .inl f5))] sz) [(h1, .inr (11, [v2, .int 8])), (h0, .inr (10, [v0, .ref h2, .ref h4, .ref h6, .ref h8, .ref h10, .ref h12, v1, .ref h1])), (h3, .inl (cc0, 4960, .inl (upd (f0) 0 0))), (h4, .inr (11, [.ref h5, .int 1])), (h5, .inl (cc1, 4960, .inl (upd (f1) 0 0))), (h6, .inr (11, [.ref h7, .int 1])), (h7, .inl (cc2, 4960, .inl (upd (f2) 0 8))), (h8, .inr (11, [.ref h9, .int 1])), (h9, .inl (cc3, 4960, .inl (upd (f3) 0 0))), (h10, .inr (11, [.ref h11, .int 1])), (h11, .inl (cc4, 4960, .inl (upd (f4) 0 1))), (h12, .inr (11, [.ref h13, .int 1])), (h13, .inl (cc5, 4960, .inl (upd (f5) 0 1))), (h2, .inr (11, [.ref h3, .int 1]))]) (va_A [(h0, .inr (10, [v0, .ref h2, .ref h4, .ref h6, .ref h8, .ref h10, .ref h12, v1, .ref h1])), (h1, .inr (11, [v2, .int 8])), (h2, .inr (11, [.ref h3, .int 0])), (h3, .inl (cc0, 4960, .inl f0)), (h4, .inr (11, [.ref h5, .int 0])), (h5, .inl (cc1, 4960, .inl f1)), (h6, .inr (11, [.ref h7, .int 0])), (h7, .inl (cc2, 4960, .inl f2)), (h8, .inr (11, [.ref h9, .int 0])), (h9, .inl (cc3, 4960, .inl f3)), (h10, .inr (11, [.ref h11, .int 0])), (h11, .inl (cc4, 4960, .inl f4)), (h12, .inr (11, [.ref h13, .int 0])), (h13, .inl (cc5, 4960, .inl f5))] sz)) 0 0 (va_A [(h0, .inr (10, [v0, .ref h2, .ref h4, .ref h6, .ref h8, .ref h10, .ref h12, v1, .ref h1])), (h1, .inr (11, [v2, .int 8])), (h2, .inr (11, [.ref h3, .int 0])), (h3, .inl (cc0, 4960, .inl f0)), (h4, .inr (11, [.ref h5, .int 0])), (h5, .inl (cc1, 4960, .inl f1)), (h6, .inr (11, [.ref h7, .int 0])), (h7, .inl (cc2, 4960, .inl f2)), (h8, .inr (11, [.ref h9, .int 0])), (h9, .inl (cc3, 4960, .inl f3)), (h10, .inr (11, [.ref h11, .int 0])), (h11, .inl (cc4, 4960, .inl f4)), (h12, .inr (11, [.ref h13, .int 0])), (h13, .inl (cc5, 4960, .inl f5))] sz) := by
  refine Met.ofW (cc := cX3_addText) (maxL := 2) (ret := (some .int)) (by decide) rfl ?_
  intro p e s m args below meth c s₁ B hml hv
  obtain ⟨rfl, hsz, hP, hK, hD0, hF⟩ := hv
  have hx := B.exec
  have hb := B.bytes
  have hr := B.returns
  have hts := atoms_spec (ws := wbX3_addText) B.pre
  have hta : ∀ w ∈ wsALL, w.before _ s = true := fun w h => hts w (List.mem_cons_of_mem _ h)
  have hown : s.vm.findClass RX3 = some m.cls := findClass_of_methodNamed B.named
  have hlocks := B.notSynchronized
  subst hsz
  have hD := hD0.self (sz := s.heap.size)
  generalize hAe : va_A [(h0, .inr (10, [v0, .ref h2, .ref h4, .ref h6, .ref h8, .ref h10, .ref h12, v1, .ref h1])), (h1, .inr (11, [v2, .int 8])), (h2, .inr (11, [.ref h3, .int 0])), (h3, .inl (cc0, 4960, .inl f0)), (h4, .inr (11, [.ref h5, .int 0])), (h5, .inl (cc1, 4960, .inl f1)), (h6, .inr (11, [.ref h7, .int 0])), (h7, .inl (cc2, 4960, .inl f2)), (h8, .inr (11, [.ref h9, .int 0])), (h9, .inl (cc3, 4960, .inl f3)), (h10, .inr (11, [.ref h11, .int 0])), (h11, .inl (cc4, 4960, .inl f4)), (h12, .inr (11, [.ref h13, .int 0])), (h13, .inl (cc5, 4960, .inl f5))] s.heap.size = A at hD hF ⊢
  have hA : ∀ q : Nat, s.heap.size ≤ q → A q := fun q h => by rw [← hAe]; exact Or.inr h
  have hS : va_S A s.heap s.heap [] := va_S.rf
  have hP : va_P (dC, dI) vwCl [(h0, .inr (10, [v0, .ref h2, .ref h4, .ref h6, .ref h8, .ref h10, .ref h12, v1, .ref h1])), (h1, .inr (11, [v2, .int 8])), (h2, .inr (11, [.ref h3, .int 0])), (h3, .inl (cc0, 4960, .inl f0)), (h4, .inr (11, [.ref h5, .int 0])), (h5, .inl (cc1, 4960, .inl f1)), (h6, .inr (11, [.ref h7, .int 0])), (h7, .inl (cc2, 4960, .inl f2)), (h8, .inr (11, [.ref h9, .int 0])), (h9, .inl (cc3, 4960, .inl f3)), (h10, .inr (11, [.ref h11, .int 0])), (h11, .inl (cc4, 4960, .inl f4)), (h12, .inr (11, [.ref h13, .int 0])), (h13, .inl (cc5, 4960, .inl f5))] s.heap := hP
  have hl := lv_entry ([.ref h0, .int 8]) (n := 2) (Nat.le_of_ble_eq_true rfl)
  rw [lg_entry_eq]
  generalize (lg_sl ([.ref h0, .int 8]) ++ List.replicate (2 - (lg_sl ([.ref h0, .int 8])).length) Slot.unset).toArray = ls at hl ⊢
  have hl : lv_has ls 2 [(0, .ref h0), (1, .int 8)] := hl
  refine lv_aload_n hx hb dX3_addText_0 rfl (lv_at hl 0 rfl) ?_
  refine lv_iconst (v := 0) hx hb dX3_addText_1 (by decide) ?_
  refine lv_aload_n hx hb dX3_addText_2 rfl (lv_at hl 0 rfl) ?_
  refine va_get (D := (dC, dI)) (ci := 10) (v := .ref h1) (C := RX3) (T := TX3) (N := 9) hx hb hta naX3 hown hK hP 0 rfl rfl 8 (by decide) (hta _ wm26) (fun _ h9 => h9) rfl dX3_addText_3 ?_
  have hPc := hP.sub (ws' := [(h1, .inr (11, [v2, .int 8]))]) [1] rfl
  have hDc := hD.sub (ws' := [(h1, .inr (11, [v2, .int 8]))]) [1] (by decide) rfl
  have hKc := hK.sub (tys' := []) [] rfl
  have hFc := va_free (wc := [(h1, .inr (11, [v2, .int 8]))]) hD hS hA [1] rfl
  refine va_calli (va_runV (As := []) (rest := [.int 0, .ref h0]) ⟨hx, hb, hml, hown, hts⟩ (kX4_size_9 l dC dI g s.heap.size h1 v2 ) (cwV 0 hts (ns_gp (List.forall_mem_cons.mpr ⟨wm248, (List.forall_mem_cons.mpr ⟨wm249, (List.forall_mem_cons.mpr ⟨wm250, (List.forall_mem_cons.mpr ⟨wm12, (fun _ h9 => nomatch h9)⟩)⟩)⟩)⟩) wm247) rfl rfl rfl (by decide +kernel) ⟨Nat.le_of_ble_eq_true rfl, Nat.le_of_ble_eq_true rfl⟩) ⟨fun a U gg mk q => by obtain ⟨q0, q1, qP, qK, qD, qF⟩ := q; exact ⟨q0, q1, qP, va_K.moved (u := U) (U := U.calling gg mk a) (Vm.Alike.refl U.vm) qK, qD, ns_same qF⟩, va_recv hK hP (ci := 11) (q0 := 1) rfl rfl, fun U hU hW => ⟨rfl, by rw [hU], by rw [hU]; exact hPc, va_K.moved hW.alike hKc, hDc.weaken (fun _ _ _ _ => trivial), ns_call hF hS hFc hU hW⟩⟩ rfl rfl hl.1 rfl (lv_room (Nat.le_of_ble_eq_true rfl)) dX3_addText_6 ⟨Nat.le_of_ble_eq_true rfl, Nat.le_of_ble_eq_true rfl⟩) hS (fun q _ h => hFc q h) hFc (fun r9 u t H1 locs ht hvm hw hB hz1 hk1 hS => ?_)
  obtain rfl := hw.symm
  obtain ⟨hP1, hK1, hD1⟩ := hB
  rw [ht] at hP1
  have hK1 := va_K.moved hvm.symm hK1
  obtain ⟨hP, hD⟩ := va_join (wr := [(h0, .inr (10, [v0, .ref h2, .ref h4, .ref h6, .ref h8, .ref h10, .ref h12, v1, .ref h1])), (h2, .inr (11, [.ref h3, .int 0])), (h3, .inl (cc0, 4960, .inl f0)), (h4, .inr (11, [.ref h5, .int 0])), (h5, .inl (cc1, 4960, .inl f1)), (h6, .inr (11, [.ref h7, .int 0])), (h7, .inl (cc2, 4960, .inl f2)), (h8, .inr (11, [.ref h9, .int 0])), (h9, .inl (cc3, 4960, .inl f3)), (h10, .inr (11, [.ref h11, .int 0])), (h11, .inl (cc4, 4960, .inl f4)), (h12, .inr (11, [.ref h13, .int 0])), (h13, .inl (cc5, 4960, .inl f5))]) (w1 := [(h1, .inr (11, [v2, .int 8]))]) hP hD [1] [0, 2, 3, 4, 5, 6, 7, 8, 9, 10, 11, 12, 13] rfl rfl (by decide) (by decide) hk1 hFc hP1 hD1
  have hK := (hK.sub (tys' := [(cc0, .int), (cc1, .int), (cc2, .int), (cc3, .int), (cc4, .int), (cc5, .int)]) [0, 1, 2, 3, 4, 5] rfl).app hK1
  generalize H1 = H at hP hS ⊢
  have hP : va_P (dC, dI) vwCl [(h0, .inr (10, [v0, .ref h2, .ref h4, .ref h6, .ref h8, .ref h10, .ref h12, v1, .ref h1])), (h2, .inr (11, [.ref h3, .int 0])), (h3, .inl (cc0, 4960, .inl f0)), (h4, .inr (11, [.ref h5, .int 0])), (h5, .inl (cc1, 4960, .inl f1)), (h6, .inr (11, [.ref h7, .int 0])), (h7, .inl (cc2, 4960, .inl f2)), (h8, .inr (11, [.ref h9, .int 0])), (h9, .inl (cc3, 4960, .inl f3)), (h10, .inr (11, [.ref h11, .int 0])), (h11, .inl (cc4, 4960, .inl f4)), (h12, .inr (11, [.ref h13, .int 0])), (h13, .inl (cc5, 4960, .inl f5)), (h1, .inr (11, [v2, .int 8]))] H := hP
  have hD : va_D A [(h0, .inr (10, [v0, .ref h2, .ref h4, .ref h6, .ref h8, .ref h10, .ref h12, v1, .ref h1])), (h2, .inr (11, [.ref h3, .int 0])), (h3, .inl (cc0, 4960, .inl f0)), (h4, .inr (11, [.ref h5, .int 0])), (h5, .inl (cc1, 4960, .inl f1)), (h6, .inr (11, [.ref h7, .int 0])), (h7, .inl (cc2, 4960, .inl f2)), (h8, .inr (11, [.ref h9, .int 0])), (h9, .inl (cc3, 4960, .inl f3)), (h10, .inr (11, [.ref h11, .int 0])), (h11, .inl (cc4, 4960, .inl f4)), (h12, .inr (11, [.ref h13, .int 0])), (h13, .inl (cc5, 4960, .inl f5)), (h1, .inr (11, [v2, .int 8]))] := hD
  have hK : va_K (dC, dI) vwCl [(cc0, .int), (cc1, .int), (cc2, .int), (cc3, .int), (cc4, .int), (cc5, .int)] s := hK
  refine W.widen (k := 0) (n := 0) (Nat.le_of_ble_eq_true rfl) (Nat.le_of_ble_eq_true rfl) ?_
  refine lv_iload_n hx hb dX3_addText_9 rfl (lv_at hl 1 rfl) ?_
  refine lv_isub hx hb dX3_addText_10 ?_
  refine lv_topi (fun y1 ey1 => ?_)
  obtain rfl : y1 = 0 := ey1.trans (by decide)
  refine lv_iload_n hx hb dX3_addText_11 rfl (lv_at hl 1 rfl) ?_
  refine lv_iconst (v := 0) hx hb dX3_addText_12 (by decide) ?_
  refine lv_iconst (v := 1) hx hb dX3_addText_13 (by decide) ?_
  refine lv_iconst (v := 1) hx hb dX3_addText_14 (by decide) ?_
  have hPc := hP.sub (ws' := [(h0, .inr (10, [v0, .ref h2, .ref h4, .ref h6, .ref h8, .ref h10, .ref h12, v1, .ref h1])), (h2, .inr (11, [.ref h3, .int 0])), (h3, .inl (cc0, 4960, .inl f0)), (h4, .inr (11, [.ref h5, .int 0])), (h5, .inl (cc1, 4960, .inl f1)), (h6, .inr (11, [.ref h7, .int 0])), (h7, .inl (cc2, 4960, .inl f2)), (h8, .inr (11, [.ref h9, .int 0])), (h9, .inl (cc3, 4960, .inl f3)), (h10, .inr (11, [.ref h11, .int 0])), (h11, .inl (cc4, 4960, .inl f4)), (h12, .inr (11, [.ref h13, .int 0])), (h13, .inl (cc5, 4960, .inl f5))]) [0, 1, 2, 3, 4, 5, 6, 7, 8, 9, 10, 11, 12] rfl
  have hDc := hD.sub (ws' := [(h0, .inr (10, [v0, .ref h2, .ref h4, .ref h6, .ref h8, .ref h10, .ref h12, v1, .ref h1])), (h2, .inr (11, [.ref h3, .int 0])), (h3, .inl (cc0, 4960, .inl f0)), (h4, .inr (11, [.ref h5, .int 0])), (h5, .inl (cc1, 4960, .inl f1)), (h6, .inr (11, [.ref h7, .int 0])), (h7, .inl (cc2, 4960, .inl f2)), (h8, .inr (11, [.ref h9, .int 0])), (h9, .inl (cc3, 4960, .inl f3)), (h10, .inr (11, [.ref h11, .int 0])), (h11, .inl (cc4, 4960, .inl f4)), (h12, .inr (11, [.ref h13, .int 0])), (h13, .inl (cc5, 4960, .inl f5))]) [0, 1, 2, 3, 4, 5, 6, 7, 8, 9, 10, 11, 12] (by decide) rfl
  have hKc := hK.sub (tys' := [(cc0, .int), (cc1, .int), (cc2, .int), (cc3, .int), (cc4, .int), (cc5, .int)]) [0, 1, 2, 3, 4, 5] rfl
  have hFc := va_free (wc := [(h0, .inr (10, [v0, .ref h2, .ref h4, .ref h6, .ref h8, .ref h10, .ref h12, v1, .ref h1])), (h2, .inr (11, [.ref h3, .int 0])), (h3, .inl (cc0, 4960, .inl f0)), (h4, .inr (11, [.ref h5, .int 0])), (h5, .inl (cc1, 4960, .inl f1)), (h6, .inr (11, [.ref h7, .int 0])), (h7, .inl (cc2, 4960, .inl f2)), (h8, .inr (11, [.ref h9, .int 0])), (h9, .inl (cc3, 4960, .inl f3)), (h10, .inr (11, [.ref h11, .int 0])), (h11, .inl (cc4, 4960, .inl f4)), (h12, .inr (11, [.ref h13, .int 0])), (h13, .inl (cc5, 4960, .inl f5))]) hD hS hA [0, 1, 2, 3, 4, 5, 6, 7, 8, 9, 10, 11, 12] rfl
  refine va_calli (va_runV (As := [.int 0, .int 0, .int 8, .int 0, .int 1, .int 1]) (rest := []) ⟨hx, hb, hml, hown, hts⟩ (kX3_addPlace_8 l dC dI g H.size h0 h2 h3 h4 h5 h6 h7 h8 h9 h10 h11 h12 h13 v0 v1 (.ref h1) cc0 f0 cc1 f1 cc2 f2 cc3 f3 cc4 f4 cc5 f5 ) (cwV 6 hts (ns_gp (List.forall_mem_cons.mpr ⟨wm262, (List.forall_mem_cons.mpr ⟨wm263, (List.forall_mem_cons.mpr ⟨wm264, (List.forall_mem_cons.mpr ⟨wm8, (fun _ h9 => nomatch h9)⟩)⟩)⟩)⟩) wm261) rfl rfl rfl (by decide +kernel) ⟨Nat.le_of_ble_eq_true rfl, Nat.le_of_ble_eq_true rfl⟩) ⟨fun a U gg mk q => by obtain ⟨q0, q1, qP, qK, qD, qF⟩ := q; exact ⟨q0, q1, qP, va_K.moved (u := U) (U := U.calling gg mk a) (Vm.Alike.refl U.vm) qK, qD, ns_same qF⟩, va_recv hK hP (ci := 10) (q0 := 0) rfl rfl, fun U hU hW => ⟨rfl, by rw [hU], by rw [hU]; exact hPc, va_K.moved hW.alike hKc, hDc.weaken (fun _ _ _ _ => trivial), ns_call hF hS hFc hU hW⟩⟩ rfl rfl hl.1 rfl (lv_room (Nat.le_of_ble_eq_true rfl)) dX3_addText_15 ⟨Nat.le_of_ble_eq_true rfl, Nat.le_of_ble_eq_true rfl⟩) hS (fun q _ h => hFc q h) hFc (fun r9 u t H1 locs ht hvm hw hB hz1 hk1 hS => ?_)
  obtain rfl := hw.symm
  obtain ⟨hP1, hK1, hD1⟩ := hB
  rw [ht] at hP1
  have hK1 := va_K.moved hvm.symm hK1
  obtain ⟨hP, hD⟩ := va_join (wr := [(h1, .inr (11, [v2, .int 8]))]) (w1 := [(h0, .inr (10, [v0, .ref h2, .ref h4, .ref h6, .ref h8, .ref h10, .ref h12, v1, .ref h1])), (h3, .inl (cc0, 4960, .inl (upd (f0) 0 0))), (h4, .inr (11, [.ref h5, .int 1])), (h5, .inl (cc1, 4960, .inl (upd (f1) 0 0))), (h6, .inr (11, [.ref h7, .int 1])), (h7, .inl (cc2, 4960, .inl (upd (f2) 0 8))), (h8, .inr (11, [.ref h9, .int 1])), (h9, .inl (cc3, 4960, .inl (upd (f3) 0 0))), (h10, .inr (11, [.ref h11, .int 1])), (h11, .inl (cc4, 4960, .inl (upd (f4) 0 1))), (h12, .inr (11, [.ref h13, .int 1])), (h13, .inl (cc5, 4960, .inl (upd (f5) 0 1))), (h2, .inr (11, [.ref h3, .int 1]))]) hP hD [0, 1, 2, 3, 4, 5, 6, 7, 8, 9, 10, 11, 12] [13] rfl rfl (by decide) (by decide) hk1 hFc hP1 hD1
  have hK := (hK.sub (tys' := []) [] rfl).app hK1
  generalize H1 = H at hP hS ⊢
  have hP : va_P (dC, dI) vwCl [(h1, .inr (11, [v2, .int 8])), (h0, .inr (10, [v0, .ref h2, .ref h4, .ref h6, .ref h8, .ref h10, .ref h12, v1, .ref h1])), (h3, .inl (cc0, 4960, .inl (upd (f0) 0 0))), (h4, .inr (11, [.ref h5, .int 1])), (h5, .inl (cc1, 4960, .inl (upd (f1) 0 0))), (h6, .inr (11, [.ref h7, .int 1])), (h7, .inl (cc2, 4960, .inl (upd (f2) 0 8))), (h8, .inr (11, [.ref h9, .int 1])), (h9, .inl (cc3, 4960, .inl (upd (f3) 0 0))), (h10, .inr (11, [.ref h11, .int 1])), (h11, .inl (cc4, 4960, .inl (upd (f4) 0 1))), (h12, .inr (11, [.ref h13, .int 1])), (h13, .inl (cc5, 4960, .inl (upd (f5) 0 1))), (h2, .inr (11, [.ref h3, .int 1]))] H := hP
  have hD : va_D A [(h1, .inr (11, [v2, .int 8])), (h0, .inr (10, [v0, .ref h2, .ref h4, .ref h6, .ref h8, .ref h10, .ref h12, v1, .ref h1])), (h3, .inl (cc0, 4960, .inl (upd (f0) 0 0))), (h4, .inr (11, [.ref h5, .int 1])), (h5, .inl (cc1, 4960, .inl (upd (f1) 0 0))), (h6, .inr (11, [.ref h7, .int 1])), (h7, .inl (cc2, 4960, .inl (upd (f2) 0 8))), (h8, .inr (11, [.ref h9, .int 1])), (h9, .inl (cc3, 4960, .inl (upd (f3) 0 0))), (h10, .inr (11, [.ref h11, .int 1])), (h11, .inl (cc4, 4960, .inl (upd (f4) 0 1))), (h12, .inr (11, [.ref h13, .int 1])), (h13, .inl (cc5, 4960, .inl (upd (f5) 0 1))), (h2, .inr (11, [.ref h3, .int 1]))] := hD
  have hK : va_K (dC, dI) vwCl [(cc0, .int), (cc1, .int), (cc2, .int), (cc3, .int), (cc4, .int), (cc5, .int)] s := hK
  refine W.widen (k := 0) (n := 0) (Nat.le_of_ble_eq_true rfl) (Nat.le_of_ble_eq_true rfl) ?_
  have hP9 := hP.sub (ws' := [(h1, .inr (11, [v2, .int 8])), (h0, .inr (10, [v0, .ref h2, .ref h4, .ref h6, .ref h8, .ref h10, .ref h12, v1, .ref h1])), (h3, .inl (cc0, 4960, .inl (upd (f0) 0 0))), (h4, .inr (11, [.ref h5, .int 1])), (h5, .inl (cc1, 4960, .inl (upd (f1) 0 0))), (h6, .inr (11, [.ref h7, .int 1])), (h7, .inl (cc2, 4960, .inl (upd (f2) 0 8))), (h8, .inr (11, [.ref h9, .int 1])), (h9, .inl (cc3, 4960, .inl (upd (f3) 0 0))), (h10, .inr (11, [.ref h11, .int 1])), (h11, .inl (cc4, 4960, .inl (upd (f4) 0 1))), (h12, .inr (11, [.ref h13, .int 1])), (h13, .inl (cc5, 4960, .inl (upd (f5) 0 1))), (h2, .inr (11, [.ref h3, .int 1]))]) [0, 1, 2, 3, 4, 5, 6, 7, 8, 9, 10, 11, 12, 13] rfl
  have hD9 := hD.sub (ws' := [(h1, .inr (11, [v2, .int 8])), (h0, .inr (10, [v0, .ref h2, .ref h4, .ref h6, .ref h8, .ref h10, .ref h12, v1, .ref h1])), (h3, .inl (cc0, 4960, .inl (upd (f0) 0 0))), (h4, .inr (11, [.ref h5, .int 1])), (h5, .inl (cc1, 4960, .inl (upd (f1) 0 0))), (h6, .inr (11, [.ref h7, .int 1])), (h7, .inl (cc2, 4960, .inl (upd (f2) 0 8))), (h8, .inr (11, [.ref h9, .int 1])), (h9, .inl (cc3, 4960, .inl (upd (f3) 0 0))), (h10, .inr (11, [.ref h11, .int 1])), (h11, .inl (cc4, 4960, .inl (upd (f4) 0 1))), (h12, .inr (11, [.ref h13, .int 1])), (h13, .inl (cc5, 4960, .inl (upd (f5) 0 1))), (h2, .inr (11, [.ref h3, .int 1]))]) [0, 1, 2, 3, 4, 5, 6, 7, 8, 9, 10, 11, 12, 13] (by decide) rfl
  have hK9 := hK.sub (tys' := [(cc0, .int), (cc1, .int), (cc2, .int), (cc3, .int), (cc4, .int), (cc5, .int)]) [0, 1, 2, 3, 4, 5] rfl
  refine W.widen (k := 0) (n := 0) (Nat.le_of_ble_eq_true rfl) (Nat.le_of_ble_eq_true rfl) ?_
  exact W.iret (v := 0) hx hb hr (fun t ht hW => ⟨⟨_, (), rfl, rfl, by rw [ht]; exact hP9, va_K.moved hW.alike hK9, hD9⟩, hS.F ht⟩) hS.2.2 dX3_addText_18
set_option maxHeartbeats 4000000 in
set_option maxRecDepth 100000 in
theorem kX16_join (l : Launch) (dC : Nat → ClassId) (dI : Nat → Nat → Nat) (g : Nat → Nat) (sz : Nat) (h0 : Nat) (x0 : Int32) (x1 : Int32) (h1 : Nat) (v0 : Value) (v1 : Value) (v2 : Value) (v3 : Value) (v4 : Value) (v5 : Value) (v6 : Value) (v7 : Value) (v8 : Value) (v9 : Value) : Met l yX16_join wbX16_join ({ frames := 2, cells := 0, slots := 0, locals := 44 }) (va_Pc [.ref h0, .int x0, .int x1] (fun U => U.heap.size = sz ∧ va_P (dC, dI) vwCl [(h0, .inr (23, [v0, .ref h1, v1, v2, v3, v4, v5, v6, v7])), (h1, .inr (6, [v8, v9, .int 0]))] U.heap ∧ va_K (dC, dI) vwCl [] U ∧ va_D (fun _ => True) [(h0, .inr (23, [v0, .ref h1, v1, v2, v3, v4, v5, v6, v7])), (h1, .inr (6, [v8, v9, .int 0]))] ∧ ns_F g (va_A [(h0, .inr (23, [v0, .ref h1, v1, v2, v3, v4, v5, v6, v7])), (h1, .inr (6, [v8, v9, .int 0]))] sz) U U.heap)) (va_Qi (fun (r : Int32) (_ : Unit) => r = 0) (fun _ t => va_P (dC, dI) vwCl [(h1, .inr (6, [v8, v9, .int 0])), (h0, .inr (23, [.int 1, .ref h1, v1, v2, v3, v4, v5, v6, v7]))] t.heap ∧ va_K (dC, dI) vwCl [] t ∧ va_D (va_A [(h0, .inr (23, [v0, .ref h1, v1, v2, v3, v4, v5, v6, v7])), (h1, .inr (6, [v8, v9, .int 0]))] sz) [(h1, .inr (6, [v8, v9, .int 0])), (h0, .inr (23, [.int 1, .ref h1, v1, v2, v3, v4, v5, v6, v7]))]) (va_A [(h0, .inr (23, [v0, .ref h1, v1, v2, v3, v4, v5, v6, v7])), (h1, .inr (6, [v8, v9, .int 0]))] sz)) 0 0 (va_A [(h0, .inr (23, [v0, .ref h1, v1, v2, v3, v4, v5, v6, v7])), (h1, .inr (6, [v8, v9, .int 0]))] sz) := by
  refine Met.ofW (cc := cX16_join) (maxL := 3) (ret := (some .int)) (by decide) rfl ?_
  intro p e s m args below meth c s₁ B hml hv
  obtain ⟨rfl, hsz, hP, hK, hD0, hF⟩ := hv
  have hx := B.exec
  have hb := B.bytes
  have hr := B.returns
  have hts := atoms_spec (ws := wbX16_join) B.pre
  have hta : ∀ w ∈ wsALL, w.before _ s = true := fun w h => hts w (List.mem_cons_of_mem _ h)
  have hown : s.vm.findClass RX16 = some m.cls := findClass_of_methodNamed B.named
  have hlocks := B.notSynchronized
  subst hsz
  have hD := hD0.self (sz := s.heap.size)
  generalize hAe : va_A [(h0, .inr (23, [v0, .ref h1, v1, v2, v3, v4, v5, v6, v7])), (h1, .inr (6, [v8, v9, .int 0]))] s.heap.size = A at hD hF ⊢
  have hA : ∀ q : Nat, s.heap.size ≤ q → A q := fun q h => by rw [← hAe]; exact Or.inr h
  have hS : va_S A s.heap s.heap [] := va_S.rf
  have hP : va_P (dC, dI) vwCl [(h0, .inr (23, [v0, .ref h1, v1, v2, v3, v4, v5, v6, v7])), (h1, .inr (6, [v8, v9, .int 0]))] s.heap := hP
  have hl := lv_entry ([.ref h0, .int x0, .int x1]) (n := 3) (Nat.le_of_ble_eq_true rfl)
  rw [lg_entry_eq]
  generalize (lg_sl ([.ref h0, .int x0, .int x1]) ++ List.replicate (3 - (lg_sl ([.ref h0, .int x0, .int x1])).length) Slot.unset).toArray = ls at hl ⊢
  have hl : lv_has ls 3 [(0, .ref h0), (1, .int x0), (2, .int x1)] := hl
  refine lv_aload_n hx hb dX16_join_0 rfl (lv_at hl 0 rfl) ?_
  refine lv_aload_n hx hb dX16_join_1 rfl (lv_at hl 0 rfl) ?_
  refine lv_iload_n hx hb dX16_join_2 rfl (lv_at hl 1 rfl) ?_
  have hPc := hP.sub (ws' := [(h0, .inr (23, [v0, .ref h1, v1, v2, v3, v4, v5, v6, v7])), (h1, .inr (6, [v8, v9, .int 0]))]) [0, 1] rfl
  have hDc := hD.sub (ws' := [(h0, .inr (23, [v0, .ref h1, v1, v2, v3, v4, v5, v6, v7])), (h1, .inr (6, [v8, v9, .int 0]))]) [0, 1] (by decide) rfl
  have hKc := hK.sub (tys' := []) [] rfl
  have hFc := va_free (wc := [(h0, .inr (23, [v0, .ref h1, v1, v2, v3, v4, v5, v6, v7])), (h1, .inr (6, [v8, v9, .int 0]))]) hD hS hA [0, 1] rfl
  refine va_calli (va_runV (As := [.int x0]) (rest := [.ref h0]) ⟨hx, hb, hml, hown, hts⟩ (kX16_isNoNode l dC dI g s.heap.size h0 x0 h1 v0 v1 v2 v3 v4 v5 v6 v7 v8 v9 ) (cwV 1 hts (ns_gp (List.forall_mem_cons.mpr ⟨wm449, (List.forall_mem_cons.mpr ⟨wm450, (List.forall_mem_cons.mpr ⟨wm451, (List.forall_mem_cons.mpr ⟨wm192, (fun _ h9 => nomatch h9)⟩)⟩)⟩)⟩) wm448) rfl rfl rfl (by decide +kernel) ⟨Nat.le_of_ble_eq_true rfl, Nat.le_of_ble_eq_true rfl⟩) ⟨fun a U gg mk q => by obtain ⟨q0, q1, qP, qK, qD, qF⟩ := q; exact ⟨q0, q1, qP, va_K.moved (u := U) (U := U.calling gg mk a) (Vm.Alike.refl U.vm) qK, qD, ns_same qF⟩, va_recv hK hP (ci := 23) (q0 := 0) rfl rfl, fun U hU hW => ⟨rfl, by rw [hU], by rw [hU]; exact hPc, va_K.moved hW.alike hKc, hDc.weaken (fun _ _ _ _ => trivial), ns_call hF hS hFc hU hW⟩⟩ rfl rfl hl.1 rfl (lv_room (Nat.le_of_ble_eq_true rfl)) dX16_join_3 ⟨Nat.le_of_ble_eq_true rfl, Nat.le_of_ble_eq_true rfl⟩) hS (fun q _ h => hFc q h) hFc (fun r9 u t H1 locs ht hvm hw hB hz1 hk1 hS => ?_)
  obtain rfl := hw.symm
  obtain ⟨hP1, hK1, hD1⟩ := hB
  rw [ht] at hP1
  have hK1 := va_K.moved hvm.symm hK1
  obtain ⟨hP, hD⟩ := va_join (wr := []) (w1 := [(h0, .inr (23, [v0, .ref h1, v1, v2, v3, v4, v5, v6, v7])), (h1, .inr (6, [v8, v9, .int 0]))]) hP hD [0, 1] [] rfl rfl (by decide) (by decide) hk1 hFc hP1 hD1
  have hK := (hK.sub (tys' := []) [] rfl).app hK1
  generalize H1 = H at hP hS ⊢
  have hP : va_P (dC, dI) vwCl [(h0, .inr (23, [v0, .ref h1, v1, v2, v3, v4, v5, v6, v7])), (h1, .inr (6, [v8, v9, .int 0]))] H := hP
  have hD : va_D A [(h0, .inr (23, [v0, .ref h1, v1, v2, v3, v4, v5, v6, v7])), (h1, .inr (6, [v8, v9, .int 0]))] := hD
  have hK : va_K (dC, dI) vwCl [] s := hK
  refine W.widen (k := 0) (n := 0) (Nat.le_of_ble_eq_true rfl) (Nat.le_of_ble_eq_true rfl) ?_
  refine lv_if_ne (tgt := 17) hx hb dX16_join_6 (by decide) (fun c1 => ?_) (fun c1 => absurd c1 (by decide))
  refine lv_iconst (v := 1) hx hb dX16_join_17 (by decide) ?_
  refine lv_goto (tgt := 22) hx hb dX16_join_18 (by decide) ?_
  refine lv_iconst (v := 1) hx hb dX16_join_22 (by decide) ?_
  have hPc := hP.sub (ws' := [(h0, .inr (23, [v0, .ref h1, v1, v2, v3, v4, v5, v6, v7]))]) [0] rfl
  have hDc := hD.sub (ws' := [(h0, .inr (23, [v0, .ref h1, v1, v2, v3, v4, v5, v6, v7]))]) [0] (by decide) rfl
  have hKc := hK.sub (tys' := []) [] rfl
  have hFc := va_free (wc := [(h0, .inr (23, [v0, .ref h1, v1, v2, v3, v4, v5, v6, v7]))]) hD hS hA [0] rfl
  refine va_calli (va_runV (As := [.int 1, .int 1]) (rest := []) ⟨hx, hb, hml, hown, hts⟩ (kX16_start l dC dI g H.size h0 v0 (.ref h1) v1 v2 v3 v4 v5 v6 v7 ) (cwV 2 hts (ns_gp (List.forall_mem_cons.mpr ⟨wm242, (List.forall_mem_cons.mpr ⟨wm243, (List.forall_mem_cons.mpr ⟨wm244, (List.forall_mem_cons.mpr ⟨wm192, (fun _ h9 => nomatch h9)⟩)⟩)⟩)⟩) wm239) rfl rfl rfl (by decide +kernel) ⟨Nat.le_of_ble_eq_true rfl, Nat.le_of_ble_eq_true rfl⟩) ⟨fun a U gg mk q => by obtain ⟨q0, q1, qP, qK, qD, qF⟩ := q; exact ⟨q0, q1, qP, va_K.moved (u := U) (U := U.calling gg mk a) (Vm.Alike.refl U.vm) qK, qD, ns_same qF⟩, va_recv hK hP (ci := 23) (q0 := 0) rfl rfl, fun U hU hW => ⟨rfl, by rw [hU], by rw [hU]; exact hPc, va_K.moved hW.alike hKc, hDc.weaken (fun _ _ _ _ => trivial), ns_call hF hS hFc hU hW⟩⟩ rfl rfl hl.1 rfl (lv_room (Nat.le_of_ble_eq_true rfl)) dX16_join_23 ⟨Nat.le_of_ble_eq_true rfl, Nat.le_of_ble_eq_true rfl⟩) hS (fun q _ h => hFc q h) hFc (fun r9 u t H1 locs ht hvm hw hB hz1 hk1 hS => ?_)
  obtain rfl := hw.symm
  obtain ⟨hP1, hK1, hD1⟩ := hB
  rw [ht] at hP1
  have hK1 := va_K.moved hvm.symm hK1
  obtain ⟨hP, hD⟩ := va_join (wr := [(h1, .inr (6, [v8, v9, .int 0]))]) (w1 := [(h0, .inr (23, [.int 1, .ref h1, v1, v2, v3, v4, v5, v6, v7]))]) hP hD [0] [1] rfl rfl (by decide) (by decide) hk1 hFc hP1 hD1
  have hK := (hK.sub (tys' := []) [] rfl).app hK1
  generalize H1 = H at hP hS ⊢
  have hP : va_P (dC, dI) vwCl [(h1, .inr (6, [v8, v9, .int 0])), (h0, .inr (23, [.int 1, .ref h1, v1, v2, v3, v4, v5, v6, v7]))] H := hP
  have hD : va_D A [(h1, .inr (6, [v8, v9, .int 0])), (h0, .inr (23, [.int 1, .ref h1, v1, v2, v3, v4, v5, v6, v7]))] := hD
  have hK : va_K (dC, dI) vwCl [] s := hK
  refine W.widen (k := 0) (n := 0) (Nat.le_of_ble_eq_true rfl) (Nat.le_of_ble_eq_true rfl) ?_
  refine lv_if_eq (tgt := 33) hx hb dX16_join_26 (by decide) (fun c2 => absurd c2 (by decide)) (fun c2 => ?_)
  refine lv_iconst (v := 0) hx hb dX16_join_29 (by decide) ?_
  refine lv_goto (tgt := 77) hx hb dX16_join_30 (by decide) ?_
  have hP9 := hP.sub (ws' := [(h1, .inr (6, [v8, v9, .int 0])), (h0, .inr (23, [.int 1, .ref h1, v1, v2, v3, v4, v5, v6, v7]))]) [0, 1] rfl
  have hD9 := hD.sub (ws' := [(h1, .inr (6, [v8, v9, .int 0])), (h0, .inr (23, [.int 1, .ref h1, v1, v2, v3, v4, v5, v6, v7]))]) [0, 1] (by decide) rfl
  have hK9 := hK.sub (tys' := []) [] rfl
  refine W.widen (k := 0) (n := 0) (Nat.le_of_ble_eq_true rfl) (Nat.le_of_ble_eq_true rfl) ?_
  exact W.iret (v := 0) hx hb hr (fun t ht hW => ⟨⟨_, (), rfl, rfl, by rw [ht]; exact hP9, va_K.moved hW.alike hK9, hD9⟩, hS.F ht⟩) hS.2.2 dX16_join_77
set_option maxHeartbeats 4000000 in
set_option maxRecDepth 100000 in
theorem kX16_fits (l : Launch) (dC : Nat → ClassId) (dI : Nat → Nat → Nat) (g : Nat → Nat) (sz : Nat) (h0 : Nat) (x0 : Int32) (x1 : Int32) (h1 : Nat) (v0 : Value) (v1 : Value) (v2 : Value) (v3 : Value) (v4 : Value) (v5 : Value) (v6 : Value) (v7 : Value) (v8 : Value) (v9 : Value) : Met l yX16_fits wbX16_fits ({ frames := 2, cells := 0, slots := 0, locals := 44 }) (va_Pc [.ref h0, .int x0, .int x1] (fun U => U.heap.size = sz ∧ va_P (dC, dI) vwCl [(h0, .inr (23, [v0, .ref h1, v1, v2, v3, v4, v5, v6, v7])), (h1, .inr (6, [v8, v9, .int 0]))] U.heap ∧ va_K (dC, dI) vwCl [] U ∧ va_D (fun _ => True) [(h0, .inr (23, [v0, .ref h1, v1, v2, v3, v4, v5, v6, v7])), (h1, .inr (6, [v8, v9, .int 0]))] ∧ ns_F g (va_A [(h0, .inr (23, [v0, .ref h1, v1, v2, v3, v4, v5, v6, v7])), (h1, .inr (6, [v8, v9, .int 0]))] sz) U U.heap)) (va_Qi (fun (r : Int32) (_ : Unit) => r = 0) (fun _ t => va_P (dC, dI) vwCl [(h1, .inr (6, [v8, v9, .int 0])), (h0, .inr (23, [.int 1, .ref h1, v1, v2, v3, v4, v5, v6, v7]))] t.heap ∧ va_K (dC, dI) vwCl [] t ∧ va_D (va_A [(h0, .inr (23, [v0, .ref h1, v1, v2, v3, v4, v5, v6, v7])), (h1, .inr (6, [v8, v9, .int 0]))] sz) [(h1, .inr (6, [v8, v9, .int 0])), (h0, .inr (23, [.int 1, .ref h1, v1, v2, v3, v4, v5, v6, v7]))]) (va_A [(h0, .inr (23, [v0, .ref h1, v1, v2, v3, v4, v5, v6, v7])), (h1, .inr (6, [v8, v9, .int 0]))] sz)) 0 0 (va_A [(h0, .inr (23, [v0, .ref h1, v1, v2, v3, v4, v5, v6, v7])), (h1, .inr (6, [v8, v9, .int 0]))] sz) := by
  refine Met.ofW (cc := cX16_fits) (maxL := 3) (ret := (some .boolean)) (by decide) rfl ?_
  intro p e s m args below meth c s₁ B hml hv
  obtain ⟨rfl, hsz, hP, hK, hD0, hF⟩ := hv
  have hx := B.exec
  have hb := B.bytes
  have hr := B.returns
  have hts := atoms_spec (ws := wbX16_fits) B.pre
  have hta : ∀ w ∈ wsALL, w.before _ s = true := fun w h => hts w (List.mem_cons_of_mem _ h)
  have hown : s.vm.findClass RX16 = some m.cls := findClass_of_methodNamed B.named
  have hlocks := B.notSynchronized
  subst hsz
  have hD := hD0.self (sz := s.heap.size)
  generalize hAe : va_A [(h0, .inr (23, [v0, .ref h1, v1, v2, v3, v4, v5, v6, v7])), (h1, .inr (6, [v8, v9, .int 0]))] s.heap.size = A at hD hF ⊢
  have hA : ∀ q : Nat, s.heap.size ≤ q → A q := fun q h => by rw [← hAe]; exact Or.inr h
  have hS : va_S A s.heap s.heap [] := va_S.rf
  have hP : va_P (dC, dI) vwCl [(h0, .inr (23, [v0, .ref h1, v1, v2, v3, v4, v5, v6, v7])), (h1, .inr (6, [v8, v9, .int 0]))] s.heap := hP
  have hl := lv_entry ([.ref h0, .int x0, .int x1]) (n := 3) (Nat.le_of_ble_eq_true rfl)
  rw [lg_entry_eq]
  generalize (lg_sl ([.ref h0, .int x0, .int x1]) ++ List.replicate (3 - (lg_sl ([.ref h0, .int x0, .int x1])).length) Slot.unset).toArray = ls at hl ⊢
  have hl : lv_has ls 3 [(0, .ref h0), (1, .int x0), (2, .int x1)] := hl
  refine lv_aload_n hx hb dX16_fits_0 rfl (lv_at hl 0 rfl) ?_
  refine lv_aload_n hx hb dX16_fits_1 rfl (lv_at hl 0 rfl) ?_
  refine lv_iload_n hx hb dX16_fits_2 rfl (lv_at hl 1 rfl) ?_
  have hPc := hP.sub (ws' := [(h0, .inr (23, [v0, .ref h1, v1, v2, v3, v4, v5, v6, v7])), (h1, .inr (6, [v8, v9, .int 0]))]) [0, 1] rfl
  have hDc := hD.sub (ws' := [(h0, .inr (23, [v0, .ref h1, v1, v2, v3, v4, v5, v6, v7])), (h1, .inr (6, [v8, v9, .int 0]))]) [0, 1] (by decide) rfl
  have hKc := hK.sub (tys' := []) [] rfl
  have hFc := va_free (wc := [(h0, .inr (23, [v0, .ref h1, v1, v2, v3, v4, v5, v6, v7])), (h1, .inr (6, [v8, v9, .int 0]))]) hD hS hA [0, 1] rfl
  refine va_calli (va_runV (As := [.int x0]) (rest := [.ref h0]) ⟨hx, hb, hml, hown, hts⟩ (kX16_isNoNode l dC dI g s.heap.size h0 x0 h1 v0 v1 v2 v3 v4 v5 v6 v7 v8 v9 ) (cwV 1 hts (ns_gp (List.forall_mem_cons.mpr ⟨wm449, (List.forall_mem_cons.mpr ⟨wm450, (List.forall_mem_cons.mpr ⟨wm451, (List.forall_mem_cons.mpr ⟨wm192, (fun _ h9 => nomatch h9)⟩)⟩)⟩)⟩) wm448) rfl rfl rfl (by decide +kernel) ⟨Nat.le_of_ble_eq_true rfl, Nat.le_of_ble_eq_true rfl⟩) ⟨fun a U gg mk q => by obtain ⟨q0, q1, qP, qK, qD, qF⟩ := q; exact ⟨q0, q1, qP, va_K.moved (u := U) (U := U.calling gg mk a) (Vm.Alike.refl U.vm) qK, qD, ns_same qF⟩, va_recv hK hP (ci := 23) (q0 := 0) rfl rfl, fun U hU hW => ⟨rfl, by rw [hU], by rw [hU]; exact hPc, va_K.moved hW.alike hKc, hDc.weaken (fun _ _ _ _ => trivial), ns_call hF hS hFc hU hW⟩⟩ rfl rfl hl.1 rfl (lv_room (Nat.le_of_ble_eq_true rfl)) dX16_fits_3 ⟨Nat.le_of_ble_eq_true rfl, Nat.le_of_ble_eq_true rfl⟩) hS (fun q _ h => hFc q h) hFc (fun r9 u t H1 locs ht hvm hw hB hz1 hk1 hS => ?_)
  obtain rfl := hw.symm
  obtain ⟨hP1, hK1, hD1⟩ := hB
  rw [ht] at hP1
  have hK1 := va_K.moved hvm.symm hK1
  obtain ⟨hP, hD⟩ := va_join (wr := []) (w1 := [(h0, .inr (23, [v0, .ref h1, v1, v2, v3, v4, v5, v6, v7])), (h1, .inr (6, [v8, v9, .int 0]))]) hP hD [0, 1] [] rfl rfl (by decide) (by decide) hk1 hFc hP1 hD1
  have hK := (hK.sub (tys' := []) [] rfl).app hK1
  generalize H1 = H at hP hS ⊢
  have hP : va_P (dC, dI) vwCl [(h0, .inr (23, [v0, .ref h1, v1, v2, v3, v4, v5, v6, v7])), (h1, .inr (6, [v8, v9, .int 0]))] H := hP
  have hD : va_D A [(h0, .inr (23, [v0, .ref h1, v1, v2, v3, v4, v5, v6, v7])), (h1, .inr (6, [v8, v9, .int 0]))] := hD
  have hK : va_K (dC, dI) vwCl [] s := hK
  refine W.widen (k := 0) (n := 0) (Nat.le_of_ble_eq_true rfl) (Nat.le_of_ble_eq_true rfl) ?_
  refine lv_iconst (v := 1) hx hb dX16_fits_6 (by decide) ?_
  have hPc := hP.sub (ws' := [(h0, .inr (23, [v0, .ref h1, v1, v2, v3, v4, v5, v6, v7]))]) [0] rfl
  have hDc := hD.sub (ws' := [(h0, .inr (23, [v0, .ref h1, v1, v2, v3, v4, v5, v6, v7]))]) [0] (by decide) rfl
  have hKc := hK.sub (tys' := []) [] rfl
  have hFc := va_free (wc := [(h0, .inr (23, [v0, .ref h1, v1, v2, v3, v4, v5, v6, v7]))]) hD hS hA [0] rfl
  refine va_calli (va_runV (As := [.int 1, .int 1]) (rest := []) ⟨hx, hb, hml, hown, hts⟩ (kX16_start l dC dI g H.size h0 v0 (.ref h1) v1 v2 v3 v4 v5 v6 v7 ) (cwV 2 hts (ns_gp (List.forall_mem_cons.mpr ⟨wm242, (List.forall_mem_cons.mpr ⟨wm243, (List.forall_mem_cons.mpr ⟨wm244, (List.forall_mem_cons.mpr ⟨wm192, (fun _ h9 => nomatch h9)⟩)⟩)⟩)⟩) wm239) rfl rfl rfl (by decide +kernel) ⟨Nat.le_of_ble_eq_true rfl, Nat.le_of_ble_eq_true rfl⟩) ⟨fun a U gg mk q => by obtain ⟨q0, q1, qP, qK, qD, qF⟩ := q; exact ⟨q0, q1, qP, va_K.moved (u := U) (U := U.calling gg mk a) (Vm.Alike.refl U.vm) qK, qD, ns_same qF⟩, va_recv hK hP (ci := 23) (q0 := 0) rfl rfl, fun U hU hW => ⟨rfl, by rw [hU], by rw [hU]; exact hPc, va_K.moved hW.alike hKc, hDc.weaken (fun _ _ _ _ => trivial), ns_call hF hS hFc hU hW⟩⟩ rfl rfl hl.1 rfl (lv_room (Nat.le_of_ble_eq_true rfl)) dX16_fits_7 ⟨Nat.le_of_ble_eq_true rfl, Nat.le_of_ble_eq_true rfl⟩) hS (fun q _ h => hFc q h) hFc (fun r9 u t H1 locs ht hvm hw hB hz1 hk1 hS => ?_)
  obtain rfl := hw.symm
  obtain ⟨hP1, hK1, hD1⟩ := hB
  rw [ht] at hP1
  have hK1 := va_K.moved hvm.symm hK1
  obtain ⟨hP, hD⟩ := va_join (wr := [(h1, .inr (6, [v8, v9, .int 0]))]) (w1 := [(h0, .inr (23, [.int 1, .ref h1, v1, v2, v3, v4, v5, v6, v7]))]) hP hD [0] [1] rfl rfl (by decide) (by decide) hk1 hFc hP1 hD1
  have hK := (hK.sub (tys' := []) [] rfl).app hK1
  generalize H1 = H at hP hS ⊢
  have hP : va_P (dC, dI) vwCl [(h1, .inr (6, [v8, v9, .int 0])), (h0, .inr (23, [.int 1, .ref h1, v1, v2, v3, v4, v5, v6, v7]))] H := hP
  have hD : va_D A [(h1, .inr (6, [v8, v9, .int 0])), (h0, .inr (23, [.int 1, .ref h1, v1, v2, v3, v4, v5, v6, v7]))] := hD
  have hK : va_K (dC, dI) vwCl [] s := hK
  refine W.widen (k := 0) (n := 0) (Nat.le_of_ble_eq_true rfl) (Nat.le_of_ble_eq_true rfl) ?_
  refine lv_if_ne (tgt := 36) hx hb dX16_fits_10 (by decide) (fun c1 => ?_) (fun c1 => absurd c1 (by decide))
  refine lv_iconst (v := 0) hx hb dX16_fits_36 (by decide) ?_
  have hP9 := hP.sub (ws' := [(h1, .inr (6, [v8, v9, .int 0])), (h0, .inr (23, [.int 1, .ref h1, v1, v2, v3, v4, v5, v6, v7]))]) [0, 1] rfl
  have hD9 := hD.sub (ws' := [(h1, .inr (6, [v8, v9, .int 0])), (h0, .inr (23, [.int 1, .ref h1, v1, v2, v3, v4, v5, v6, v7]))]) [0, 1] (by decide) rfl
  have hK9 := hK.sub (tys' := []) [] rfl
  refine W.widen (k := 0) (n := 0) (Nat.le_of_ble_eq_true rfl) (Nat.le_of_ble_eq_true rfl) ?_
  exact W.zret (v := 0) hx hb hr (by decide) (fun t ht hW => ⟨⟨_, (), rfl, rfl, by rw [ht]; exact hP9, va_K.moved hW.alike hK9, hD9⟩, hS.F ht⟩) hS.2.2 dX16_fits_37
set_option maxHeartbeats 4000000 in
set_option maxRecDepth 100000 in
theorem kX16_word_33 (l : Launch) (dC : Nat → ClassId) (dI : Nat → Nat → Nat) (g : Nat → Nat) (sz : Nat) (h0 : Nat) (x0 : Int32) (x1 : Int32) (v0 : Value) (v1 : Value) (v2 : Value) (v3 : Value) (v4 : Value) (v5 : Value) (v6 : Value) (v7 : Value) (v8 : Value) (ex0 : (26 : Int) ≤ x0.toInt ∧ x0.toInt ≤ (2147483647 : Int)) (ex1 : (10 : Int) ≤ x1.toInt ∧ x1.toInt ≤ (2147483647 : Int)) : Met l yX16_word wbX16_word ({ frames := 2, cells := 0, slots := 0, locals := 44 }) (va_Pc [.ref h0, .int x0, .int x1] (fun U => U.heap.size = sz ∧ va_P (dC, dI) vwCl [(h0, .inr (23, [v0, v1, v2, v3, v4, v5, v6, v7, v8]))] U.heap ∧ va_K (dC, dI) vwCl [] U ∧ va_D (fun _ => True) [(h0, .inr (23, [v0, v1, v2, v3, v4, v5, v6, v7, v8]))] ∧ ns_F g (va_A [(h0, .inr (23, [v0, v1, v2, v3, v4, v5, v6, v7, v8]))] sz) U U.heap)) (va_Qi (fun (r : Int32) (_ : Unit) => r = 0) (fun _ t => va_P (dC, dI) vwCl [(h0, .inr (23, [.int 1, v1, v2, v3, v4, v5, v6, v7, v8]))] t.heap ∧ va_K (dC, dI) vwCl [] t ∧ va_D (va_A [(h0, .inr (23, [v0, v1, v2, v3, v4, v5, v6, v7, v8]))] sz) [(h0, .inr (23, [.int 1, v1, v2, v3, v4, v5, v6, v7, v8]))]) (va_A [(h0, .inr (23, [v0, v1, v2, v3, v4, v5, v6, v7, v8]))] sz)) 0 0 (va_A [(h0, .inr (23, [v0, v1, v2, v3, v4, v5, v6, v7, v8]))] sz) := by
  refine Met.ofW (cc := cX16_word) (maxL := 5) (ret := (some .int)) (by decide) rfl ?_
  intro p e s m args below meth c s₁ B hml hv
  obtain ⟨rfl, hsz, hP, hK, hD0, hF⟩ := hv
  have hx := B.exec
  have hb := B.bytes
  have hr := B.returns
  have hts := atoms_spec (ws := wbX16_word) B.pre
  have hta : ∀ w ∈ wsALL, w.before _ s = true := fun w h => hts w (List.mem_cons_of_mem _ h)
  have hown : s.vm.findClass RX16 = some m.cls := findClass_of_methodNamed B.named
  have hlocks := B.notSynchronized
  subst hsz
  have hD := hD0.self (sz := s.heap.size)
  generalize hAe : va_A [(h0, .inr (23, [v0, v1, v2, v3, v4, v5, v6, v7, v8]))] s.heap.size = A at hD hF ⊢
  have hA : ∀ q : Nat, s.heap.size ≤ q → A q := fun q h => by rw [← hAe]; exact Or.inr h
  have hS : va_S A s.heap s.heap [] := va_S.rf
  have hP : va_P (dC, dI) vwCl [(h0, .inr (23, [v0, v1, v2, v3, v4, v5, v6, v7, v8]))] s.heap := hP
  have hl := lv_entry ([.ref h0, .int x0, .int x1]) (n := 5) (Nat.le_of_ble_eq_true rfl)
  rw [lg_entry_eq]
  generalize (lg_sl ([.ref h0, .int x0, .int x1]) ++ List.replicate (5 - (lg_sl ([.ref h0, .int x0, .int x1])).length) Slot.unset).toArray = ls at hl ⊢
  have hl : lv_has ls 5 [(0, .ref h0), (1, .int x0), (2, .int x1)] := hl
  refine lv_aload_n hx hb dX16_word_0 rfl (lv_at hl 0 rfl) ?_
  refine lv_iload_n hx hb dX16_word_1 rfl (lv_at hl 1 rfl) ?_
  refine lv_iconst (v := 0) hx hb dX16_word_2 (by decide) ?_
  refine lv_bipush (v := 25) hx hb dX16_word_3 (by decide) ?_
  have hPc := hP.sub (ws' := []) [] rfl
  have hDc := hD.sub (ws' := []) [] (by decide) rfl
  have hKc := hK.sub (tys' := []) [] rfl
  have hFc := va_free (wc := []) hD hS hA [] rfl
  refine va_calli (va_runS (As := [.int x0, .int 0, .int 25]) (rest := [.ref h0]) ⟨hx, hb, hml, hown, hts⟩ (kX16_isIn_14 l dC dI g s.heap.size x0 ⟨by omega, by omega⟩) (va_cwS 3 hts (ns_gp (List.forall_mem_cons.mpr ⟨wm240, (List.forall_mem_cons.mpr ⟨wm241, (List.forall_mem_cons.mpr ⟨wm192, (fun _ h9 => nomatch h9)⟩)⟩)⟩) wm233) rfl rfl rfl (by decide +kernel) ⟨Nat.le_of_ble_eq_true rfl, Nat.le_of_ble_eq_true rfl⟩) ⟨fun a U gg mk q => by obtain ⟨q0, q1, qP, qK, qD, qF⟩ := q; exact ⟨q0, q1, qP, va_K.moved (u := U) (U := U.calling gg mk a) (Vm.Alike.refl U.vm) qK, qD, ns_same qF⟩, fun U hU hW => ⟨rfl, by rw [hU], by rw [hU]; exact hPc, va_K.moved hW.alike hKc, hDc.weaken (fun _ _ _ _ => trivial), ns_call hF hS hFc hU hW⟩⟩ rfl rfl hl.1 rfl (lv_room (Nat.le_of_ble_eq_true rfl)) dX16_word_5 ⟨Nat.le_of_ble_eq_true rfl, Nat.le_of_ble_eq_true rfl⟩) hS (fun q _ h => hFc q h) hFc (fun r9 u t H1 locs ht hvm hw hB hz1 hk1 hS => ?_)
  obtain rfl := hw.symm
  obtain ⟨hP1, hK1, hD1⟩ := hB
  rw [ht] at hP1
  have hK1 := va_K.moved hvm.symm hK1
  obtain ⟨hP, hD⟩ := va_join (wr := [(h0, .inr (23, [v0, v1, v2, v3, v4, v5, v6, v7, v8]))]) (w1 := []) hP hD [] [0] rfl rfl (by decide) (by decide) hk1 hFc hP1 hD1
  have hK := (hK.sub (tys' := []) [] rfl).app hK1
  generalize H1 = H at hP hS ⊢
  have hP : va_P (dC, dI) vwCl [(h0, .inr (23, [v0, v1, v2, v3, v4, v5, v6, v7, v8]))] H := hP
  have hD : va_D A [(h0, .inr (23, [v0, v1, v2, v3, v4, v5, v6, v7, v8]))] := hD
  have hK : va_K (dC, dI) vwCl [] s := hK
  refine W.widen (k := 0) (n := 0) (Nat.le_of_ble_eq_true rfl) (Nat.le_of_ble_eq_true rfl) ?_
  refine lv_if_eq (tgt := 21) hx hb dX16_word_8 (by decide) (fun c1 => ?_) (fun c1 => absurd (by decide) c1)
  refine lv_iconst (v := 1) hx hb dX16_word_21 (by decide) ?_
  refine lv_goto (tgt := 26) hx hb dX16_word_22 (by decide) ?_
  refine lv_iconst (v := 1) hx hb dX16_word_26 (by decide) ?_
  have hPc := hP.sub (ws' := [(h0, .inr (23, [v0, v1, v2, v3, v4, v5, v6, v7, v8]))]) [0] rfl
  have hDc := hD.sub (ws' := [(h0, .inr (23, [v0, v1, v2, v3, v4, v5, v6, v7, v8]))]) [0] (by decide) rfl
  have hKc := hK.sub (tys' := []) [] rfl
  have hFc := va_free (wc := [(h0, .inr (23, [v0, v1, v2, v3, v4, v5, v6, v7, v8]))]) hD hS hA [0] rfl
  refine va_calli (va_runV (As := [.int 1, .int 1]) (rest := []) ⟨hx, hb, hml, hown, hts⟩ (kX16_start l dC dI g H.size h0 v0 v1 v2 v3 v4 v5 v6 v7 v8 ) (cwV 2 hts (ns_gp (List.forall_mem_cons.mpr ⟨wm242, (List.forall_mem_cons.mpr ⟨wm243, (List.forall_mem_cons.mpr ⟨wm244, (List.forall_mem_cons.mpr ⟨wm192, (fun _ h9 => nomatch h9)⟩)⟩)⟩)⟩) wm239) rfl rfl rfl (by decide +kernel) ⟨Nat.le_of_ble_eq_true rfl, Nat.le_of_ble_eq_true rfl⟩) ⟨fun a U gg mk q => by obtain ⟨q0, q1, qP, qK, qD, qF⟩ := q; exact ⟨q0, q1, qP, va_K.moved (u := U) (U := U.calling gg mk a) (Vm.Alike.refl U.vm) qK, qD, ns_same qF⟩, va_recv hK hP (ci := 23) (q0 := 0) rfl rfl, fun U hU hW => ⟨rfl, by rw [hU], by rw [hU]; exact hPc, va_K.moved hW.alike hKc, hDc.weaken (fun _ _ _ _ => trivial), ns_call hF hS hFc hU hW⟩⟩ rfl rfl hl.1 rfl (lv_room (Nat.le_of_ble_eq_true rfl)) dX16_word_27 ⟨Nat.le_of_ble_eq_true rfl, Nat.le_of_ble_eq_true rfl⟩) hS (fun q _ h => hFc q h) hFc (fun r9 u t H1 locs ht hvm hw hB hz1 hk1 hS => ?_)
  obtain rfl := hw.symm
  obtain ⟨hP1, hK1, hD1⟩ := hB
  rw [ht] at hP1
  have hK1 := va_K.moved hvm.symm hK1
  obtain ⟨hP, hD⟩ := va_join (wr := []) (w1 := [(h0, .inr (23, [.int 1, v1, v2, v3, v4, v5, v6, v7, v8]))]) hP hD [0] [] rfl rfl (by decide) (by decide) hk1 hFc hP1 hD1
  have hK := (hK.sub (tys' := []) [] rfl).app hK1
  generalize H1 = H at hP hS ⊢
  have hP : va_P (dC, dI) vwCl [(h0, .inr (23, [.int 1, v1, v2, v3, v4, v5, v6, v7, v8]))] H := hP
  have hD : va_D A [(h0, .inr (23, [.int 1, v1, v2, v3, v4, v5, v6, v7, v8]))] := hD
  have hK : va_K (dC, dI) vwCl [] s := hK
  refine W.widen (k := 0) (n := 0) (Nat.le_of_ble_eq_true rfl) (Nat.le_of_ble_eq_true rfl) ?_
  refine lv_if_ne (tgt := 45) hx hb dX16_word_30 (by decide) (fun c2 => ?_) (fun c2 => absurd c2 (by decide))
  refine lv_iconst (v := 0) hx hb dX16_word_45 (by decide) ?_
  have hP9 := hP.sub (ws' := [(h0, .inr (23, [.int 1, v1, v2, v3, v4, v5, v6, v7, v8]))]) [0] rfl
  have hD9 := hD.sub (ws' := [(h0, .inr (23, [.int 1, v1, v2, v3, v4, v5, v6, v7, v8]))]) [0] (by decide) rfl
  have hK9 := hK.sub (tys' := []) [] rfl
  refine W.widen (k := 0) (n := 0) (Nat.le_of_ble_eq_true rfl) (Nat.le_of_ble_eq_true rfl) ?_
  exact W.iret (v := 0) hx hb hr (fun t ht hW => ⟨⟨_, (), rfl, rfl, by rw [ht]; exact hP9, va_K.moved hW.alike hK9, hD9⟩, hS.F ht⟩) hS.2.2 dX16_word_46
set_option maxHeartbeats 4000000 in
set_option maxRecDepth 100000 in
theorem kX16_word_29 (l : Launch) (dC : Nat → ClassId) (dI : Nat → Nat → Nat) (g : Nat → Nat) (sz : Nat) (h0 : Nat) (x0 : Int32) (v0 : Value) (v1 : Value) (v2 : Value) (v3 : Value) (v4 : Value) (v5 : Value) (v6 : Value) (v7 : Value) (v8 : Value) (ex0 : (26 : Int) ≤ x0.toInt ∧ x0.toInt ≤ (2147483647 : Int)) : Met l yX16_word wbX16_word ({ frames := 2, cells := 0, slots := 0, locals := 44 }) (va_Pc [.ref h0, .int x0, .int 6] (fun U => U.heap.size = sz ∧ va_P (dC, dI) vwCl [(h0, .inr (23, [v0, v1, v2, v3, v4, v5, v6, v7, v8]))] U.heap ∧ va_K (dC, dI) vwCl [] U ∧ va_D (fun _ => True) [(h0, .inr (23, [v0, v1, v2, v3, v4, v5, v6, v7, v8]))] ∧ ns_F g (va_A [(h0, .inr (23, [v0, v1, v2, v3, v4, v5, v6, v7, v8]))] sz) U U.heap)) (va_Qi (fun (r : Int32) (_ : Unit) => r = 0) (fun _ t => va_P (dC, dI) vwCl [(h0, .inr (23, [.int 1, v1, v2, v3, v4, v5, v6, v7, v8]))] t.heap ∧ va_K (dC, dI) vwCl [] t ∧ va_D (va_A [(h0, .inr (23, [v0, v1, v2, v3, v4, v5, v6, v7, v8]))] sz) [(h0, .inr (23, [.int 1, v1, v2, v3, v4, v5, v6, v7, v8]))]) (va_A [(h0, .inr (23, [v0, v1, v2, v3, v4, v5, v6, v7, v8]))] sz)) 0 0 (va_A [(h0, .inr (23, [v0, v1, v2, v3, v4, v5, v6, v7, v8]))] sz) := by
  refine Met.ofW (cc := cX16_word) (maxL := 5) (ret := (some .int)) (by decide) rfl ?_
  intro p e s m args below meth c s₁ B hml hv
  obtain ⟨rfl, hsz, hP, hK, hD0, hF⟩ := hv
  have hx := B.exec
  have hb := B.bytes
  have hr := B.returns
  have hts := atoms_spec (ws := wbX16_word) B.pre
  have hta : ∀ w ∈ wsALL, w.before _ s = true := fun w h => hts w (List.mem_cons_of_mem _ h)
  have hown : s.vm.findClass RX16 = some m.cls := findClass_of_methodNamed B.named
  have hlocks := B.notSynchronized
  subst hsz
  have hD := hD0.self (sz := s.heap.size)
  generalize hAe : va_A [(h0, .inr (23, [v0, v1, v2, v3, v4, v5, v6, v7, v8]))] s.heap.size = A at hD hF ⊢
  have hA : ∀ q : Nat, s.heap.size ≤ q → A q := fun q h => by rw [← hAe]; exact Or.inr h
  have hS : va_S A s.heap s.heap [] := va_S.rf
  have hP : va_P (dC, dI) vwCl [(h0, .inr (23, [v0, v1, v2, v3, v4, v5, v6, v7, v8]))] s.heap := hP
  have hl := lv_entry ([.ref h0, .int x0, .int 6]) (n := 5) (Nat.le_of_ble_eq_true rfl)
  rw [lg_entry_eq]
  generalize (lg_sl ([.ref h0, .int x0, .int 6]) ++ List.replicate (5 - (lg_sl ([.ref h0, .int x0, .int 6])).length) Slot.unset).toArray = ls at hl ⊢
  have hl : lv_has ls 5 [(0, .ref h0), (1, .int x0), (2, .int 6)] := hl
  refine lv_aload_n hx hb dX16_word_0 rfl (lv_at hl 0 rfl) ?_
  refine lv_iload_n hx hb dX16_word_1 rfl (lv_at hl 1 rfl) ?_
  refine lv_iconst (v := 0) hx hb dX16_word_2 (by decide) ?_
  refine lv_bipush (v := 25) hx hb dX16_word_3 (by decide) ?_
  have hPc := hP.sub (ws' := []) [] rfl
  have hDc := hD.sub (ws' := []) [] (by decide) rfl
  have hKc := hK.sub (tys' := []) [] rfl
  have hFc := va_free (wc := []) hD hS hA [] rfl
  refine va_calli (va_runS (As := [.int x0, .int 0, .int 25]) (rest := [.ref h0]) ⟨hx, hb, hml, hown, hts⟩ (kX16_isIn_14 l dC dI g s.heap.size x0 ⟨by omega, by omega⟩) (va_cwS 3 hts (ns_gp (List.forall_mem_cons.mpr ⟨wm240, (List.forall_mem_cons.mpr ⟨wm241, (List.forall_mem_cons.mpr ⟨wm192, (fun _ h9 => nomatch h9)⟩)⟩)⟩) wm233) rfl rfl rfl (by decide +kernel) ⟨Nat.le_of_ble_eq_true rfl, Nat.le_of_ble_eq_true rfl⟩) ⟨fun a U gg mk q => by obtain ⟨q0, q1, qP, qK, qD, qF⟩ := q; exact ⟨q0, q1, qP, va_K.moved (u := U) (U := U.calling gg mk a) (Vm.Alike.refl U.vm) qK, qD, ns_same qF⟩, fun U hU hW => ⟨rfl, by rw [hU], by rw [hU]; exact hPc, va_K.moved hW.alike hKc, hDc.weaken (fun _ _ _ _ => trivial), ns_call hF hS hFc hU hW⟩⟩ rfl rfl hl.1 rfl (lv_room (Nat.le_of_ble_eq_true rfl)) dX16_word_5 ⟨Nat.le_of_ble_eq_true rfl, Nat.le_of_ble_eq_true rfl⟩) hS (fun q _ h => hFc q h) hFc (fun r9 u t H1 locs ht hvm hw hB hz1 hk1 hS => ?_)
  obtain rfl := hw.symm
  obtain ⟨hP1, hK1, hD1⟩ := hB
  rw [ht] at hP1
  have hK1 := va_K.moved hvm.symm hK1
  obtain ⟨hP, hD⟩ := va_join (wr := [(h0, .inr (23, [v0, v1, v2, v3, v4, v5, v6, v7, v8]))]) (w1 := []) hP hD [] [0] rfl rfl (by decide) (by decide) hk1 hFc hP1 hD1
  have hK := (hK.sub (tys' := []) [] rfl).app hK1
  generalize H1 = H at hP hS ⊢
  have hP : va_P (dC, dI) vwCl [(h0, .inr (23, [v0, v1, v2, v3, v4, v5, v6, v7, v8]))] H := hP
  have hD : va_D A [(h0, .inr (23, [v0, v1, v2, v3, v4, v5, v6, v7, v8]))] := hD
  have hK : va_K (dC, dI) vwCl [] s := hK
  refine W.widen (k := 0) (n := 0) (Nat.le_of_ble_eq_true rfl) (Nat.le_of_ble_eq_true rfl) ?_
  refine lv_if_eq (tgt := 21) hx hb dX16_word_8 (by decide) (fun c1 => ?_) (fun c1 => absurd (by decide) c1)
  refine lv_iconst (v := 1) hx hb dX16_word_21 (by decide) ?_
  refine lv_goto (tgt := 26) hx hb dX16_word_22 (by decide) ?_
  refine lv_iconst (v := 1) hx hb dX16_word_26 (by decide) ?_
  have hPc := hP.sub (ws' := [(h0, .inr (23, [v0, v1, v2, v3, v4, v5, v6, v7, v8]))]) [0] rfl
  have hDc := hD.sub (ws' := [(h0, .inr (23, [v0, v1, v2, v3, v4, v5, v6, v7, v8]))]) [0] (by decide) rfl
  have hKc := hK.sub (tys' := []) [] rfl
  have hFc := va_free (wc := [(h0, .inr (23, [v0, v1, v2, v3, v4, v5, v6, v7, v8]))]) hD hS hA [0] rfl
  refine va_calli (va_runV (As := [.int 1, .int 1]) (rest := []) ⟨hx, hb, hml, hown, hts⟩ (kX16_start l dC dI g H.size h0 v0 v1 v2 v3 v4 v5 v6 v7 v8 ) (cwV 2 hts (ns_gp (List.forall_mem_cons.mpr ⟨wm242, (List.forall_mem_cons.mpr ⟨wm243, (List.forall_mem_cons.mpr ⟨wm244, (List.forall_mem_cons.mpr ⟨wm192, (fun _ h9 => nomatch h9)⟩)⟩)⟩)⟩) wm239) rfl rfl rfl (by decide +kernel) ⟨Nat.le_of_ble_eq_true rfl, Nat.le_of_ble_eq_true rfl⟩) ⟨fun a U gg mk q => by obtain ⟨q0, q1, qP, qK, qD, qF⟩ := q; exact ⟨q0, q1, qP, va_K.moved (u := U) (U := U.calling gg mk a) (Vm.Alike.refl U.vm) qK, qD, ns_same qF⟩, va_recv hK hP (ci := 23) (q0 := 0) rfl rfl, fun U hU hW => ⟨rfl, by rw [hU], by rw [hU]; exact hPc, va_K.moved hW.alike hKc, hDc.weaken (fun _ _ _ _ => trivial), ns_call hF hS hFc hU hW⟩⟩ rfl rfl hl.1 rfl (lv_room (Nat.le_of_ble_eq_true rfl)) dX16_word_27 ⟨Nat.le_of_ble_eq_true rfl, Nat.le_of_ble_eq_true rfl⟩) hS (fun q _ h => hFc q h) hFc (fun r9 u t H1 locs ht hvm hw hB hz1 hk1 hS => ?_)
  obtain rfl := hw.symm
  obtain ⟨hP1, hK1, hD1⟩ := hB
  rw [ht] at hP1
  have hK1 := va_K.moved hvm.symm hK1
  obtain ⟨hP, hD⟩ := va_join (wr := []) (w1 := [(h0, .inr (23, [.int 1, v1, v2, v3, v4, v5, v6, v7, v8]))]) hP hD [0] [] rfl rfl (by decide) (by decide) hk1 hFc hP1 hD1
  have hK := (hK.sub (tys' := []) [] rfl).app hK1
  generalize H1 = H at hP hS ⊢
  have hP : va_P (dC, dI) vwCl [(h0, .inr (23, [.int 1, v1, v2, v3, v4, v5, v6, v7, v8]))] H := hP
  have hD : va_D A [(h0, .inr (23, [.int 1, v1, v2, v3, v4, v5, v6, v7, v8]))] := hD
  have hK : va_K (dC, dI) vwCl [] s := hK
  refine W.widen (k := 0) (n := 0) (Nat.le_of_ble_eq_true rfl) (Nat.le_of_ble_eq_true rfl) ?_
  refine lv_if_ne (tgt := 45) hx hb dX16_word_30 (by decide) (fun c2 => ?_) (fun c2 => absurd c2 (by decide))
  refine lv_iconst (v := 0) hx hb dX16_word_45 (by decide) ?_
  have hP9 := hP.sub (ws' := [(h0, .inr (23, [.int 1, v1, v2, v3, v4, v5, v6, v7, v8]))]) [0] rfl
  have hD9 := hD.sub (ws' := [(h0, .inr (23, [.int 1, v1, v2, v3, v4, v5, v6, v7, v8]))]) [0] (by decide) rfl
  have hK9 := hK.sub (tys' := []) [] rfl
  refine W.widen (k := 0) (n := 0) (Nat.le_of_ble_eq_true rfl) (Nat.le_of_ble_eq_true rfl) ?_
  exact W.iret (v := 0) hx hb hr (fun t ht hW => ⟨⟨_, (), rfl, rfl, by rw [ht]; exact hP9, va_K.moved hW.alike hK9, hD9⟩, hS.F ht⟩) hS.2.2 dX16_word_46
set_option maxHeartbeats 4000000 in
set_option maxRecDepth 100000 in
theorem kX16_ribbon (l : Launch) (dC : Nat → ClassId) (dI : Nat → Nat → Nat) (g : Nat → Nat) (sz : Nat) (h0 : Nat) (x0 : Int32) (v0 : Value) (v1 : Value) (v2 : Value) (v3 : Value) (v4 : Value) (v5 : Value) (v6 : Value) (v7 : Value) (v8 : Value) (ex0 : (-2147483648 : Int) ≤ x0.toInt ∧ x0.toInt ≤ (0 : Int)) : Met l yX16_ribbon wbX16_ribbon ({ frames := 2, cells := 0, slots := 0, locals := 44 }) (va_Pc [.ref h0, .int x0] (fun U => U.heap.size = sz ∧ va_P (dC, dI) vwCl [(h0, .inr (23, [v0, v1, v2, v3, v4, v5, v6, v7, v8]))] U.heap ∧ va_K (dC, dI) vwCl [] U ∧ va_D (fun _ => True) [(h0, .inr (23, [v0, v1, v2, v3, v4, v5, v6, v7, v8]))] ∧ ns_F g (va_A [(h0, .inr (23, [v0, v1, v2, v3, v4, v5, v6, v7, v8]))] sz) U U.heap)) (va_Qi (fun (r : Int32) (_ : Unit) => r = 0) (fun _ t => va_P (dC, dI) vwCl [(h0, .inr (23, [.int 1, v1, v2, v3, v4, v5, v6, v7, v8]))] t.heap ∧ va_K (dC, dI) vwCl [] t ∧ va_D (va_A [(h0, .inr (23, [v0, v1, v2, v3, v4, v5, v6, v7, v8]))] sz) [(h0, .inr (23, [.int 1, v1, v2, v3, v4, v5, v6, v7, v8]))]) (va_A [(h0, .inr (23, [v0, v1, v2, v3, v4, v5, v6, v7, v8]))] sz)) 0 0 (va_A [(h0, .inr (23, [v0, v1, v2, v3, v4, v5, v6, v7, v8]))] sz) := by
  refine Met.ofW (cc := cX16_ribbon) (maxL := 3) (ret := (some .int)) (by decide) rfl ?_
  intro p e s m args below meth c s₁ B hml hv
  obtain ⟨rfl, hsz, hP, hK, hD0, hF⟩ := hv
  have hx := B.exec
  have hb := B.bytes
  have hr := B.returns
  have hts := atoms_spec (ws := wbX16_ribbon) B.pre
  have hta : ∀ w ∈ wsALL, w.before _ s = true := fun w h => hts w (List.mem_cons_of_mem _ h)
  have hown : s.vm.findClass RX16 = some m.cls := findClass_of_methodNamed B.named
  have hlocks := B.notSynchronized
  subst hsz
  have hD := hD0.self (sz := s.heap.size)
  generalize hAe : va_A [(h0, .inr (23, [v0, v1, v2, v3, v4, v5, v6, v7, v8]))] s.heap.size = A at hD hF ⊢
  have hA : ∀ q : Nat, s.heap.size ≤ q → A q := fun q h => by rw [← hAe]; exact Or.inr h
  have hS : va_S A s.heap s.heap [] := va_S.rf
  have hP : va_P (dC, dI) vwCl [(h0, .inr (23, [v0, v1, v2, v3, v4, v5, v6, v7, v8]))] s.heap := hP
  have hl := lv_entry ([.ref h0, .int x0]) (n := 3) (Nat.le_of_ble_eq_true rfl)
  rw [lg_entry_eq]
  generalize (lg_sl ([.ref h0, .int x0]) ++ List.replicate (3 - (lg_sl ([.ref h0, .int x0])).length) Slot.unset).toArray = ls at hl ⊢
  have hl : lv_has ls 3 [(0, .ref h0), (1, .int x0)] := hl
  refine lv_aload_n hx hb dX16_ribbon_0 rfl (lv_at hl 0 rfl) ?_
  refine lv_iload_n hx hb dX16_ribbon_1 rfl (lv_at hl 1 rfl) ?_
  refine lv_iconst (v := 1) hx hb dX16_ribbon_2 (by decide) ?_
  refine lv_bipush (v := 60) hx hb dX16_ribbon_3 (by decide) ?_
  have hPc := hP.sub (ws' := []) [] rfl
  have hDc := hD.sub (ws' := []) [] (by decide) rfl
  have hKc := hK.sub (tys' := []) [] rfl
  have hFc := va_free (wc := []) hD hS hA [] rfl
  refine va_calli (va_runS (As := [.int x0, .int 1, .int 60]) (rest := [.ref h0]) ⟨hx, hb, hml, hown, hts⟩ (kX16_isIn_19 l dC dI g s.heap.size x0 ⟨by omega, by omega⟩) (va_cwS 3 hts (ns_gp (List.forall_mem_cons.mpr ⟨wm240, (List.forall_mem_cons.mpr ⟨wm241, (List.forall_mem_cons.mpr ⟨wm192, (fun _ h9 => nomatch h9)⟩)⟩)⟩) wm233) rfl rfl rfl (by decide +kernel) ⟨Nat.le_of_ble_eq_true rfl, Nat.le_of_ble_eq_true rfl⟩) ⟨fun a U gg mk q => by obtain ⟨q0, q1, qP, qK, qD, qF⟩ := q; exact ⟨q0, q1, qP, va_K.moved (u := U) (U := U.calling gg mk a) (Vm.Alike.refl U.vm) qK, qD, ns_same qF⟩, fun U hU hW => ⟨rfl, by rw [hU], by rw [hU]; exact hPc, va_K.moved hW.alike hKc, hDc.weaken (fun _ _ _ _ => trivial), ns_call hF hS hFc hU hW⟩⟩ rfl rfl hl.1 rfl (lv_room (Nat.le_of_ble_eq_true rfl)) dX16_ribbon_5 ⟨Nat.le_of_ble_eq_true rfl, Nat.le_of_ble_eq_true rfl⟩) hS (fun q _ h => hFc q h) hFc (fun r9 u t H1 locs ht hvm hw hB hz1 hk1 hS => ?_)
  obtain rfl := hw.symm
  obtain ⟨hP1, hK1, hD1⟩ := hB
  rw [ht] at hP1
  have hK1 := va_K.moved hvm.symm hK1
  obtain ⟨hP, hD⟩ := va_join (wr := [(h0, .inr (23, [v0, v1, v2, v3, v4, v5, v6, v7, v8]))]) (w1 := []) hP hD [] [0] rfl rfl (by decide) (by decide) hk1 hFc hP1 hD1
  have hK := (hK.sub (tys' := []) [] rfl).app hK1
  generalize H1 = H at hP hS ⊢
  have hP : va_P (dC, dI) vwCl [(h0, .inr (23, [v0, v1, v2, v3, v4, v5, v6, v7, v8]))] H := hP
  have hD : va_D A [(h0, .inr (23, [v0, v1, v2, v3, v4, v5, v6, v7, v8]))] := hD
  have hK : va_K (dC, dI) vwCl [] s := hK
  refine W.widen (k := 0) (n := 0) (Nat.le_of_ble_eq_true rfl) (Nat.le_of_ble_eq_true rfl) ?_
  refine lv_if_ne (tgt := 15) hx hb dX16_ribbon_8 (by decide) (fun c1 => absurd (by decide) c1) (fun c1 => ?_)
  refine lv_iconst (v := 1) hx hb dX16_ribbon_11 (by decide) ?_
  refine lv_goto (tgt := 16) hx hb dX16_ribbon_12 (by decide) ?_
  refine lv_iconst (v := 1) hx hb dX16_ribbon_16 (by decide) ?_
  have hPc := hP.sub (ws' := [(h0, .inr (23, [v0, v1, v2, v3, v4, v5, v6, v7, v8]))]) [0] rfl
  have hDc := hD.sub (ws' := [(h0, .inr (23, [v0, v1, v2, v3, v4, v5, v6, v7, v8]))]) [0] (by decide) rfl
  have hKc := hK.sub (tys' := []) [] rfl
  have hFc := va_free (wc := [(h0, .inr (23, [v0, v1, v2, v3, v4, v5, v6, v7, v8]))]) hD hS hA [0] rfl
  refine va_calli (va_runV (As := [.int 1, .int 1]) (rest := []) ⟨hx, hb, hml, hown, hts⟩ (kX16_start l dC dI g H.size h0 v0 v1 v2 v3 v4 v5 v6 v7 v8 ) (cwV 2 hts (ns_gp (List.forall_mem_cons.mpr ⟨wm242, (List.forall_mem_cons.mpr ⟨wm243, (List.forall_mem_cons.mpr ⟨wm244, (List.forall_mem_cons.mpr ⟨wm192, (fun _ h9 => nomatch h9)⟩)⟩)⟩)⟩) wm239) rfl rfl rfl (by decide +kernel) ⟨Nat.le_of_ble_eq_true rfl, Nat.le_of_ble_eq_true rfl⟩) ⟨fun a U gg mk q => by obtain ⟨q0, q1, qP, qK, qD, qF⟩ := q; exact ⟨q0, q1, qP, va_K.moved (u := U) (U := U.calling gg mk a) (Vm.Alike.refl U.vm) qK, qD, ns_same qF⟩, va_recv hK hP (ci := 23) (q0 := 0) rfl rfl, fun U hU hW => ⟨rfl, by rw [hU], by rw [hU]; exact hPc, va_K.moved hW.alike hKc, hDc.weaken (fun _ _ _ _ => trivial), ns_call hF hS hFc hU hW⟩⟩ rfl rfl hl.1 rfl (lv_room (Nat.le_of_ble_eq_true rfl)) dX16_ribbon_17 ⟨Nat.le_of_ble_eq_true rfl, Nat.le_of_ble_eq_true rfl⟩) hS (fun q _ h => hFc q h) hFc (fun r9 u t H1 locs ht hvm hw hB hz1 hk1 hS => ?_)
  obtain rfl := hw.symm
  obtain ⟨hP1, hK1, hD1⟩ := hB
  rw [ht] at hP1
  have hK1 := va_K.moved hvm.symm hK1
  obtain ⟨hP, hD⟩ := va_join (wr := []) (w1 := [(h0, .inr (23, [.int 1, v1, v2, v3, v4, v5, v6, v7, v8]))]) hP hD [0] [] rfl rfl (by decide) (by decide) hk1 hFc hP1 hD1
  have hK := (hK.sub (tys' := []) [] rfl).app hK1
  generalize H1 = H at hP hS ⊢
  have hP : va_P (dC, dI) vwCl [(h0, .inr (23, [.int 1, v1, v2, v3, v4, v5, v6, v7, v8]))] H := hP
  have hD : va_D A [(h0, .inr (23, [.int 1, v1, v2, v3, v4, v5, v6, v7, v8]))] := hD
  have hK : va_K (dC, dI) vwCl [] s := hK
  refine W.widen (k := 0) (n := 0) (Nat.le_of_ble_eq_true rfl) (Nat.le_of_ble_eq_true rfl) ?_
  refine lv_if_eq (tgt := 25) hx hb dX16_ribbon_20 (by decide) (fun c2 => absurd c2 (by decide)) (fun c2 => ?_)
  refine lv_iconst (v := 0) hx hb dX16_ribbon_23 (by decide) ?_
  have hP9 := hP.sub (ws' := [(h0, .inr (23, [.int 1, v1, v2, v3, v4, v5, v6, v7, v8]))]) [0] rfl
  have hD9 := hD.sub (ws' := [(h0, .inr (23, [.int 1, v1, v2, v3, v4, v5, v6, v7, v8]))]) [0] (by decide) rfl
  have hK9 := hK.sub (tys' := []) [] rfl
  refine W.widen (k := 0) (n := 0) (Nat.le_of_ble_eq_true rfl) (Nat.le_of_ble_eq_true rfl) ?_
  exact W.iret (v := 0) hx hb hr (fun t ht hW => ⟨⟨_, (), rfl, rfl, by rw [ht]; exact hP9, va_K.moved hW.alike hK9, hD9⟩, hS.F ht⟩) hS.2.2 dX16_ribbon_24
set_option maxHeartbeats 4000000 in
set_option maxRecDepth 100000 in
theorem kJ4_append_cf468_15 (l : Launch) (dC : Nat → ClassId) (dI : Nat → Nat → Nat) (g : Nat → Nat) (sz : Nat) (h0 : Nat) (x0 : Int32) (h1 : Nat) (v0 : Value) (cc0 : ClassId) (f0 : Nat → Int32) (hf0 : sb_Fit f0) (ex0 : (0 : Int) ≤ x0.toInt ∧ x0.toInt ≤ (127 : Int)) : Met l yJ4_append_cf468 wbJ4_append_cf468 ({ frames := 2, cells := 0, slots := 0, locals := 43 }) (va_Pc [.ref h0, .int x0] (fun U => U.heap.size = sz ∧ va_P (dC, dI) vwCl [(h0, .inr (1, [.ref h1, .int 0, v0, .int 5])), (h1, .inl (cc0, 16, .inl f0))] U.heap ∧ va_K (dC, dI) vwCl [(cc0, .byte)] U ∧ va_D (fun _ => True) [(h0, .inr (1, [.ref h1, .int 0, v0, .int 5])), (h1, .inl (cc0, 16, .inl f0))] ∧ ns_F g (va_A [(h0, .inr (1, [.ref h1, .int 0, v0, .int 5])), (h1, .inl (cc0, 16, .inl f0))] sz) U U.heap)) (va_Qr (fun _ : Unit => True) (fun _ r t => r = h0 ∧ va_P (dC, dI) vwCl [(h1, .inl (cc0, 16, .inl (upd (f0) 5 (vp_nar .byte x0.toInt8.toInt32)))), (h0, .inr (1, [.ref h1, .int 0, v0, .int 6]))] t.heap ∧ va_K (dC, dI) vwCl [(cc0, .byte)] t ∧ va_D (va_A [(h0, .inr (1, [.ref h1, .int 0, v0, .int 5])), (h1, .inl (cc0, 16, .inl f0))] sz) [(h1, .inl (cc0, 16, .inl (upd (f0) 5 (vp_nar .byte x0.toInt8.toInt32)))), (h0, .inr (1, [.ref h1, .int 0, v0, .int 6]))]) (va_A [(h0, .inr (1, [.ref h1, .int 0, v0, .int 5])), (h1, .inl (cc0, 16, .inl f0))] sz)) 0 0 (va_A [(h0, .inr (1, [.ref h1, .int 0, v0, .int 5])), (h1, .inl (cc0, 16, .inl f0))] sz) := by
  refine Met.ofW (cc := cJ4_append_cf468) (maxL := 2) (ret := (some (.object "java/lang/StringBuilder"))) (by decide) rfl ?_
  intro p e s m args below meth c s₁ B hml hv
  obtain ⟨rfl, hsz, hP, hK, hD0, hF⟩ := hv
  have hx := B.exec
  have hb := B.bytes
  have hr := B.returns
  have hts := atoms_spec (ws := wbJ4_append_cf468) B.pre
  have hta : ∀ w ∈ wsALL, w.before _ s = true := fun w h => hts w (List.mem_cons_of_mem _ h)
  have hown : s.vm.findClass RJ4 = some m.cls := findClass_of_methodNamed B.named
  have hlocks := B.notSynchronized
  subst hsz
  have hD := hD0.self (sz := s.heap.size)
  generalize hAe : va_A [(h0, .inr (1, [.ref h1, .int 0, v0, .int 5])), (h1, .inl (cc0, 16, .inl f0))] s.heap.size = A at hD hF ⊢
  have hA : ∀ q : Nat, s.heap.size ≤ q → A q := fun q h => by rw [← hAe]; exact Or.inr h
  have hS : va_S A s.heap s.heap [] := va_S.rf
  have hP : va_P (dC, dI) vwCl [(h0, .inr (1, [.ref h1, .int 0, v0, .int 5])), (h1, .inl (cc0, 16, .inl f0))] s.heap := hP
  have hl := lv_entry ([.ref h0, .int x0]) (n := 2) (Nat.le_of_ble_eq_true rfl)
  rw [lg_entry_eq]
  generalize (lg_sl ([.ref h0, .int x0]) ++ List.replicate (2 - (lg_sl ([.ref h0, .int x0])).length) Slot.unset).toArray = ls at hl ⊢
  have hl : lv_has ls 2 [(0, .ref h0), (1, .int x0)] := hl
  refine lv_aload_n hx hb dJ4_append_cf468_0 rfl (lv_at hl 0 rfl) ?_
  refine lv_iload_n hx hb dJ4_append_cf468_1 rfl (lv_at hl 1 rfl) ?_
  have hPc := hP.sub (ws' := [(h0, .inr (1, [.ref h1, .int 0, v0, .int 5])), (h1, .inl (cc0, 16, .inl f0))]) [0, 1] rfl
  have hDc := hD.sub (ws' := [(h0, .inr (1, [.ref h1, .int 0, v0, .int 5])), (h1, .inl (cc0, 16, .inl f0))]) [0, 1] (by decide) rfl
  have hKc := hK.sub (tys' := [(cc0, .byte)]) [0] rfl
  have hFc := va_free (wc := [(h0, .inr (1, [.ref h1, .int 0, v0, .int 5])), (h1, .inl (cc0, 16, .inl f0))]) hD hS hA [0, 1] rfl
  refine va_callr (va_runSU (hK.1 1 _ rfl).2 (As := [.int x0]) (rest := []) ⟨hx, hb, hml, hown, hts⟩ (kJ5_append_3fe6f_15 l dC dI g s.heap.size h0 x0 h1 v0 cc0 f0 hf0 ⟨by omega, by omega⟩) (va_cwSU 1 hts (ns_gp (List.forall_mem_cons.mpr ⟨wm306, (List.forall_mem_cons.mpr ⟨wm307, (List.forall_mem_cons.mpr ⟨wm308, (List.forall_mem_cons.mpr ⟨wm309, (List.forall_mem_cons.mpr ⟨wm144, (fun _ h9 => nomatch h9)⟩)⟩)⟩)⟩)⟩) wm305) rfl rfl rfl (by decide +kernel) ⟨Nat.le_of_ble_eq_true rfl, Nat.le_of_ble_eq_true rfl⟩) ⟨fun a U gg mk q => by obtain ⟨q0, q1, qP, qK, qD, qF⟩ := q; exact ⟨q0, q1, qP, va_K.moved (u := U) (U := U.calling gg mk a) (Vm.Alike.refl U.vm) qK, qD, ns_same qF⟩, va_recv hK hP (ci := 1) (q0 := 0) rfl rfl, fun U hU hW => ⟨rfl, by rw [hU], by rw [hU]; exact hPc, va_K.moved hW.alike hKc, hDc.weaken (fun _ _ _ _ => trivial), ns_call hF hS hFc hU hW⟩⟩ rfl rfl hl.1 rfl (lv_room (Nat.le_of_ble_eq_true rfl)) dJ4_append_cf468_2 ⟨Nat.le_of_ble_eq_true rfl, Nat.le_of_ble_eq_true rfl⟩) hS (fun q _ h => hFc q h) hFc (fun u r9 t H1 locs ht hvm hw hB hz1 hk1 hS => ?_)
  obtain ⟨hr9, hP1, hK1, hD1⟩ := hB
  obtain rfl := hr9.symm
  rw [ht] at hP1
  have hK1 := va_K.moved hvm.symm hK1
  obtain ⟨hP, hD⟩ := va_join (wr := []) (w1 := [(h1, .inl (cc0, 16, .inl (upd (f0) 5 (vp_nar .byte x0.toInt8.toInt32)))), (h0, .inr (1, [.ref h1, .int 0, v0, .int 6]))]) hP hD [0, 1] [] rfl rfl (by decide) (by decide) hk1 hFc hP1 hD1
  have hK := (hK.sub (tys' := []) [] rfl).app hK1
  generalize H1 = H at hP hS ⊢
  have hP : va_P (dC, dI) vwCl [(h1, .inl (cc0, 16, .inl (upd (f0) 5 (vp_nar .byte x0.toInt8.toInt32)))), (h0, .inr (1, [.ref h1, .int 0, v0, .int 6]))] H := hP
  have hD : va_D A [(h1, .inl (cc0, 16, .inl (upd (f0) 5 (vp_nar .byte x0.toInt8.toInt32)))), (h0, .inr (1, [.ref h1, .int 0, v0, .int 6]))] := hD
  have hK : va_K (dC, dI) vwCl [(cc0, .byte)] s := hK
  refine W.widen (k := 0) (n := 0) (Nat.le_of_ble_eq_true rfl) (Nat.le_of_ble_eq_true rfl) ?_
  refine lv_pop hx hb dJ4_append_cf468_5 rfl ?_
  refine lv_aload_n hx hb dJ4_append_cf468_6 rfl (lv_at hl 0 rfl) ?_
  have hP9 := hP.sub (ws' := [(h1, .inl (cc0, 16, .inl (upd (f0) 5 (vp_nar .byte x0.toInt8.toInt32)))), (h0, .inr (1, [.ref h1, .int 0, v0, .int 6]))]) [0, 1] rfl
  have hD9 := hD.sub (ws' := [(h1, .inl (cc0, 16, .inl (upd (f0) 5 (vp_nar .byte x0.toInt8.toInt32)))), (h0, .inr (1, [.ref h1, .int 0, v0, .int 6]))]) [0, 1] (by decide) rfl
  have hK9 := hK.sub (tys' := [(cc0, .byte)]) [0] rfl
  refine W.widen (k := 0) (n := 0) (Nat.le_of_ble_eq_true rfl) (Nat.le_of_ble_eq_true rfl) ?_
  exact W.aret (v := .ref h0) hx hb hr (by first | exact Or.inl ⟨_, rfl⟩ | exact Or.inr ⟨_, rfl⟩) (Or.inr ⟨_, rfl⟩) (fun t ht hW => ⟨⟨(), _, rfl, trivial, rfl, by rw [ht]; exact hP9, va_K.moved hW.alike hK9, hD9⟩, hS.F ht⟩) hS.2.2 dJ4_append_cf468_7
set_option maxHeartbeats 4000000 in
set_option maxRecDepth 100000 in
theorem kJ7_copyOfRange_39247_14 (l : Launch) (dC : Nat → ClassId) (dI : Nat → Nat → Nat) (g : Nat → Nat) (sz : Nat) (h0 : Nat) (cc0 : ClassId) (f0 : Nat → Int32) (hf0 : sb_Fit f0) : Met l yJ7_copyOfRange_39247 wbJ7_copyOfRange_39247 ({ frames := 2, cells := 1, slots := 0, locals := 64 }) (va_Pc [.ref h0, .int 0, .int 0] (fun U => U.heap.size = sz ∧ va_P (dC, dI) vwCl [(h0, .inl (cc0, 16, .inl f0))] U.heap ∧ va_K (dC, dI) vwCl [(cc0, .byte)] U ∧ va_D (fun _ => True) [(h0, .inl (cc0, 16, .inl f0))] ∧ ns_F g (va_A [(h0, .inl (cc0, 16, .inl f0))] sz) U U.heap)) (va_Qr (fun _ : Unit => True) (fun _ r t => ∃ k0 : Nat, ∃ kc1 : ClassId, r = k0 ∧ va_P (dC, dI) vwCl [(h0, .inl (cc0, 16, .inl f0)), (k0, .inl (kc1, 0, .inl (va_cpy (f0) (fun _ => 0) 0 0 0)))] t.heap ∧ va_K (dC, dI) vwCl [(cc0, .byte), (kc1, .byte)] t ∧ va_D (va_A [(h0, .inl (cc0, 16, .inl f0))] sz) [(h0, .inl (cc0, 16, .inl f0)), (k0, .inl (kc1, 0, .inl (va_cpy (f0) (fun _ => 0) 0 0 0)))]) (va_A [(h0, .inl (cc0, 16, .inl f0))] sz)) 1 0 (va_A [(h0, .inl (cc0, 16, .inl f0))] sz) := by
  refine Met.ofW (cc := cJ7_copyOfRange_39247) (maxL := 3) (ret := (some (.array .byte))) (by decide) rfl ?_
  intro p e s m args below meth c s₁ B hml hv
  obtain ⟨rfl, hsz, hP, hK, hD0, hF⟩ := hv
  have hx := B.exec
  have hb := B.bytes
  have hr := B.returns
  have hts := atoms_spec (ws := wbJ7_copyOfRange_39247) B.pre
  have hta : ∀ w ∈ wsALL, w.before _ s = true := fun w h => hts w (List.mem_cons_of_mem _ h)
  have hown : s.vm.findClass RJ7 = some m.cls := findClass_of_methodNamed B.named
  have hlocks := B.notSynchronized
  subst hsz
  have hD := hD0.self (sz := s.heap.size)
  generalize hAe : va_A [(h0, .inl (cc0, 16, .inl f0))] s.heap.size = A at hD hF ⊢
  have hA : ∀ q : Nat, s.heap.size ≤ q → A q := fun q h => by rw [← hAe]; exact Or.inr h
  have hS : va_S A s.heap s.heap [] := va_S.rf
  have hP : va_P (dC, dI) vwCl [(h0, .inl (cc0, 16, .inl f0))] s.heap := hP
  have hl := lv_entry ([.ref h0, .int 0, .int 0]) (n := 3) (Nat.le_of_ble_eq_true rfl)
  rw [lg_entry_eq]
  generalize (lg_sl ([.ref h0, .int 0, .int 0]) ++ List.replicate (3 - (lg_sl ([.ref h0, .int 0, .int 0])).length) Slot.unset).toArray = ls at hl ⊢
  have hl : lv_has ls 3 [(0, .ref h0), (1, .int 0), (2, .int 0)] := hl
  refine lv_iload_n hx hb dJ7_copyOfRange_39247_0 rfl (lv_at hl 1 rfl) ?_
  refine lv_if_ne (tgt := 10) hx hb dJ7_copyOfRange_39247_1 (by decide) (fun c1 => absurd (by decide) c1) (fun c1 => ?_)
  refine lv_iload_n hx hb dJ7_copyOfRange_39247_4 rfl (lv_at hl 2 rfl) ?_
  refine lv_aload_n hx hb dJ7_copyOfRange_39247_5 rfl (lv_at hl 0 rfl) ?_
  refine va_alen (v := 16) hx hb hK hP 0 0 rfl rfl (show Int32.ofNat 16 = 16 by decide) dJ7_copyOfRange_39247_6 ?_
  refine lv_icmp_eq (tgt := 17) hx hb dJ7_copyOfRange_39247_7 (by decide) (fun c2 => absurd c2 (by decide)) (fun c2 => ?_)
  refine lv_aload_n hx hb dJ7_copyOfRange_39247_10 rfl (lv_at hl 0 rfl) ?_
  refine lv_iload_n hx hb dJ7_copyOfRange_39247_11 rfl (lv_at hl 1 rfl) ?_
  refine lv_iload_n hx hb dJ7_copyOfRange_39247_12 rfl (lv_at hl 2 rfl) ?_
  have hPc := hP.sub (ws' := [(h0, .inl (cc0, 16, .inl f0))]) [0] rfl
  have hDc := hD.sub (ws' := [(h0, .inl (cc0, 16, .inl f0))]) [0] (by decide) rfl
  have hKc := hK.sub (tys' := [(cc0, .byte)]) [0] rfl
  have hFc := va_free (wc := [(h0, .inl (cc0, 16, .inl f0))]) hD hS hA [0] rfl
  refine va_callr (va_runS (As := [.ref h0, .int 0, .int 0]) (rest := []) ⟨hx, hb, hml, hown, hts⟩ (kJ7_copyOfRangeByte_39247_14 l dC dI g s.heap.size h0 cc0 f0 hf0 ) (va_cwS 3 hts (ns_gp (List.forall_mem_cons.mpr ⟨wm338, (List.forall_mem_cons.mpr ⟨wm339, (List.forall_mem_cons.mpr ⟨wm334, (fun _ h9 => nomatch h9)⟩)⟩)⟩) wm337) rfl rfl rfl (by decide +kernel) ⟨Nat.le_of_ble_eq_true rfl, Nat.le_of_ble_eq_true rfl⟩) ⟨fun a U gg mk q => by obtain ⟨q0, q1, qP, qK, qD, qF⟩ := q; exact ⟨q0, q1, qP, va_K.moved (u := U) (U := U.calling gg mk a) (Vm.Alike.refl U.vm) qK, qD, ns_same qF⟩, fun U hU hW => ⟨rfl, by rw [hU], by rw [hU]; exact hPc, va_K.moved hW.alike hKc, hDc.weaken (fun _ _ _ _ => trivial), ns_call hF hS hFc hU hW⟩⟩ rfl rfl hl.1 rfl (lv_room (Nat.le_of_ble_eq_true rfl)) dJ7_copyOfRange_39247_13 ⟨Nat.le_of_ble_eq_true rfl, Nat.le_of_ble_eq_true rfl⟩) hS (fun q _ h => hFc q h) hFc (fun u r9 t H1 locs ht hvm hw hB hz1 hk1 hS => ?_)
  obtain ⟨q3, cy4, hr9, hP1, hK1, hD1⟩ := hB
  obtain rfl := hr9.symm
  rw [ht] at hP1
  have hK1 := va_K.moved hvm.symm hK1
  obtain ⟨hP, hD⟩ := va_join (wr := []) (w1 := [(h0, .inl (cc0, 16, .inl f0)), (q3, .inl (cy4, 0, .inl (va_cpy (f0) (fun _ => 0) 0 0 0)))]) hP hD [0] [] rfl rfl (by decide) (by decide) hk1 hFc hP1 hD1
  have hK := (hK.sub (tys' := []) [] rfl).app hK1
  generalize H1 = H at hP hS ⊢
  have hP : va_P (dC, dI) vwCl [(h0, .inl (cc0, 16, .inl f0)), (q3, .inl (cy4, 0, .inl (va_cpy (f0) (fun _ => 0) 0 0 0)))] H := hP
  have hD : va_D A [(h0, .inl (cc0, 16, .inl f0)), (q3, .inl (cy4, 0, .inl (va_cpy (f0) (fun _ => 0) 0 0 0)))] := hD
  have hK : va_K (dC, dI) vwCl [(cc0, .byte), (cy4, .byte)] s := hK
  refine W.widen (k := 1) (n := 0) (Nat.le_of_ble_eq_true rfl) (Nat.le_of_ble_eq_true rfl) ?_
  have hP9 := hP.sub (ws' := [(h0, .inl (cc0, 16, .inl f0)), (q3, .inl (cy4, 0, .inl (va_cpy (f0) (fun _ => 0) 0 0 0)))]) [0, 1] rfl
  have hD9 := hD.sub (ws' := [(h0, .inl (cc0, 16, .inl f0)), (q3, .inl (cy4, 0, .inl (va_cpy (f0) (fun _ => 0) 0 0 0)))]) [0, 1] (by decide) rfl
  have hK9 := hK.sub (tys' := [(cc0, .byte), (cy4, .byte)]) [0, 1] rfl
  refine W.widen (k := 1) (n := 0) (Nat.le_of_ble_eq_true rfl) (Nat.le_of_ble_eq_true rfl) ?_
  exact W.aret (v := .ref q3) hx hb hr (by first | exact Or.inl ⟨_, rfl⟩ | exact Or.inr ⟨_, rfl⟩) (Or.inr ⟨_, rfl⟩) (fun t ht hW => ⟨⟨(), _, rfl, trivial, q3, cy4, rfl, by rw [ht]; exact hP9, va_K.moved hW.alike hK9, hD9⟩, hS.F ht⟩) hS.2.2 dJ7_copyOfRange_39247_16
set_option maxHeartbeats 4000000 in
set_option maxRecDepth 100000 in
theorem kJ7_copyOfRange_39247_12 (l : Launch) (dC : Nat → ClassId) (dI : Nat → Nat → Nat) (g : Nat → Nat) (sz : Nat) (h0 : Nat) (cc0 : ClassId) (f0 : Nat → Int32) (hf0 : sb_Fit f0) : Met l yJ7_copyOfRange_39247 wbJ7_copyOfRange_39247 ({ frames := 2, cells := 1, slots := 3, locals := 64 }) (va_Pc [.ref h0, .int 0, .int 3] (fun U => U.heap.size = sz ∧ va_P (dC, dI) vwCl [(h0, .inl (cc0, 4, .inl f0))] U.heap ∧ va_K (dC, dI) vwCl [(cc0, .byte)] U ∧ va_D (fun _ => True) [(h0, .inl (cc0, 4, .inl f0))] ∧ ns_F g (va_A [(h0, .inl (cc0, 4, .inl f0))] sz) U U.heap)) (va_Qr (fun _ : Unit => True) (fun _ r t => ∃ k0 : Nat, ∃ kc1 : ClassId, r = k0 ∧ va_P (dC, dI) vwCl [(h0, .inl (cc0, 4, .inl f0)), (k0, .inl (kc1, 3, .inl (va_cpy (f0) (fun _ => 0) 0 0 3)))] t.heap ∧ va_K (dC, dI) vwCl [(cc0, .byte), (kc1, .byte)] t ∧ va_D (va_A [(h0, .inl (cc0, 4, .inl f0))] sz) [(h0, .inl (cc0, 4, .inl f0)), (k0, .inl (kc1, 3, .inl (va_cpy (f0) (fun _ => 0) 0 0 3)))]) (va_A [(h0, .inl (cc0, 4, .inl f0))] sz)) 1 3 (va_A [(h0, .inl (cc0, 4, .inl f0))] sz) := by
  refine Met.ofW (cc := cJ7_copyOfRange_39247) (maxL := 3) (ret := (some (.array .byte))) (by decide) rfl ?_
  intro p e s m args below meth c s₁ B hml hv
  obtain ⟨rfl, hsz, hP, hK, hD0, hF⟩ := hv
  have hx := B.exec
  have hb := B.bytes
  have hr := B.returns
  have hts := atoms_spec (ws := wbJ7_copyOfRange_39247) B.pre
  have hta : ∀ w ∈ wsALL, w.before _ s = true := fun w h => hts w (List.mem_cons_of_mem _ h)
  have hown : s.vm.findClass RJ7 = some m.cls := findClass_of_methodNamed B.named
  have hlocks := B.notSynchronized
  subst hsz
  have hD := hD0.self (sz := s.heap.size)
  generalize hAe : va_A [(h0, .inl (cc0, 4, .inl f0))] s.heap.size = A at hD hF ⊢
  have hA : ∀ q : Nat, s.heap.size ≤ q → A q := fun q h => by rw [← hAe]; exact Or.inr h
  have hS : va_S A s.heap s.heap [] := va_S.rf
  have hP : va_P (dC, dI) vwCl [(h0, .inl (cc0, 4, .inl f0))] s.heap := hP
  have hl := lv_entry ([.ref h0, .int 0, .int 3]) (n := 3) (Nat.le_of_ble_eq_true rfl)
  rw [lg_entry_eq]
  generalize (lg_sl ([.ref h0, .int 0, .int 3]) ++ List.replicate (3 - (lg_sl ([.ref h0, .int 0, .int 3])).length) Slot.unset).toArray = ls at hl ⊢
  have hl : lv_has ls 3 [(0, .ref h0), (1, .int 0), (2, .int 3)] := hl
  refine lv_iload_n hx hb dJ7_copyOfRange_39247_0 rfl (lv_at hl 1 rfl) ?_
  refine lv_if_ne (tgt := 10) hx hb dJ7_copyOfRange_39247_1 (by decide) (fun c1 => absurd (by decide) c1) (fun c1 => ?_)
  refine lv_iload_n hx hb dJ7_copyOfRange_39247_4 rfl (lv_at hl 2 rfl) ?_
  refine lv_aload_n hx hb dJ7_copyOfRange_39247_5 rfl (lv_at hl 0 rfl) ?_
  refine va_alen (v := 4) hx hb hK hP 0 0 rfl rfl (show Int32.ofNat 4 = 4 by decide) dJ7_copyOfRange_39247_6 ?_
  refine lv_icmp_eq (tgt := 17) hx hb dJ7_copyOfRange_39247_7 (by decide) (fun c2 => absurd c2 (by decide)) (fun c2 => ?_)
  refine lv_aload_n hx hb dJ7_copyOfRange_39247_10 rfl (lv_at hl 0 rfl) ?_
  refine lv_iload_n hx hb dJ7_copyOfRange_39247_11 rfl (lv_at hl 1 rfl) ?_
  refine lv_iload_n hx hb dJ7_copyOfRange_39247_12 rfl (lv_at hl 2 rfl) ?_
  have hPc := hP.sub (ws' := [(h0, .inl (cc0, 4, .inl f0))]) [0] rfl
  have hDc := hD.sub (ws' := [(h0, .inl (cc0, 4, .inl f0))]) [0] (by decide) rfl
  have hKc := hK.sub (tys' := [(cc0, .byte)]) [0] rfl
  have hFc := va_free (wc := [(h0, .inl (cc0, 4, .inl f0))]) hD hS hA [0] rfl
  refine va_callr (va_runS (As := [.ref h0, .int 0, .int 3]) (rest := []) ⟨hx, hb, hml, hown, hts⟩ (kJ7_copyOfRangeByte_39247_12 l dC dI g s.heap.size h0 cc0 f0 hf0 ) (va_cwS 3 hts (ns_gp (List.forall_mem_cons.mpr ⟨wm338, (List.forall_mem_cons.mpr ⟨wm339, (List.forall_mem_cons.mpr ⟨wm334, (fun _ h9 => nomatch h9)⟩)⟩)⟩) wm337) rfl rfl rfl (by decide +kernel) ⟨Nat.le_of_ble_eq_true rfl, Nat.le_of_ble_eq_true rfl⟩) ⟨fun a U gg mk q => by obtain ⟨q0, q1, qP, qK, qD, qF⟩ := q; exact ⟨q0, q1, qP, va_K.moved (u := U) (U := U.calling gg mk a) (Vm.Alike.refl U.vm) qK, qD, ns_same qF⟩, fun U hU hW => ⟨rfl, by rw [hU], by rw [hU]; exact hPc, va_K.moved hW.alike hKc, hDc.weaken (fun _ _ _ _ => trivial), ns_call hF hS hFc hU hW⟩⟩ rfl rfl hl.1 rfl (lv_room (Nat.le_of_ble_eq_true rfl)) dJ7_copyOfRange_39247_13 ⟨Nat.le_of_ble_eq_true rfl, Nat.le_of_ble_eq_true rfl⟩) hS (fun q _ h => hFc q h) hFc (fun u r9 t H1 locs ht hvm hw hB hz1 hk1 hS => ?_)
  obtain ⟨q3, cy4, hr9, hP1, hK1, hD1⟩ := hB
  obtain rfl := hr9.symm
  rw [ht] at hP1
  have hK1 := va_K.moved hvm.symm hK1
  obtain ⟨hP, hD⟩ := va_join (wr := []) (w1 := [(h0, .inl (cc0, 4, .inl f0)), (q3, .inl (cy4, 3, .inl (va_cpy (f0) (fun _ => 0) 0 0 3)))]) hP hD [0] [] rfl rfl (by decide) (by decide) hk1 hFc hP1 hD1
  have hK := (hK.sub (tys' := []) [] rfl).app hK1
  generalize H1 = H at hP hS ⊢
  have hP : va_P (dC, dI) vwCl [(h0, .inl (cc0, 4, .inl f0)), (q3, .inl (cy4, 3, .inl (va_cpy (f0) (fun _ => 0) 0 0 3)))] H := hP
  have hD : va_D A [(h0, .inl (cc0, 4, .inl f0)), (q3, .inl (cy4, 3, .inl (va_cpy (f0) (fun _ => 0) 0 0 3)))] := hD
  have hK : va_K (dC, dI) vwCl [(cc0, .byte), (cy4, .byte)] s := hK
  refine W.widen (k := 1) (n := 3) (Nat.le_of_ble_eq_true rfl) (Nat.le_of_ble_eq_true rfl) ?_
  have hP9 := hP.sub (ws' := [(h0, .inl (cc0, 4, .inl f0)), (q3, .inl (cy4, 3, .inl (va_cpy (f0) (fun _ => 0) 0 0 3)))]) [0, 1] rfl
  have hD9 := hD.sub (ws' := [(h0, .inl (cc0, 4, .inl f0)), (q3, .inl (cy4, 3, .inl (va_cpy (f0) (fun _ => 0) 0 0 3)))]) [0, 1] (by decide) rfl
  have hK9 := hK.sub (tys' := [(cc0, .byte), (cy4, .byte)]) [0, 1] rfl
  refine W.widen (k := 1) (n := 3) (Nat.le_of_ble_eq_true rfl) (Nat.le_of_ble_eq_true rfl) ?_
  exact W.aret (v := .ref q3) hx hb hr (by first | exact Or.inl ⟨_, rfl⟩ | exact Or.inr ⟨_, rfl⟩) (Or.inr ⟨_, rfl⟩) (fun t ht hW => ⟨⟨(), _, rfl, trivial, q3, cy4, rfl, by rw [ht]; exact hP9, va_K.moved hW.alike hK9, hD9⟩, hS.F ht⟩) hS.2.2 dJ7_copyOfRange_39247_16
