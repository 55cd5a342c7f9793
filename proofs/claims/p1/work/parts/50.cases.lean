
set_option maxHeartbeats 4000000 in
set_option maxRecDepth 100000 in
theorem law_case10 {p : Program} {l : Launch} {e : Env} {s : State} {m : MethodId} {below : List Frame} {meth : Method} {c : Code} {b : Nat} {xs : Nat → Int32} {dC : Nat → ClassId} {dI : Nat → Nat → Nat} {g : Nat → Nat} {A : Nat → Prop} {q1 : Nat} {q2 : Nat} {q3 : Nat} {q4 : Nat} {cy5 : ClassId} {q6 : Nat} {q7 : Nat} {cy8 : ClassId} {q9 : Nat} {q10 : Nat} {cy11 : ClassId} {q12 : Nat} {q13 : Nat} {cy14 : ClassId} {q15 : Nat} {q16 : Nat} {cy17 : ClassId} {q18 : Nat} {q19 : Nat} {cy20 : ClassId} {q21 : Nat} {q22 : Nat} {cy23 : ClassId} {q24 : Nat} {q25 : Nat} {q26 : Nat} {q27 : Nat} {cy28 : ClassId} {q29 : Nat} {q30 : Nat} {cy31 : ClassId} {q32 : Nat} {q33 : Nat} {cy34 : ClassId} {q35 : Nat} {q36 : Nat} {q37 : Nat} {q38 : Nat} {q39 : Nat} {q40 : Nat} {q41 : Nat} {q42 : Nat} {q43 : Nat} {q44 : Nat} {q45 : Nat} {q46 : Nat} {q47 : Nat} {q48 : Nat} {q49 : Nat} {q50 : Nat} {q51 : Nat} {q52 : Nat} {q53 : Nat} {q54 : Nat} {q55 : Nat} {q56 : Nat} {q57 : Nat} {q58 : Nat} {q59 : Nat} {q60 : Nat} {q61 : Nat} {q62 : Nat} {cy63 : ClassId} {q64 : Nat} {q65 : Nat} {q66 : Nat} {q67 : Nat} {q68 : Nat} {q69 : Nat} {q70 : Nat} {q71 : Nat} {q72 : Nat} {q73 : Nat} {q74 : Nat} {q75 : Nat} {q76 : Nat} {q77 : Nat} {q78 : Nat} {q79 : Nat} {q80 : Nat} {q81 : Nat} {q82 : Nat} {q83 : Nat} {q84 : Nat} {q85 : Nat} {q86 : Nat} {q87 : Nat} {q88 : Nat} {q89 : Nat} {q90 : Nat} {q91 : Nat} {q92 : Nat} {q93 : Nat} {q94 : Nat} {q95 : Nat} {q96 : Nat} {q97 : Nat} {q98 : Nat} {q99 : Nat} {q100 : Nat} {q101 : Nat} {q102 : Nat} {q103 : Nat} {q104 : Nat} {H : Heap} {locs : List Loc} {ls : Array Slot} (hlt : l.stackTraces = false) (C0 : lw_At p s m meth c b 7 xs) (hA : ∀ q : Nat, s.heap.size ≤ q → A q) (hAx : ∀ q : Nat, A q → s.heap.size ≤ q) (hF : ns_F g A s s.heap) (hK : va_K (dC, dI) vwCl [(cy5, .int), (cy8, .int), (cy11, .int), (cy14, .int), (cy17, .int), (cy20, .int), (cy23, .int), (cy28, .int), (cy31, .int), (cy34, .int), (cy63, .byte)] s) (hP : va_P (dC, dI) vwCl [(q1, .inr (16, [.ref q2, .ref q29, .ref q32, .ref q35, .ref q42, .ref q57, .ref q58, .ref q59, .ref q61, .ref q64, .ref q83, .int 20, .int 60, .int 0, .int 0, .int 0])), (q3, .inr (11, [.ref q4, .int 0])), (q4, .inl (cy5, 80, .inl (fun _ => 0))), (q6, .inr (11, [.ref q7, .int 0])), (q7, .inl (cy8, 4960, .inl (fun _ => 0))), (q9, .inr (11, [.ref q10, .int 0])), (q10, .inl (cy11, 4960, .inl (fun _ => 0))), (q12, .inr (11, [.ref q13, .int 0])), (q13, .inl (cy14, 4960, .inl (fun _ => 0))), (q15, .inr (11, [.ref q16, .int 0])), (q16, .inl (cy17, 4960, .inl (fun _ => 0))), (q18, .inr (11, [.ref q19, .int 0])), (q19, .inl (cy20, 4960, .inl (fun _ => 0))), (q21, .inr (11, [.ref q22, .int 0])), (q22, .inl (cy23, 4960, .inl (fun _ => 0))), (q24, .inr (11, [.ref q25, .int 0])), (q26, .inr (11, [.ref q27, .int 0])), (q27, .inl (cy28, 4960, .inl (fun _ => 0))), (q29, .inr (11, [.ref q30, .int 0])), (q30, .inl (cy31, 60, .inl (fun _ => 0))), (q32, .inr (11, [.ref q33, .int 0])), (q33, .inl (cy34, 6, .inl (fun _ => 0))), (q35, .inr (8, [.ref q36, .ref q38, .ref q40])), (q36, .inr (11, [.ref q37, .int 0])), (q38, .inr (11, [.ref q39, .int 0])), (q40, .inr (11, [.ref q41, .int 0])), (q42, .inr (7, [.ref q43, .ref q45, .ref q47, .ref q49, .ref q51, .ref q53, .ref q55, .int 0, .int 0, .int 0, .int 0])), (q43, .inr (11, [.ref q44, .int 0])), (q45, .inr (11, [.ref q46, .int 0])), (q47, .inr (11, [.ref q48, .int 0])), (q49, .inr (11, [.ref q50, .int 0])), (q51, .inr (11, [.ref q52, .int 0])), (q53, .inr (11, [.ref q54, .int 0])), (q55, .inr (11, [.ref q56, .int 0])), (q2, .inr (10, [.ref q3, .ref q6, .ref q9, .ref q12, .ref q15, .ref q18, .ref q21, .ref q24, .ref q26])), (q59, .inr (13, [.ref q2, .ref q42, .ref q57, .ref q58, .ref q60])), (q61, .inr (1, [.ref q62, .int 0, .int 0, .int 0])), (q62, .inl (cy63, 16, .inl (fun _ => 0))), (q64, .inr (14, [.ref q65, .ref q67, .ref q69, .ref q71, .ref q73, .ref q75, .ref q77, .ref q79, .ref q81, .int (-1)])), (q65, .inr (11, [.ref q66, .int 0])), (q67, .inr (11, [.ref q68, .int 0])), (q69, .inr (11, [.ref q70, .int 0])), (q71, .inr (11, [.ref q72, .int 0])), (q73, .inr (11, [.ref q74, .int 0])), (q75, .inr (11, [.ref q76, .int 0])), (q77, .inr (11, [.ref q78, .int 0])), (q79, .inr (11, [.ref q80, .int 0])), (q81, .inr (11, [.ref q82, .int 0])), (q83, .inr (14, [.ref q84, .ref q86, .ref q88, .ref q90, .ref q92, .ref q94, .ref q96, .ref q98, .ref q100, .int (-1)])), (q84, .inr (11, [.ref q85, .int 0])), (q86, .inr (11, [.ref q87, .int 0])), (q88, .inr (11, [.ref q89, .int 0])), (q90, .inr (11, [.ref q91, .int 0])), (q92, .inr (11, [.ref q93, .int 0])), (q94, .inr (11, [.ref q95, .int 0])), (q96, .inr (11, [.ref q97, .int 0])), (q98, .inr (11, [.ref q99, .int 0])), (q100, .inr (11, [.ref q101, .int 0])), (q102, .inr (23, [.int 0, .ref q103, .int 20, .int 60, .ref (g 34), .null, .int 0, .int 0, .int 0])), (q103, .inr (6, [.int 0, .ref (g 0), .int 0])), (q104, .inr (17, [.long 0, .null]))] H) (hD : va_D A [(q1, .inr (16, [.ref q2, .ref q29, .ref q32, .ref q35, .ref q42, .ref q57, .ref q58, .ref q59, .ref q61, .ref q64, .ref q83, .int 20, .int 60, .int 0, .int 0, .int 0])), (q3, .inr (11, [.ref q4, .int 0])), (q4, .inl (cy5, 80, .inl (fun _ => 0))), (q6, .inr (11, [.ref q7, .int 0])), (q7, .inl (cy8, 4960, .inl (fun _ => 0))), (q9, .inr (11, [.ref q10, .int 0])), (q10, .inl (cy11, 4960, .inl (fun _ => 0))), (q12, .inr (11, [.ref q13, .int 0])), (q13, .inl (cy14, 4960, .inl (fun _ => 0))), (q15, .inr (11, [.ref q16, .int 0])), (q16, .inl (cy17, 4960, .inl (fun _ => 0))), (q18, .inr (11, [.ref q19, .int 0])), (q19, .inl (cy20, 4960, .inl (fun _ => 0))), (q21, .inr (11, [.ref q22, .int 0])), (q22, .inl (cy23, 4960, .inl (fun _ => 0))), (q24, .inr (11, [.ref q25, .int 0])), (q26, .inr (11, [.ref q27, .int 0])), (q27, .inl (cy28, 4960, .inl (fun _ => 0))), (q29, .inr (11, [.ref q30, .int 0])), (q30, .inl (cy31, 60, .inl (fun _ => 0))), (q32, .inr (11, [.ref q33, .int 0])), (q33, .inl (cy34, 6, .inl (fun _ => 0))), (q35, .inr (8, [.ref q36, .ref q38, .ref q40])), (q36, .inr (11, [.ref q37, .int 0])), (q38, .inr (11, [.ref q39, .int 0])), (q40, .inr (11, [.ref q41, .int 0])), (q42, .inr (7, [.ref q43, .ref q45, .ref q47, .ref q49, .ref q51, .ref q53, .ref q55, .int 0, .int 0, .int 0, .int 0])), (q43, .inr (11, [.ref q44, .int 0])), (q45, .inr (11, [.ref q46, .int 0])), (q47, .inr (11, [.ref q48, .int 0])), (q49, .inr (11, [.ref q50, .int 0])), (q51, .inr (11, [.ref q52, .int 0])), (q53, .inr (11, [.ref q54, .int 0])), (q55, .inr (11, [.ref q56, .int 0])), (q2, .inr (10, [.ref q3, .ref q6, .ref q9, .ref q12, .ref q15, .ref q18, .ref q21, .ref q24, .ref q26])), (q59, .inr (13, [.ref q2, .ref q42, .ref q57, .ref q58, .ref q60])), (q61, .inr (1, [.ref q62, .int 0, .int 0, .int 0])), (q62, .inl (cy63, 16, .inl (fun _ => 0))), (q64, .inr (14, [.ref q65, .ref q67, .ref q69, .ref q71, .ref q73, .ref q75, .ref q77, .ref q79, .ref q81, .int (-1)])), (q65, .inr (11, [.ref q66, .int 0])), (q67, .inr (11, [.ref q68, .int 0])), (q69, .inr (11, [.ref q70, .int 0])), (q71, .inr (11, [.ref q72, .int 0])), (q73, .inr (11, [.ref q74, .int 0])), (q75, .inr (11, [.ref q76, .int 0])), (q77, .inr (11, [.ref q78, .int 0])), (q79, .inr (11, [.ref q80, .int 0])), (q81, .inr (11, [.ref q82, .int 0])), (q83, .inr (14, [.ref q84, .ref q86, .ref q88, .ref q90, .ref q92, .ref q94, .ref q96, .ref q98, .ref q100, .int (-1)])), (q84, .inr (11, [.ref q85, .int 0])), (q86, .inr (11, [.ref q87, .int 0])), (q88, .inr (11, [.ref q89, .int 0])), (q90, .inr (11, [.ref q91, .int 0])), (q92, .inr (11, [.ref q93, .int 0])), (q94, .inr (11, [.ref q95, .int 0])), (q96, .inr (11, [.ref q97, .int 0])), (q98, .inr (11, [.ref q99, .int 0])), (q100, .inr (11, [.ref q101, .int 0])), (q102, .inr (23, [.int 0, .ref q103, .int 20, .int 60, .ref (g 34), .null, .int 0, .int 0, .int 0])), (q103, .inr (6, [.int 0, .ref (g 0), .int 0])), (q104, .inr (17, [.long 0, .null]))]) (hS : va_S A s.heap H locs) (hl : lv_has ls 7 [(4, .int 0), (3, .ref q104), (2, .ref q102), (1, .ref q1), (0, .ref b)]) : W p l e room_1 s m #[Value.ref b] below meth c H locs 170 112419 (lw_Z below #[Value.ref b] s) (F0 m 778 ls []) := by
  obtain ⟨hx, hb, hr, hml, hown, hts0, hX, hbl, hlocks, hgv⟩ := id C0
  have hta : ∀ w ∈ wsALL, w.before #[Value.ref b] s = true := fun w h => hts0 w (wa_in w h)
  have hts := hta
  have hbA : ¬ A b := fun h => absurd (hAx b h) (Nat.not_le.mpr hbl)
  have hP := hP.sub (ws' := [(q1, .inr (16, [.ref q2, .ref q29, .ref q32, .ref q35, .ref q42, .ref q57, .ref q58, .ref q59, .ref q61, .ref q64, .ref q83, .int 20, .int 60, .int 0, .int 0, .int 0])), (q29, .inr (11, [.ref q30, .int 0])), (q30, .inl (cy31, 60, .inl (fun _ => 0))), (q32, .inr (11, [.ref q33, .int 0])), (q33, .inl (cy34, 6, .inl (fun _ => 0))), (q102, .inr (23, [.int 0, .ref q103, .int 20, .int 60, .ref (g 34), .null, .int 0, .int 0, .int 0])), (q104, .inr (17, [.long 0, .null]))]) [0, 18, 19, 20, 21, 58, 60] rfl
  have hD := hD.sub (ws' := [(q1, .inr (16, [.ref q2, .ref q29, .ref q32, .ref q35, .ref q42, .ref q57, .ref q58, .ref q59, .ref q61, .ref q64, .ref q83, .int 20, .int 60, .int 0, .int 0, .int 0])), (q29, .inr (11, [.ref q30, .int 0])), (q30, .inl (cy31, 60, .inl (fun _ => 0))), (q32, .inr (11, [.ref q33, .int 0])), (q33, .inl (cy34, 6, .inl (fun _ => 0))), (q102, .inr (23, [.int 0, .ref q103, .int 20, .int 60, .ref (g 34), .null, .int 0, .int 0, .int 0])), (q104, .inr (17, [.long 0, .null]))]) [0, 18, 19, 20, 21, 58, 60] (by decide) rfl
  have hK := hK.sub (tys' := [(cy31, .int), (cy34, .int)]) [8, 9] rfl
  refine lv_aload_n hx hb dL_law_778 rfl (lv_at hl 3 rfl) ?_
  refine lv_aload_n hx hb dL_law_779 rfl (lv_at hl 4 rfl) ?_
  refine lv_iload hx hb dL_law_780 (lv_at hl 0 rfl) ?_
  refine lv_iconst (v := 1) hx hb dL_law_782 (by decide) ?_
  refine lv_iadd hx hb dL_law_783 ?_
  refine lv_topi (fun y1001 ey1001 => ?_)
  obtain rfl : y1001 = 1 := ey1001.trans (by decide)
  refine va_sld hx hb hX hbl hbA hS (vp_in_nI (n := 1) (by decide) (by decide)) dL_law_784 ?_
  refine lv_topi (fun z1 ez1 => ?_)
  have ez1 : z1 = xs 1 := ez1
  have rz1 := ns_rng z1
  rcases (show ((-2147483648 : Int) ≤ z1.toInt ∧ z1.toInt ≤ (-2 : Int)) ∨ ((-1 : Int) ≤ z1.toInt ∧ z1.toInt ≤ (21 : Int)) ∨ ((22 : Int) ≤ z1.toInt ∧ z1.toInt ≤ (2147483647 : Int)) by omega) with r1 | r1 | r1
  · have _h9 := 0
    refine lv_aload_n hx hb dL_law_785 rfl (lv_at hl 4 rfl) ?_
    refine lv_iload hx hb dL_law_786 (lv_at hl 0 rfl) ?_
    refine lv_iconst (v := 2) hx hb dL_law_788 (by decide) ?_
    refine lv_iadd hx hb dL_law_789 ?_
    refine lv_topi (fun y1003 ey1003 => ?_)
    obtain rfl : y1003 = 2 := ey1003.trans (by decide)
    refine va_sld hx hb hX hbl hbA hS (vp_in_nI (n := 2) (by decide) (by decide)) dL_law_790 ?_
    refine lv_topi (fun z2 ez2 => ?_)
    have ez2 : z2 = xs 2 := ez2
    refine lv_aload_n hx hb dL_law_791 rfl (lv_at hl 4 rfl) ?_
    refine lv_iload hx hb dL_law_792 (lv_at hl 0 rfl) ?_
    refine lv_iconst (v := 3) hx hb dL_law_794 (by decide) ?_
    refine lv_iadd hx hb dL_law_795 ?_
    refine lv_topi (fun y1005 ey1005 => ?_)
    obtain rfl : y1005 = 3 := ey1005.trans (by decide)
    refine va_sld hx hb hX hbl hbA hS (vp_in_nI (n := 3) (by decide) (by decide)) dL_law_796 ?_
    refine lv_topi (fun z3 ez3 => ?_)
    have ez3 : z3 = xs 3 := ez3
    refine lv_aload_n hx hb dL_law_797 rfl (lv_at hl 4 rfl) ?_
    refine lv_iload hx hb dL_law_798 (lv_at hl 0 rfl) ?_
    refine lv_iconst (v := 4) hx hb dL_law_800 (by decide) ?_
    refine lv_iadd hx hb dL_law_801 ?_
    refine lv_topi (fun y1007 ey1007 => ?_)
    obtain rfl : y1007 = 4 := ey1007.trans (by decide)
    refine va_sld hx hb hX hbl hbA hS (vp_in_nI (n := 4) (by decide) (by decide)) dL_law_802 ?_
    refine lv_topi (fun z4 ez4 => ?_)
    have ez4 : z4 = xs 4 := ez4
    refine lv_aload_n hx hb dL_law_803 rfl (lv_at hl 4 rfl) ?_
    refine lv_iload hx hb dL_law_804 (lv_at hl 0 rfl) ?_
    refine lv_iconst (v := 5) hx hb dL_law_806 (by decide) ?_
    refine lv_iadd hx hb dL_law_807 ?_
    refine lv_topi (fun y1009 ey1009 => ?_)
    obtain rfl : y1009 = 5 := ey1009.trans (by decide)
    refine va_sld hx hb hX hbl hbA hS (vp_in_nI (n := 5) (by decide) (by decide)) dL_law_808 ?_
    refine lv_topi (fun z5 ez5 => ?_)
    have ez5 : z5 = xs 5 := ez5
    refine lv_aload_n hx hb dL_law_809 rfl (lv_at hl 4 rfl) ?_
    refine lv_iload hx hb dL_law_810 (lv_at hl 0 rfl) ?_
    refine lv_bipush (v := 6) hx hb dL_law_812 (by decide) ?_
    refine lv_iadd hx hb dL_law_814 ?_
    refine lv_topi (fun y1011 ey1011 => ?_)
    obtain rfl : y1011 = 6 := ey1011.trans (by decide)
    refine va_sld hx hb hX hbl hbA hS (vp_in_nI (n := 6) (by decide) (by decide)) dL_law_815 ?_
    refine lv_topi (fun z6 ez6 => ?_)
    have ez6 : z6 = xs 6 := ez6
    refine lv_aload_n hx hb dL_law_816 rfl (lv_at hl 1 rfl) ?_
    have hPc := hP.sub (ws' := [(q1, .inr (16, [.ref q2, .ref q29, .ref q32, .ref q35, .ref q42, .ref q57, .ref q58, .ref q59, .ref q61, .ref q64, .ref q83, .int 20, .int 60, .int 0, .int 0, .int 0])), (q32, .inr (11, [.ref q33, .int 0])), (q33, .inl (cy34, 6, .inl (fun _ => 0)))]) [0, 3, 4] rfl
    have hDc := hD.sub (ws' := [(q1, .inr (16, [.ref q2, .ref q29, .ref q32, .ref q35, .ref q42, .ref q57, .ref q58, .ref q59, .ref q61, .ref q64, .ref q83, .int 20, .int 60, .int 0, .int 0, .int 0])), (q32, .inr (11, [.ref q33, .int 0])), (q33, .inl (cy34, 6, .inl (fun _ => 0)))]) [0, 3, 4] (by decide) rfl
    have hKc := hK.sub (tys' := [(cy34, .int)]) [1] rfl
    have hFc := va_free (wc := [(q1, .inr (16, [.ref q2, .ref q29, .ref q32, .ref q35, .ref q42, .ref q57, .ref q58, .ref q59, .ref q61, .ref q64, .ref q83, .int 20, .int 60, .int 0, .int 0, .int 0])), (q32, .inr (11, [.ref q33, .int 0])), (q33, .inl (cy34, 6, .inl (fun _ => 0)))]) hD hS hA [0, 3, 4] rfl
    refine va_calli (vx_runSW (As := [.ref q1, .int z1, .int z2, .int z3, .int z4, .int z5, .int z6, .ref q104]) (rest := []) ⟨hx, hb, hml, hown, hts⟩ (kL_say l dC dI g H.size q1 z1 z2 z3 z4 z5 z6 q104 q32 q33 (.ref q2) (.ref q29) (.ref q35) (.ref q42) (.ref q57) (.ref q58) (.ref q59) (.ref q61) (.ref q64) (.ref q83) (.int 20) (.int 60) (.int 0) (.int 0) (.int 0) (.int 0) cy34 ⟨by omega, by omega⟩ hlt) (vx_cwSW 8 hts (ns_gq (List.forall_mem_cons.mpr ⟨wm657, (List.forall_mem_cons.mpr ⟨wm658, (List.forall_mem_cons.mpr ⟨wm408, (fun _ h9 => nomatch h9)⟩)⟩)⟩) wm563) rfl rfl rfl (by decide +kernel) ⟨Nat.le_of_ble_eq_true rfl, Nat.le_of_ble_eq_true rfl⟩) ⟨fun a U gg mk q => by obtain ⟨q0, q1, qP, qK, qD, qF⟩ := q; exact ⟨q0, q1, qP, va_K.moved (u := U) (U := U.calling gg mk a) (Vm.Alike.refl U.vm) qK, qD, ns_same qF⟩, fun U hU hW => ⟨rfl, by rw [hU], by rw [hU]; exact hPc, va_K.moved hW.alike hKc, hDc.weaken (fun _ _ _ _ => trivial), ns_call hF hS hFc hU hW⟩⟩ rfl rfl hl.1 rfl (lv_room (Nat.le_of_ble_eq_true rfl)) dL_law_817 ⟨Nat.le_of_ble_eq_true rfl, Nat.le_of_ble_eq_true rfl⟩) hS (fun q _ h => hFc q h) hFc (fun r9 u t H1 locs ht hvm hw hB hz1 hk1 hS => ?_)
    obtain rfl := hw.symm
    obtain ⟨hP1, hK1, hD1⟩ := hB
    rw [ht] at hP1
    have hK1 := va_K.moved hvm.symm hK1
    obtain ⟨hP, hD⟩ := va_join (wr := [(q29, .inr (11, [.ref q30, .int 0])), (q30, .inl (cy31, 60, .inl (fun _ => 0))), (q102, .inr (23, [.int 0, .ref q103, .int 20, .int 60, .ref (g 34), .null, .int 0, .int 0, .int 0])), (q104, .inr (17, [.long 0, .null]))]) (w1 := []) hP hD [0, 3, 4] [1, 2, 5, 6] rfl rfl (by decide) (by decide) hk1 hFc hP1 hD1
    have hK := (hK.sub (tys' := [(cy31, .int), (cy34, .int)]) [0, 1] rfl).app hK1
    generalize H1 = H at hP hS ⊢
    have hP : va_P (dC, dI) vwCl [(q29, .inr (11, [.ref q30, .int 0])), (q30, .inl (cy31, 60, .inl (fun _ => 0))), (q102, .inr (23, [.int 0, .ref q103, .int 20, .int 60, .ref (g 34), .null, .int 0, .int 0, .int 0])), (q104, .inr (17, [.long 0, .null]))] H := hP
    have hD : va_D A [(q29, .inr (11, [.ref q30, .int 0])), (q30, .inl (cy31, 60, .inl (fun _ => 0))), (q102, .inr (23, [.int 0, .ref q103, .int 20, .int 60, .ref (g 34), .null, .int 0, .int 0, .int 0])), (q104, .inr (17, [.long 0, .null]))] := hD
    have hK : va_K (dC, dI) vwCl [(cy31, .int), (cy34, .int)] s := hK
    refine W.widen (k := 171) (n := 112425) (Nat.le_of_ble_eq_true rfl) (Nat.le_of_ble_eq_true rfl) ?_
    refine lv_istore (lv' := [(5, .int 1), (4, .int 0), (3, .ref q104), (2, .ref q102), (1, .ref q1), (0, .ref b)]) hx hb dL_law_820 hl (by decide) rfl (fun ls hl => ?_)
    refine lv_aload_n hx hb dL_law_822 rfl (lv_at hl 3 rfl) ?_
    refine lv_aload_n hx hb dL_law_823 rfl (lv_at hl 5 rfl) ?_
    refine lv_iload hx hb dL_law_824 (lv_at hl 1 rfl) ?_
    refine lv_iconst (v := 1) hx hb dL_law_826 (by decide) ?_
    refine lv_iadd hx hb dL_law_827 ?_
    refine lv_topi (fun y1013 ey1013 => ?_)
    obtain rfl : y1013 = 1 := ey1013.trans (by decide)
    refine va_sld hx hb hX hbl hbA hS (vp_in_nI (n := 1) (by decide) (by decide)) dL_law_828 ?_
    refine lv_topi (fun z1014 ez1014 => ?_)
    obtain rfl : z1 = z1014 := (ez1014.trans ez1.symm).symm
    refine lv_aload_n hx hb dL_law_829 rfl (lv_at hl 5 rfl) ?_
    refine lv_iload hx hb dL_law_830 (lv_at hl 1 rfl) ?_
    refine lv_iconst (v := 2) hx hb dL_law_832 (by decide) ?_
    refine lv_iadd hx hb dL_law_833 ?_
    refine lv_topi (fun y1015 ey1015 => ?_)
    obtain rfl : y1015 = 2 := ey1015.trans (by decide)
    refine va_sld hx hb hX hbl hbA hS (vp_in_nI (n := 2) (by decide) (by decide)) dL_law_834 ?_
    refine lv_topi (fun z1016 ez1016 => ?_)
    obtain rfl : z2 = z1016 := (ez1016.trans ez2.symm).symm
    refine lv_aload_n hx hb dL_law_835 rfl (lv_at hl 5 rfl) ?_
    refine lv_iload hx hb dL_law_836 (lv_at hl 1 rfl) ?_
    refine lv_iconst (v := 3) hx hb dL_law_838 (by decide) ?_
    refine lv_iadd hx hb dL_law_839 ?_
    refine lv_topi (fun y1017 ey1017 => ?_)
    obtain rfl : y1017 = 3 := ey1017.trans (by decide)
    refine va_sld hx hb hX hbl hbA hS (vp_in_nI (n := 3) (by decide) (by decide)) dL_law_840 ?_
    refine lv_topi (fun z1018 ez1018 => ?_)
    obtain rfl : z3 = z1018 := (ez1018.trans ez3.symm).symm
    refine lv_aload_n hx hb dL_law_841 rfl (lv_at hl 5 rfl) ?_
    refine lv_iload hx hb dL_law_842 (lv_at hl 1 rfl) ?_
    refine lv_iconst (v := 4) hx hb dL_law_844 (by decide) ?_
    refine lv_iadd hx hb dL_law_845 ?_
    refine lv_topi (fun y1019 ey1019 => ?_)
    obtain rfl : y1019 = 4 := ey1019.trans (by decide)
    refine va_sld hx hb hX hbl hbA hS (vp_in_nI (n := 4) (by decide) (by decide)) dL_law_846 ?_
    refine lv_topi (fun z1020 ez1020 => ?_)
    obtain rfl : z4 = z1020 := (ez1020.trans ez4.symm).symm
    refine lv_aload_n hx hb dL_law_847 rfl (lv_at hl 5 rfl) ?_
    refine lv_iload hx hb dL_law_848 (lv_at hl 1 rfl) ?_
    refine lv_iconst (v := 5) hx hb dL_law_850 (by decide) ?_
    refine lv_iadd hx hb dL_law_851 ?_
    refine lv_topi (fun y1021 ey1021 => ?_)
    obtain rfl : y1021 = 5 := ey1021.trans (by decide)
    refine va_sld hx hb hX hbl hbA hS (vp_in_nI (n := 5) (by decide) (by decide)) dL_law_852 ?_
    refine lv_topi (fun z1022 ez1022 => ?_)
    obtain rfl : z5 = z1022 := (ez1022.trans ez5.symm).symm
    refine lv_aload_n hx hb dL_law_853 rfl (lv_at hl 5 rfl) ?_
    refine lv_iload hx hb dL_law_854 (lv_at hl 1 rfl) ?_
    refine lv_bipush (v := 6) hx hb dL_law_856 (by decide) ?_
    refine lv_iadd hx hb dL_law_858 ?_
    refine lv_topi (fun y1023 ey1023 => ?_)
    obtain rfl : y1023 = 6 := ey1023.trans (by decide)
    refine va_sld hx hb hX hbl hbA hS (vp_in_nI (n := 6) (by decide) (by decide)) dL_law_859 ?_
    refine lv_topi (fun z1024 ez1024 => ?_)
    obtain rfl : z6 = z1024 := (ez1024.trans ez6.symm).symm
    have hPc := hP.sub (ws' := [(q102, .inr (23, [.int 0, .ref q103, .int 20, .int 60, .ref (g 34), .null, .int 0, .int 0, .int 0]))]) [2] rfl
    have hDc := hD.sub (ws' := [(q102, .inr (23, [.int 0, .ref q103, .int 20, .int 60, .ref (g 34), .null, .int 0, .int 0, .int 0]))]) [2] (by decide) rfl
    have hKc := hK.sub (tys' := []) [] rfl
    have hFc := va_free (wc := [(q102, .inr (23, [.int 0, .ref q103, .int 20, .int 60, .ref (g 34), .null, .int 0, .int 0, .int 0]))]) hD hS hA [2] rfl
    refine va_calli (va_runV (As := [.int z1, .int z2, .int z3, .int z4, .int z5, .int z6]) (rest := []) ⟨hx, hb, hml, hown, hts⟩ (kX16_say l dC dI g H.size q102 z1 z2 z3 z4 z5 z6 (.int 0) (.ref q103) (.int 20) (.int 60) (.ref (g 34)) .null (.int 0) (.int 0) (.int 0) ⟨by omega, by omega⟩) (cwV 6 hts (ns_gq (List.forall_mem_cons.mpr ⟨wm659, (List.forall_mem_cons.mpr ⟨wm660, (List.forall_mem_cons.mpr ⟨wm661, (List.forall_mem_cons.mpr ⟨wm192, (fun _ h9 => nomatch h9)⟩)⟩)⟩)⟩) wm564) rfl rfl rfl (by decide +kernel) ⟨Nat.le_of_ble_eq_true rfl, Nat.le_of_ble_eq_true rfl⟩) ⟨fun a U gg mk q => by obtain ⟨q0, q1, qP, qK, qD, qF⟩ := q; exact ⟨q0, q1, qP, va_K.moved (u := U) (U := U.calling gg mk a) (Vm.Alike.refl U.vm) qK, qD, ns_same qF⟩, va_recv hK hP (ci := 23) (q0 := 2) rfl rfl, fun U hU hW => ⟨rfl, by rw [hU], by rw [hU]; exact hPc, va_K.moved hW.alike hKc, hDc.weaken (fun _ _ _ _ => trivial), ns_call hF hS hFc hU hW⟩⟩ rfl rfl hl.1 rfl (lv_room (Nat.le_of_ble_eq_true rfl)) dL_law_860 ⟨Nat.le_of_ble_eq_true rfl, Nat.le_of_ble_eq_true rfl⟩) hS (fun q _ h => hFc q h) hFc (fun r9 u t H1 locs ht hvm hw hB hz1 hk1 hS => ?_)
    obtain rfl := hw.symm
    obtain ⟨hP1, hK1, hD1⟩ := hB
    rw [ht] at hP1
    have hK1 := va_K.moved hvm.symm hK1
    obtain ⟨hP, hD⟩ := va_join (wr := [(q29, .inr (11, [.ref q30, .int 0])), (q30, .inl (cy31, 60, .inl (fun _ => 0))), (q104, .inr (17, [.long 0, .null]))]) (w1 := [(q102, .inr (23, [.int 1, .ref q103, .int 20, .int 60, .ref (g 34), .null, .int 0, .int 0, .int 0]))]) hP hD [2] [0, 1, 3] rfl rfl (by decide) (by decide) hk1 hFc hP1 hD1
    have hK := (hK.sub (tys' := [(cy31, .int), (cy34, .int)]) [0, 1] rfl).app hK1
    generalize H1 = H at hP hS ⊢
    have hP : va_P (dC, dI) vwCl [(q29, .inr (11, [.ref q30, .int 0])), (q30, .inl (cy31, 60, .inl (fun _ => 0))), (q104, .inr (17, [.long 0, .null])), (q102, .inr (23, [.int 1, .ref q103, .int 20, .int 60, .ref (g 34), .null, .int 0, .int 0, .int 0]))] H := hP
    have hD : va_D A [(q29, .inr (11, [.ref q30, .int 0])), (q30, .inl (cy31, 60, .inl (fun _ => 0))), (q104, .inr (17, [.long 0, .null])), (q102, .inr (23, [.int 1, .ref q103, .int 20, .int 60, .ref (g 34), .null, .int 0, .int 0, .int 0]))] := hD
    have hK : va_K (dC, dI) vwCl [(cy31, .int), (cy34, .int)] s := hK
    refine W.widen (k := 172) (n := 112431) (Nat.le_of_ble_eq_true rfl) (Nat.le_of_ble_eq_true rfl) ?_
    refine lv_istore (lv' := [(6, .int 0), (5, .int 1), (4, .int 0), (3, .ref q104), (2, .ref q102), (1, .ref q1), (0, .ref b)]) hx hb dL_law_863 hl (by decide) rfl (fun ls hl => ?_)
    refine lv_aload_n hx hb dL_law_865 rfl (lv_at hl 4 rfl) ?_
    have hPc := hP.sub (ws' := [(q102, .inr (23, [.int 1, .ref q103, .int 20, .int 60, .ref (g 34), .null, .int 0, .int 0, .int 0]))]) [3] rfl
    have hDc := hD.sub (ws' := [(q102, .inr (23, [.int 1, .ref q103, .int 20, .int 60, .ref (g 34), .null, .int 0, .int 0, .int 0]))]) [3] (by decide) rfl
    have hKc := hK.sub (tys' := []) [] rfl
    have hFc := va_free (wc := [(q102, .inr (23, [.int 1, .ref q103, .int 20, .int 60, .ref (g 34), .null, .int 0, .int 0, .int 0]))]) hD hS hA [3] rfl
    refine va_calli (va_runV (As := []) (rest := []) ⟨hx, hb, hml, hown, hts⟩ (kX16_thrown l dC dI g H.size q102 (.ref q103) (.int 20) (.int 60) (.ref (g 34)) .null (.int 0) (.int 0) (.int 0) ) (cwV 0 hts (ns_gq (List.forall_mem_cons.mpr ⟨wm414, (List.forall_mem_cons.mpr ⟨wm415, (List.forall_mem_cons.mpr ⟨wm416, (List.forall_mem_cons.mpr ⟨wm192, (fun _ h9 => nomatch h9)⟩)⟩)⟩)⟩) wm246) rfl rfl rfl (by decide +kernel) ⟨Nat.le_of_ble_eq_true rfl, Nat.le_of_ble_eq_true rfl⟩) ⟨fun a U gg mk q => by obtain ⟨q0, q1, qP, qK, qD, qF⟩ := q; exact ⟨q0, q1, qP, va_K.moved (u := U) (U := U.calling gg mk a) (Vm.Alike.refl U.vm) qK, qD, ns_same qF⟩, va_recv hK hP (ci := 23) (q0 := 3) rfl rfl, fun U hU hW => ⟨rfl, by rw [hU], by rw [hU]; exact hPc, va_K.moved hW.alike hKc, hDc.weaken (fun _ _ _ _ => trivial), ns_call hF hS hFc hU hW⟩⟩ rfl rfl hl.1 rfl (lv_room (Nat.le_of_ble_eq_true rfl)) dL_law_866 ⟨Nat.le_of_ble_eq_true rfl, Nat.le_of_ble_eq_true rfl⟩) hS (fun q _ h => hFc q h) hFc (fun r9 u t H1 locs ht hvm hw hB hz1 hk1 hS => ?_)
    obtain rfl := hw.symm
    obtain ⟨hP1, hK1, hD1⟩ := hB
    rw [ht] at hP1
    have hK1 := va_K.moved hvm.symm hK1
    obtain ⟨hP, hD⟩ := va_join (wr := [(q29, .inr (11, [.ref q30, .int 0])), (q30, .inl (cy31, 60, .inl (fun _ => 0))), (q104, .inr (17, [.long 0, .null]))]) (w1 := [(q102, .inr (23, [.int 1, .ref q103, .int 20, .int 60, .ref (g 34), .null, .int 0, .int 0, .int 0]))]) hP hD [3] [0, 1, 2] rfl rfl (by decide) (by decide) hk1 hFc hP1 hD1
    have hK := (hK.sub (tys' := [(cy31, .int), (cy34, .int)]) [0, 1] rfl).app hK1
    generalize H1 = H at hP hS ⊢
    have hP : va_P (dC, dI) vwCl [(q29, .inr (11, [.ref q30, .int 0])), (q30, .inl (cy31, 60, .inl (fun _ => 0))), (q104, .inr (17, [.long 0, .null])), (q102, .inr (23, [.int 1, .ref q103, .int 20, .int 60, .ref (g 34), .null, .int 0, .int 0, .int 0]))] H := hP
    have hD : va_D A [(q29, .inr (11, [.ref q30, .int 0])), (q30, .inl (cy31, 60, .inl (fun _ => 0))), (q104, .inr (17, [.long 0, .null])), (q102, .inr (23, [.int 1, .ref q103, .int 20, .int 60, .ref (g 34), .null, .int 0, .int 0, .int 0]))] := hD
    have hK : va_K (dC, dI) vwCl [(cy31, .int), (cy34, .int)] s := hK
    refine W.widen (k := 172) (n := 112431) (Nat.le_of_ble_eq_true rfl) (Nat.le_of_ble_eq_true rfl) ?_
    refine lv_iload hx hb dL_law_869 (lv_at hl 1 rfl) ?_
    refine lv_icmp_eq (tgt := 876) hx hb dL_law_871 (by decide) (fun c1025 => ?_) (fun c1025 => absurd (by decide) c1025)
    refine lv_iload hx hb dL_law_876 (lv_at hl 1 rfl) ?_
    refine lv_if_ne (tgt := 894) hx hb dL_law_878 (by decide) (fun c1026 => ?_) (fun c1026 => absurd c1026 (by decide))
    refine lv_goto (tgt := 2216) hx hb dL_law_894 (by decide) ?_
    exact law_tail C0 hA hAx hS (lv_sub hl [2, 6] rfl) (Nat.le_of_ble_eq_true rfl) (Nat.le_of_ble_eq_true rfl)
  · have _h9 := 0
    refine lv_aload_n hx hb dL_law_785 rfl (lv_at hl 4 rfl) ?_
    refine lv_iload hx hb dL_law_786 (lv_at hl 0 rfl) ?_
    refine lv_iconst (v := 2) hx hb dL_law_788 (by decide) ?_
    refine lv_iadd hx hb dL_law_789 ?_
    refine lv_topi (fun y1027 ey1027 => ?_)
    obtain rfl : y1027 = 2 := ey1027.trans (by decide)
    refine va_sld hx hb hX hbl hbA hS (vp_in_nI (n := 2) (by decide) (by decide)) dL_law_790 ?_
    refine lv_topi (fun z2 ez2 => ?_)
    have ez2 : z2 = xs 2 := ez2
    have rz2 := ns_rng z2
    rcases (show ((-2147483648 : Int) ≤ z2.toInt ∧ z2.toInt ≤ (-2 : Int)) ∨ ((-1 : Int) ≤ z2.toInt ∧ z2.toInt ≤ (21 : Int)) ∨ ((22 : Int) ≤ z2.toInt ∧ z2.toInt ≤ (2147483647 : Int)) by omega) with r2 | r2 | r2
    · have _h9 := 0
      refine lv_aload_n hx hb dL_law_791 rfl (lv_at hl 4 rfl) ?_
      refine lv_iload hx hb dL_law_792 (lv_at hl 0 rfl) ?_
      refine lv_iconst (v := 3) hx hb dL_law_794 (by decide) ?_
      refine lv_iadd hx hb dL_law_795 ?_
      refine lv_topi (fun y1029 ey1029 => ?_)
      obtain rfl : y1029 = 3 := ey1029.trans (by decide)
      refine va_sld hx hb hX hbl hbA hS (vp_in_nI (n := 3) (by decide) (by decide)) dL_law_796 ?_
      refine lv_topi (fun z3 ez3 => ?_)
      have ez3 : z3 = xs 3 := ez3
      refine lv_aload_n hx hb dL_law_797 rfl (lv_at hl 4 rfl) ?_
      refine lv_iload hx hb dL_law_798 (lv_at hl 0 rfl) ?_
      refine lv_iconst (v := 4) hx hb dL_law_800 (by decide) ?_
      refine lv_iadd hx hb dL_law_801 ?_
      refine lv_topi (fun y1031 ey1031 => ?_)
      obtain rfl : y1031 = 4 := ey1031.trans (by decide)
      refine va_sld hx hb hX hbl hbA hS (vp_in_nI (n := 4) (by decide) (by decide)) dL_law_802 ?_
      refine lv_topi (fun z4 ez4 => ?_)
      have ez4 : z4 = xs 4 := ez4
      refine lv_aload_n hx hb dL_law_803 rfl (lv_at hl 4 rfl) ?_
      refine lv_iload hx hb dL_law_804 (lv_at hl 0 rfl) ?_
      refine lv_iconst (v := 5) hx hb dL_law_806 (by decide) ?_
      refine lv_iadd hx hb dL_law_807 ?_
      refine lv_topi (fun y1033 ey1033 => ?_)
      obtain rfl : y1033 = 5 := ey1033.trans (by decide)
      refine va_sld hx hb hX hbl hbA hS (vp_in_nI (n := 5) (by decide) (by decide)) dL_law_808 ?_
      refine lv_topi (fun z5 ez5 => ?_)
      have ez5 : z5 = xs 5 := ez5
      refine lv_aload_n hx hb dL_law_809 rfl (lv_at hl 4 rfl) ?_
      refine lv_iload hx hb dL_law_810 (lv_at hl 0 rfl) ?_
      refine lv_bipush (v := 6) hx hb dL_law_812 (by decide) ?_
      refine lv_iadd hx hb dL_law_814 ?_
      refine lv_topi (fun y1035 ey1035 => ?_)
      obtain rfl : y1035 = 6 := ey1035.trans (by decide)
      refine va_sld hx hb hX hbl hbA hS (vp_in_nI (n := 6) (by decide) (by decide)) dL_law_815 ?_
      refine lv_topi (fun z6 ez6 => ?_)
      have ez6 : z6 = xs 6 := ez6
      refine lv_aload_n hx hb dL_law_816 rfl (lv_at hl 1 rfl) ?_
      have hPc := hP.sub (ws' := [(q1, .inr (16, [.ref q2, .ref q29, .ref q32, .ref q35, .ref q42, .ref q57, .ref q58, .ref q59, .ref q61, .ref q64, .ref q83, .int 20, .int 60, .int 0, .int 0, .int 0])), (q32, .inr (11, [.ref q33, .int 0])), (q33, .inl (cy34, 6, .inl (fun _ => 0)))]) [0, 3, 4] rfl
      have hDc := hD.sub (ws' := [(q1, .inr (16, [.ref q2, .ref q29, .ref q32, .ref q35, .ref q42, .ref q57, .ref q58, .ref q59, .ref q61, .ref q64, .ref q83, .int 20, .int 60, .int 0, .int 0, .int 0])), (q32, .inr (11, [.ref q33, .int 0])), (q33, .inl (cy34, 6, .inl (fun _ => 0)))]) [0, 3, 4] (by decide) rfl
      have hKc := hK.sub (tys' := [(cy34, .int)]) [1] rfl
      have hFc := va_free (wc := [(q1, .inr (16, [.ref q2, .ref q29, .ref q32, .ref q35, .ref q42, .ref q57, .ref q58, .ref q59, .ref q61, .ref q64, .ref q83, .int 20, .int 60, .int 0, .int 0, .int 0])), (q32, .inr (11, [.ref q33, .int 0])), (q33, .inl (cy34, 6, .inl (fun _ => 0)))]) hD hS hA [0, 3, 4] rfl
      refine va_calli (vx_runSW (As := [.ref q1, .int z1, .int z2, .int z3, .int z4, .int z5, .int z6, .ref q104]) (rest := []) ⟨hx, hb, hml, hown, hts⟩ (kL_say_2 l dC dI g H.size q1 z1 z2 z3 z4 z5 z6 q104 q32 q33 (.ref q2) (.ref q29) (.ref q35) (.ref q42) (.ref q57) (.ref q58) (.ref q59) (.ref q61) (.ref q64) (.ref q83) (.int 20) (.int 60) (.int 0) (.int 0) (.int 0) (.int 0) cy34 ⟨by omega, by omega⟩ ⟨by omega, by omega⟩ hlt) (vx_cwSW 8 hts (ns_gq (List.forall_mem_cons.mpr ⟨wm657, (List.forall_mem_cons.mpr ⟨wm658, (List.forall_mem_cons.mpr ⟨wm408, (fun _ h9 => nomatch h9)⟩)⟩)⟩) wm563) rfl rfl rfl (by decide +kernel) ⟨Nat.le_of_ble_eq_true rfl, Nat.le_of_ble_eq_true rfl⟩) ⟨fun a U gg mk q => by obtain ⟨q0, q1, qP, qK, qD, qF⟩ := q; exact ⟨q0, q1, qP, va_K.moved (u := U) (U := U.calling gg mk a) (Vm.Alike.refl U.vm) qK, qD, ns_same qF⟩, fun U hU hW => ⟨rfl, by rw [hU], by rw [hU]; exact hPc, va_K.moved hW.alike hKc, hDc.weaken (fun _ _ _ _ => trivial), ns_call hF hS hFc hU hW⟩⟩ rfl rfl hl.1 rfl (lv_room (Nat.le_of_ble_eq_true rfl)) dL_law_817 ⟨Nat.le_of_ble_eq_true rfl, Nat.le_of_ble_eq_true rfl⟩) hS (fun q _ h => hFc q h) hFc (fun r9 u t H1 locs ht hvm hw hB hz1 hk1 hS => ?_)
      obtain rfl := hw.symm
      obtain ⟨hP1, hK1, hD1⟩ := hB
      rw [ht] at hP1
      have hK1 := va_K.moved hvm.symm hK1
      obtain ⟨hP, hD⟩ := va_join (wr := [(q29, .inr (11, [.ref q30, .int 0])), (q30, .inl (cy31, 60, .inl (fun _ => 0))), (q102, .inr (23, [.int 0, .ref q103, .int 20, .int 60, .ref (g 34), .null, .int 0, .int 0, .int 0])), (q104, .inr (17, [.long 0, .null]))]) (w1 := []) hP hD [0, 3, 4] [1, 2, 5, 6] rfl rfl (by decide) (by decide) hk1 hFc hP1 hD1
      have hK := (hK.sub (tys' := [(cy31, .int), (cy34, .int)]) [0, 1] rfl).app hK1
      generalize H1 = H at hP hS ⊢
      have hP : va_P (dC, dI) vwCl [(q29, .inr (11, [.ref q30, .int 0])), (q30, .inl (cy31, 60, .inl (fun _ => 0))), (q102, .inr (23, [.int 0, .ref q103, .int 20, .int 60, .ref (g 34), .null, .int 0, .int 0, .int 0])), (q104, .inr (17, [.long 0, .null]))] H := hP
      have hD : va_D A [(q29, .inr (11, [.ref q30, .int 0])), (q30, .inl (cy31, 60, .inl (fun _ => 0))), (q102, .inr (23, [.int 0, .ref q103, .int 20, .int 60, .ref (g 34), .null, .int 0, .int 0, .int 0])), (q104, .inr (17, [.long 0, .null]))] := hD
      have hK : va_K (dC, dI) vwCl [(cy31, .int), (cy34, .int)] s := hK
      refine W.widen (k := 171) (n := 112425) (Nat.le_of_ble_eq_true rfl) (Nat.le_of_ble_eq_true rfl) ?_
      refine lv_istore (lv' := [(5, .int 1), (4, .int 0), (3, .ref q104), (2, .ref q102), (1, .ref q1), (0, .ref b)]) hx hb dL_law_820 hl (by decide) rfl (fun ls hl => ?_)
      refine lv_aload_n hx hb dL_law_822 rfl (lv_at hl 3 rfl) ?_
      refine lv_aload_n hx hb dL_law_823 rfl (lv_at hl 5 rfl) ?_
      refine lv_iload hx hb dL_law_824 (lv_at hl 1 rfl) ?_
      refine lv_iconst (v := 1) hx hb dL_law_826 (by decide) ?_
      refine lv_iadd hx hb dL_law_827 ?_
      refine lv_topi (fun y1037 ey1037 => ?_)
      obtain rfl : y1037 = 1 := ey1037.trans (by decide)
      refine va_sld hx hb hX hbl hbA hS (vp_in_nI (n := 1) (by decide) (by decide)) dL_law_828 ?_
      refine lv_topi (fun z1038 ez1038 => ?_)
      obtain rfl : z1 = z1038 := (ez1038.trans ez1.symm).symm
      refine lv_aload_n hx hb dL_law_829 rfl (lv_at hl 5 rfl) ?_
      refine lv_iload hx hb dL_law_830 (lv_at hl 1 rfl) ?_
      refine lv_iconst (v := 2) hx hb dL_law_832 (by decide) ?_
      refine lv_iadd hx hb dL_law_833 ?_
      refine lv_topi (fun y1039 ey1039 => ?_)
      obtain rfl : y1039 = 2 := ey1039.trans (by decide)
      refine va_sld hx hb hX hbl hbA hS (vp_in_nI (n := 2) (by decide) (by decide)) dL_law_834 ?_
      refine lv_topi (fun z1040 ez1040 => ?_)
      obtain rfl : z2 = z1040 := (ez1040.trans ez2.symm).symm
      refine lv_aload_n hx hb dL_law_835 rfl (lv_at hl 5 rfl) ?_
      refine lv_iload hx hb dL_law_836 (lv_at hl 1 rfl) ?_
      refine lv_iconst (v := 3) hx hb dL_law_838 (by decide) ?_
      refine lv_iadd hx hb dL_law_839 ?_
      refine lv_topi (fun y1041 ey1041 => ?_)
      obtain rfl : y1041 = 3 := ey1041.trans (by decide)
      refine va_sld hx hb hX hbl hbA hS (vp_in_nI (n := 3) (by decide) (by decide)) dL_law_840 ?_
      refine lv_topi (fun z1042 ez1042 => ?_)
      obtain rfl : z3 = z1042 := (ez1042.trans ez3.symm).symm
      refine lv_aload_n hx hb dL_law_841 rfl (lv_at hl 5 rfl) ?_
      refine lv_iload hx hb dL_law_842 (lv_at hl 1 rfl) ?_
      refine lv_iconst (v := 4) hx hb dL_law_844 (by decide) ?_
      refine lv_iadd hx hb dL_law_845 ?_
      refine lv_topi (fun y1043 ey1043 => ?_)
      obtain rfl : y1043 = 4 := ey1043.trans (by decide)
      refine va_sld hx hb hX hbl hbA hS (vp_in_nI (n := 4) (by decide) (by decide)) dL_law_846 ?_
      refine lv_topi (fun z1044 ez1044 => ?_)
      obtain rfl : z4 = z1044 := (ez1044.trans ez4.symm).symm
      refine lv_aload_n hx hb dL_law_847 rfl (lv_at hl 5 rfl) ?_
      refine lv_iload hx hb dL_law_848 (lv_at hl 1 rfl) ?_
      refine lv_iconst (v := 5) hx hb dL_law_850 (by decide) ?_
      refine lv_iadd hx hb dL_law_851 ?_
      refine lv_topi (fun y1045 ey1045 => ?_)
      obtain rfl : y1045 = 5 := ey1045.trans (by decide)
      refine va_sld hx hb hX hbl hbA hS (vp_in_nI (n := 5) (by decide) (by decide)) dL_law_852 ?_
      refine lv_topi (fun z1046 ez1046 => ?_)
      obtain rfl : z5 = z1046 := (ez1046.trans ez5.symm).symm
      refine lv_aload_n hx hb dL_law_853 rfl (lv_at hl 5 rfl) ?_
      refine lv_iload hx hb dL_law_854 (lv_at hl 1 rfl) ?_
      refine lv_bipush (v := 6) hx hb dL_law_856 (by decide) ?_
      refine lv_iadd hx hb dL_law_858 ?_
      refine lv_topi (fun y1047 ey1047 => ?_)
      obtain rfl : y1047 = 6 := ey1047.trans (by decide)
      refine va_sld hx hb hX hbl hbA hS (vp_in_nI (n := 6) (by decide) (by decide)) dL_law_859 ?_
      refine lv_topi (fun z1048 ez1048 => ?_)
      obtain rfl : z6 = z1048 := (ez1048.trans ez6.symm).symm
      have hPc := hP.sub (ws' := [(q102, .inr (23, [.int 0, .ref q103, .int 20, .int 60, .ref (g 34), .null, .int 0, .int 0, .int 0]))]) [2] rfl
      have hDc := hD.sub (ws' := [(q102, .inr (23, [.int 0, .ref q103, .int 20, .int 60, .ref (g 34), .null, .int 0, .int 0, .int 0]))]) [2] (by decide) rfl
      have hKc := hK.sub (tys' := []) [] rfl
      have hFc := va_free (wc := [(q102, .inr (23, [.int 0, .ref q103, .int 20, .int 60, .ref (g 34), .null, .int 0, .int 0, .int 0]))]) hD hS hA [2] rfl
      refine va_calli (va_runV (As := [.int z1, .int z2, .int z3, .int z4, .int z5, .int z6]) (rest := []) ⟨hx, hb, hml, hown, hts⟩ (kX16_say_2 l dC dI g H.size q102 z1 z2 z3 z4 z5 z6 (.int 0) (.ref q103) (.int 20) (.int 60) (.ref (g 34)) .null (.int 0) (.int 0) (.int 0) ⟨by omega, by omega⟩ ⟨by omega, by omega⟩) (cwV 6 hts (ns_gq (List.forall_mem_cons.mpr ⟨wm659, (List.forall_mem_cons.mpr ⟨wm660, (List.forall_mem_cons.mpr ⟨wm661, (List.forall_mem_cons.mpr ⟨wm192, (fun _ h9 => nomatch h9)⟩)⟩)⟩)⟩) wm564) rfl rfl rfl (by decide +kernel) ⟨Nat.le_of_ble_eq_true rfl, Nat.le_of_ble_eq_true rfl⟩) ⟨fun a U gg mk q => by obtain ⟨q0, q1, qP, qK, qD, qF⟩ := q; exact ⟨q0, q1, qP, va_K.moved (u := U) (U := U.calling gg mk a) (Vm.Alike.refl U.vm) qK, qD, ns_same qF⟩, va_recv hK hP (ci := 23) (q0 := 2) rfl rfl, fun U hU hW => ⟨rfl, by rw [hU], by rw [hU]; exact hPc, va_K.moved hW.alike hKc, hDc.weaken (fun _ _ _ _ => trivial), ns_call hF hS hFc hU hW⟩⟩ rfl rfl hl.1 rfl (lv_room (Nat.le_of_ble_eq_true rfl)) dL_law_860 ⟨Nat.le_of_ble_eq_true rfl, Nat.le_of_ble_eq_true rfl⟩) hS (fun q _ h => hFc q h) hFc (fun r9 u t H1 locs ht hvm hw hB hz1 hk1 hS => ?_)
      obtain rfl := hw.symm
      obtain ⟨hP1, hK1, hD1⟩ := hB
      rw [ht] at hP1
      have hK1 := va_K.moved hvm.symm hK1
      obtain ⟨hP, hD⟩ := va_join (wr := [(q29, .inr (11, [.ref q30, .int 0])), (q30, .inl (cy31, 60, .inl (fun _ => 0))), (q104, .inr (17, [.long 0, .null]))]) (w1 := [(q102, .inr (23, [.int 1, .ref q103, .int 20, .int 60, .ref (g 34), .null, .int 0, .int 0, .int 0]))]) hP hD [2] [0, 1, 3] rfl rfl (by decide) (by decide) hk1 hFc hP1 hD1
      have hK := (hK.sub (tys' := [(cy31, .int), (cy34, .int)]) [0, 1] rfl).app hK1
      generalize H1 = H at hP hS ⊢
      have hP : va_P (dC, dI) vwCl [(q29, .inr (11, [.ref q30, .int 0])), (q30, .inl (cy31, 60, .inl (fun _ => 0))), (q104, .inr (17, [.long 0, .null])), (q102, .inr (23, [.int 1, .ref q103, .int 20, .int 60, .ref (g 34), .null, .int 0, .int 0, .int 0]))] H := hP
      have hD : va_D A [(q29, .inr (11, [.ref q30, .int 0])), (q30, .inl (cy31, 60, .inl (fun _ => 0))), (q104, .inr (17, [.long 0, .null])), (q102, .inr (23, [.int 1, .ref q103, .int 20, .int 60, .ref (g 34), .null, .int 0, .int 0, .int 0]))] := hD
      have hK : va_K (dC, dI) vwCl [(cy31, .int), (cy34, .int)] s := hK
      refine W.widen (k := 172) (n := 112431) (Nat.le_of_ble_eq_true rfl) (Nat.le_of_ble_eq_true rfl) ?_
      refine lv_istore (lv' := [(6, .int 0), (5, .int 1), (4, .int 0), (3, .ref q104), (2, .ref q102), (1, .ref q1), (0, .ref b)]) hx hb dL_law_863 hl (by decide) rfl (fun ls hl => ?_)
      refine lv_aload_n hx hb dL_law_865 rfl (lv_at hl 4 rfl) ?_
      have hPc := hP.sub (ws' := [(q102, .inr (23, [.int 1, .ref q103, .int 20, .int 60, .ref (g 34), .null, .int 0, .int 0, .int 0]))]) [3] rfl
      have hDc := hD.sub (ws' := [(q102, .inr (23, [.int 1, .ref q103, .int 20, .int 60, .ref (g 34), .null, .int 0, .int 0, .int 0]))]) [3] (by decide) rfl
      have hKc := hK.sub (tys' := []) [] rfl
      have hFc := va_free (wc := [(q102, .inr (23, [.int 1, .ref q103, .int 20, .int 60, .ref (g 34), .null, .int 0, .int 0, .int 0]))]) hD hS hA [3] rfl
      refine va_calli (va_runV (As := []) (rest := []) ⟨hx, hb, hml, hown, hts⟩ (kX16_thrown l dC dI g H.size q102 (.ref q103) (.int 20) (.int 60) (.ref (g 34)) .null (.int 0) (.int 0) (.int 0) ) (cwV 0 hts (ns_gq (List.forall_mem_cons.mpr ⟨wm414, (List.forall_mem_cons.mpr ⟨wm415, (List.forall_mem_cons.mpr ⟨wm416, (List.forall_mem_cons.mpr ⟨wm192, (fun _ h9 => nomatch h9)⟩)⟩)⟩)⟩) wm246) rfl rfl rfl (by decide +kernel) ⟨Nat.le_of_ble_eq_true rfl, Nat.le_of_ble_eq_true rfl⟩) ⟨fun a U gg mk q => by obtain ⟨q0, q1, qP, qK, qD, qF⟩ := q; exact ⟨q0, q1, qP, va_K.moved (u := U) (U := U.calling gg mk a) (Vm.Alike.refl U.vm) qK, qD, ns_same qF⟩, va_recv hK hP (ci := 23) (q0 := 3) rfl rfl, fun U hU hW => ⟨rfl, by rw [hU], by rw [hU]; exact hPc, va_K.moved hW.alike hKc, hDc.weaken (fun _ _ _ _ => trivial), ns_call hF hS hFc hU hW⟩⟩ rfl rfl hl.1 rfl (lv_room (Nat.le_of_ble_eq_true rfl)) dL_law_866 ⟨Nat.le_of_ble_eq_true rfl, Nat.le_of_ble_eq_true rfl⟩) hS (fun q _ h => hFc q h) hFc (fun r9 u t H1 locs ht hvm hw hB hz1 hk1 hS => ?_)
      obtain rfl := hw.symm
      obtain ⟨hP1, hK1, hD1⟩ := hB
      rw [ht] at hP1
      have hK1 := va_K.moved hvm.symm hK1
      obtain ⟨hP, hD⟩ := va_join (wr := [(q29, .inr (11, [.ref q30, .int 0])), (q30, .inl (cy31, 60, .inl (fun _ => 0))), (q104, .inr (17, [.long 0, .null]))]) (w1 := [(q102, .inr (23, [.int 1, .ref q103, .int 20, .int 60, .ref (g 34), .null, .int 0, .int 0, .int 0]))]) hP hD [3] [0, 1, 2] rfl rfl (by decide) (by decide) hk1 hFc hP1 hD1
      have hK := (hK.sub (tys' := [(cy31, .int), (cy34, .int)]) [0, 1] rfl).app hK1
      generalize H1 = H at hP hS ⊢
      have hP : va_P (dC, dI) vwCl [(q29, .inr (11, [.ref q30, .int 0])), (q30, .inl (cy31, 60, .inl (fun _ => 0))), (q104, .inr (17, [.long 0, .null])), (q102, .inr (23, [.int 1, .ref q103, .int 20, .int 60, .ref (g 34), .null, .int 0, .int 0, .int 0]))] H := hP
      have hD : va_D A [(q29, .inr (11, [.ref q30, .int 0])), (q30, .inl (cy31, 60, .inl (fun _ => 0))), (q104, .inr (17, [.long 0, .null])), (q102, .inr (23, [.int 1, .ref q103, .int 20, .int 60, .ref (g 34), .null, .int 0, .int 0, .int 0]))] := hD
      have hK : va_K (dC, dI) vwCl [(cy31, .int), (cy34, .int)] s := hK
      refine W.widen (k := 172) (n := 112431) (Nat.le_of_ble_eq_true rfl) (Nat.le_of_ble_eq_true rfl) ?_
      refine lv_iload hx hb dL_law_869 (lv_at hl 1 rfl) ?_
      refine lv_icmp_eq (tgt := 876) hx hb dL_law_871 (by decide) (fun c1049 => ?_) (fun c1049 => absurd (by decide) c1049)
      refine lv_iload hx hb dL_law_876 (lv_at hl 1 rfl) ?_
      refine lv_if_ne (tgt := 894) hx hb dL_law_878 (by decide) (fun c1050 => ?_) (fun c1050 => absurd c1050 (by decide))
      refine lv_goto (tgt := 2216) hx hb dL_law_894 (by decide) ?_
      exact law_tail C0 hA hAx hS (lv_sub hl [2, 6] rfl) (Nat.le_of_ble_eq_true rfl) (Nat.le_of_ble_eq_true rfl)
    · have _h9 := 0
      refine lv_aload_n hx hb dL_law_791 rfl (lv_at hl 4 rfl) ?_
      refine lv_iload hx hb dL_law_792 (lv_at hl 0 rfl) ?_
      refine lv_iconst (v := 3) hx hb dL_law_794 (by decide) ?_
      refine lv_iadd hx hb dL_law_795 ?_
      refine lv_topi (fun y1051 ey1051 => ?_)
      obtain rfl : y1051 = 3 := ey1051.trans (by decide)
      refine va_sld hx hb hX hbl hbA hS (vp_in_nI (n := 3) (by decide) (by decide)) dL_law_796 ?_
      refine lv_topi (fun z3 ez3 => ?_)
      have ez3 : z3 = xs 3 := ez3
      have rz3 := ns_rng z3
      rcases (show ((-2147483648 : Int) ≤ z3.toInt ∧ z3.toInt ≤ (-2 : Int)) ∨ ((-1 : Int) ≤ z3.toInt ∧ z3.toInt ≤ (21 : Int)) ∨ ((22 : Int) ≤ z3.toInt ∧ z3.toInt ≤ (2147483647 : Int)) by omega) with r3 | r3 | r3
      · have _h9 := 0
        refine lv_aload_n hx hb dL_law_797 rfl (lv_at hl 4 rfl) ?_
        refine lv_iload hx hb dL_law_798 (lv_at hl 0 rfl) ?_
        refine lv_iconst (v := 4) hx hb dL_law_800 (by decide) ?_
        refine lv_iadd hx hb dL_law_801 ?_
        refine lv_topi (fun y1053 ey1053 => ?_)
        obtain rfl : y1053 = 4 := ey1053.trans (by decide)
        refine va_sld hx hb hX hbl hbA hS (vp_in_nI (n := 4) (by decide) (by decide)) dL_law_802 ?_
        refine lv_topi (fun z4 ez4 => ?_)
        have ez4 : z4 = xs 4 := ez4
        refine lv_aload_n hx hb dL_law_803 rfl (lv_at hl 4 rfl) ?_
        refine lv_iload hx hb dL_law_804 (lv_at hl 0 rfl) ?_
        refine lv_iconst (v := 5) hx hb dL_law_806 (by decide) ?_
        refine lv_iadd hx hb dL_law_807 ?_
        refine lv_topi (fun y1055 ey1055 => ?_)
        obtain rfl : y1055 = 5 := ey1055.trans (by decide)
        refine va_sld hx hb hX hbl hbA hS (vp_in_nI (n := 5) (by decide) (by decide)) dL_law_808 ?_
        refine lv_topi (fun z5 ez5 => ?_)
        have ez5 : z5 = xs 5 := ez5
        refine lv_aload_n hx hb dL_law_809 rfl (lv_at hl 4 rfl) ?_
        refine lv_iload hx hb dL_law_810 (lv_at hl 0 rfl) ?_
        refine lv_bipush (v := 6) hx hb dL_law_812 (by decide) ?_
        refine lv_iadd hx hb dL_law_814 ?_
        refine lv_topi (fun y1057 ey1057 => ?_)
        obtain rfl : y1057 = 6 := ey1057.trans (by decide)
        refine va_sld hx hb hX hbl hbA hS (vp_in_nI (n := 6) (by decide) (by decide)) dL_law_815 ?_
        refine lv_topi (fun z6 ez6 => ?_)
        have ez6 : z6 = xs 6 := ez6
        refine lv_aload_n hx hb dL_law_816 rfl (lv_at hl 1 rfl) ?_
        have hPc := hP.sub (ws' := [(q1, .inr (16, [.ref q2, .ref q29, .ref q32, .ref q35, .ref q42, .ref q57, .ref q58, .ref q59, .ref q61, .ref q64, .ref q83, .int 20, .int 60, .int 0, .int 0, .int 0])), (q32, .inr (11, [.ref q33, .int 0])), (q33, .inl (cy34, 6, .inl (fun _ => 0)))]) [0, 3, 4] rfl
        have hDc := hD.sub (ws' := [(q1, .inr (16, [.ref q2, .ref q29, .ref q32, .ref q35, .ref q42, .ref q57, .ref q58, .ref q59, .ref q61, .ref q64, .ref q83, .int 20, .int 60, .int 0, .int 0, .int 0])), (q32, .inr (11, [.ref q33, .int 0])), (q33, .inl (cy34, 6, .inl (fun _ => 0)))]) [0, 3, 4] (by decide) rfl
        have hKc := hK.sub (tys' := [(cy34, .int)]) [1] rfl
        have hFc := va_free (wc := [(q1, .inr (16, [.ref q2, .ref q29, .ref q32, .ref q35, .ref q42, .ref q57, .ref q58, .ref q59, .ref q61, .ref q64, .ref q83, .int 20, .int 60, .int 0, .int 0, .int 0])), (q32, .inr (11, [.ref q33, .int 0])), (q33, .inl (cy34, 6, .inl (fun _ => 0)))]) hD hS hA [0, 3, 4] rfl
        refine va_calli (vx_runSW (As := [.ref q1, .int z1, .int z2, .int z3, .int z4, .int z5, .int z6, .ref q104]) (rest := []) ⟨hx, hb, hml, hown, hts⟩ (kL_say_3 l dC dI g H.size q1 z1 z2 z3 z4 z5 z6 q104 q32 q33 (.ref q2) (.ref q29) (.ref q35) (.ref q42) (.ref q57) (.ref q58) (.ref q59) (.ref q61) (.ref q64) (.ref q83) (.int 20) (.int 60) (.int 0) (.int 0) (.int 0) (.int 0) cy34 ⟨by omega, by omega⟩ ⟨by omega, by omega⟩ ⟨by omega, by omega⟩ hlt) (vx_cwSW 8 hts (ns_gq (List.forall_mem_cons.mpr ⟨wm657, (List.forall_mem_cons.mpr ⟨wm658, (List.forall_mem_cons.mpr ⟨wm408, (fun _ h9 => nomatch h9)⟩)⟩)⟩) wm563) rfl rfl rfl (by decide +kernel) ⟨Nat.le_of_ble_eq_true rfl, Nat.le_of_ble_eq_true rfl⟩) ⟨fun a U gg mk q => by obtain ⟨q0, q1, qP, qK, qD, qF⟩ := q; exact ⟨q0, q1, qP, va_K.moved (u := U) (U := U.calling gg mk a) (Vm.Alike.refl U.vm) qK, qD, ns_same qF⟩, fun U hU hW => ⟨rfl, by rw [hU], by rw [hU]; exact hPc, va_K.moved hW.alike hKc, hDc.weaken (fun _ _ _ _ => trivial), ns_call hF hS hFc hU hW⟩⟩ rfl rfl hl.1 rfl (lv_room (Nat.le_of_ble_eq_true rfl)) dL_law_817 ⟨Nat.le_of_ble_eq_true rfl, Nat.le_of_ble_eq_true rfl⟩) hS (fun q _ h => hFc q h) hFc (fun r9 u t H1 locs ht hvm hw hB hz1 hk1 hS => ?_)
        obtain rfl := hw.symm
        obtain ⟨hP1, hK1, hD1⟩ := hB
        rw [ht] at hP1
        have hK1 := va_K.moved hvm.symm hK1
        obtain ⟨hP, hD⟩ := va_join (wr := [(q29, .inr (11, [.ref q30, .int 0])), (q30, .inl (cy31, 60, .inl (fun _ => 0))), (q102, .inr (23, [.int 0, .ref q103, .int 20, .int 60, .ref (g 34), .null, .int 0, .int 0, .int 0])), (q104, .inr (17, [.long 0, .null]))]) (w1 := []) hP hD [0, 3, 4] [1, 2, 5, 6] rfl rfl (by decide) (by decide) hk1 hFc hP1 hD1
        have hK := (hK.sub (tys' := [(cy31, .int), (cy34, .int)]) [0, 1] rfl).app hK1
        generalize H1 = H at hP hS ⊢
        have hP : va_P (dC, dI) vwCl [(q29, .inr (11, [.ref q30, .int 0])), (q30, .inl (cy31, 60, .inl (fun _ => 0))), (q102, .inr (23, [.int 0, .ref q103, .int 20, .int 60, .ref (g 34), .null, .int 0, .int 0, .int 0])), (q104, .inr (17, [.long 0, .null]))] H := hP
        have hD : va_D A [(q29, .inr (11, [.ref q30, .int 0])), (q30, .inl (cy31, 60, .inl (fun _ => 0))), (q102, .inr (23, [.int 0, .ref q103, .int 20, .int 60, .ref (g 34), .null, .int 0, .int 0, .int 0])), (q104, .inr (17, [.long 0, .null]))] := hD
        have hK : va_K (dC, dI) vwCl [(cy31, .int), (cy34, .int)] s := hK
        refine W.widen (k := 171) (n := 112425) (Nat.le_of_ble_eq_true rfl) (Nat.le_of_ble_eq_true rfl) ?_
        refine lv_istore (lv' := [(5, .int 1), (4, .int 0), (3, .ref q104), (2, .ref q102), (1, .ref q1), (0, .ref b)]) hx hb dL_law_820 hl (by decide) rfl (fun ls hl => ?_)
        refine lv_aload_n hx hb dL_law_822 rfl (lv_at hl 3 rfl) ?_
        refine lv_aload_n hx hb dL_law_823 rfl (lv_at hl 5 rfl) ?_
        refine lv_iload hx hb dL_law_824 (lv_at hl 1 rfl) ?_
        refine lv_iconst (v := 1) hx hb dL_law_826 (by decide) ?_
        refine lv_iadd hx hb dL_law_827 ?_
        refine lv_topi (fun y1059 ey1059 => ?_)
        obtain rfl : y1059 = 1 := ey1059.trans (by decide)
        refine va_sld hx hb hX hbl hbA hS (vp_in_nI (n := 1) (by decide) (by decide)) dL_law_828 ?_
        refine lv_topi (fun z1060 ez1060 => ?_)
        obtain rfl : z1 = z1060 := (ez1060.trans ez1.symm).symm
        refine lv_aload_n hx hb dL_law_829 rfl (lv_at hl 5 rfl) ?_
        refine lv_iload hx hb dL_law_830 (lv_at hl 1 rfl) ?_
        refine lv_iconst (v := 2) hx hb dL_law_832 (by decide) ?_
        refine lv_iadd hx hb dL_law_833 ?_
        refine lv_topi (fun y1061 ey1061 => ?_)
        obtain rfl : y1061 = 2 := ey1061.trans (by decide)
        refine va_sld hx hb hX hbl hbA hS (vp_in_nI (n := 2) (by decide) (by decide)) dL_law_834 ?_
        refine lv_topi (fun z1062 ez1062 => ?_)
        obtain rfl : z2 = z1062 := (ez1062.trans ez2.symm).symm
        refine lv_aload_n hx hb dL_law_835 rfl (lv_at hl 5 rfl) ?_
        refine lv_iload hx hb dL_law_836 (lv_at hl 1 rfl) ?_
        refine lv_iconst (v := 3) hx hb dL_law_838 (by decide) ?_
        refine lv_iadd hx hb dL_law_839 ?_
        refine lv_topi (fun y1063 ey1063 => ?_)
        obtain rfl : y1063 = 3 := ey1063.trans (by decide)
        refine va_sld hx hb hX hbl hbA hS (vp_in_nI (n := 3) (by decide) (by decide)) dL_law_840 ?_
        refine lv_topi (fun z1064 ez1064 => ?_)
        obtain rfl : z3 = z1064 := (ez1064.trans ez3.symm).symm
        refine lv_aload_n hx hb dL_law_841 rfl (lv_at hl 5 rfl) ?_
        refine lv_iload hx hb dL_law_842 (lv_at hl 1 rfl) ?_
        refine lv_iconst (v := 4) hx hb dL_law_844 (by decide) ?_
        refine lv_iadd hx hb dL_law_845 ?_
        refine lv_topi (fun y1065 ey1065 => ?_)
        obtain rfl : y1065 = 4 := ey1065.trans (by decide)
        refine va_sld hx hb hX hbl hbA hS (vp_in_nI (n := 4) (by decide) (by decide)) dL_law_846 ?_
        refine lv_topi (fun z1066 ez1066 => ?_)
        obtain rfl : z4 = z1066 := (ez1066.trans ez4.symm).symm
        refine lv_aload_n hx hb dL_law_847 rfl (lv_at hl 5 rfl) ?_
        refine lv_iload hx hb dL_law_848 (lv_at hl 1 rfl) ?_
        refine lv_iconst (v := 5) hx hb dL_law_850 (by decide) ?_
        refine lv_iadd hx hb dL_law_851 ?_
        refine lv_topi (fun y1067 ey1067 => ?_)
        obtain rfl : y1067 = 5 := ey1067.trans (by decide)
        refine va_sld hx hb hX hbl hbA hS (vp_in_nI (n := 5) (by decide) (by decide)) dL_law_852 ?_
        refine lv_topi (fun z1068 ez1068 => ?_)
        obtain rfl : z5 = z1068 := (ez1068.trans ez5.symm).symm
        refine lv_aload_n hx hb dL_law_853 rfl (lv_at hl 5 rfl) ?_
        refine lv_iload hx hb dL_law_854 (lv_at hl 1 rfl) ?_
        refine lv_bipush (v := 6) hx hb dL_law_856 (by decide) ?_
        refine lv_iadd hx hb dL_law_858 ?_
        refine lv_topi (fun y1069 ey1069 => ?_)
        obtain rfl : y1069 = 6 := ey1069.trans (by decide)
        refine va_sld hx hb hX hbl hbA hS (vp_in_nI (n := 6) (by decide) (by decide)) dL_law_859 ?_
        refine lv_topi (fun z1070 ez1070 => ?_)
        obtain rfl : z6 = z1070 := (ez1070.trans ez6.symm).symm
        have hPc := hP.sub (ws' := [(q102, .inr (23, [.int 0, .ref q103, .int 20, .int 60, .ref (g 34), .null, .int 0, .int 0, .int 0]))]) [2] rfl
        have hDc := hD.sub (ws' := [(q102, .inr (23, [.int 0, .ref q103, .int 20, .int 60, .ref (g 34), .null, .int 0, .int 0, .int 0]))]) [2] (by decide) rfl
        have hKc := hK.sub (tys' := []) [] rfl
        have hFc := va_free (wc := [(q102, .inr (23, [.int 0, .ref q103, .int 20, .int 60, .ref (g 34), .null, .int 0, .int 0, .int 0]))]) hD hS hA [2] rfl
        refine va_calli (va_runV (As := [.int z1, .int z2, .int z3, .int z4, .int z5, .int z6]) (rest := []) ⟨hx, hb, hml, hown, hts⟩ (kX16_say_3 l dC dI g H.size q102 z1 z2 z3 z4 z5 z6 (.int 0) (.ref q103) (.int 20) (.int 60) (.ref (g 34)) .null (.int 0) (.int 0) (.int 0) ⟨by omega, by omega⟩ ⟨by omega, by omega⟩ ⟨by omega, by omega⟩) (cwV 6 hts (ns_gq (List.forall_mem_cons.mpr ⟨wm659, (List.forall_mem_cons.mpr ⟨wm660, (List.forall_mem_cons.mpr ⟨wm661, (List.forall_mem_cons.mpr ⟨wm192, (fun _ h9 => nomatch h9)⟩)⟩)⟩)⟩) wm564) rfl rfl rfl (by decide +kernel) ⟨Nat.le_of_ble_eq_true rfl, Nat.le_of_ble_eq_true rfl⟩) ⟨fun a U gg mk q => by obtain ⟨q0, q1, qP, qK, qD, qF⟩ := q; exact ⟨q0, q1, qP, va_K.moved (u := U) (U := U.calling gg mk a) (Vm.Alike.refl U.vm) qK, qD, ns_same qF⟩, va_recv hK hP (ci := 23) (q0 := 2) rfl rfl, fun U hU hW => ⟨rfl, by rw [hU], by rw [hU]; exact hPc, va_K.moved hW.alike hKc, hDc.weaken (fun _ _ _ _ => trivial), ns_call hF hS hFc hU hW⟩⟩ rfl rfl hl.1 rfl (lv_room (Nat.le_of_ble_eq_true rfl)) dL_law_860 ⟨Nat.le_of_ble_eq_true rfl, Nat.le_of_ble_eq_true rfl⟩) hS (fun q _ h => hFc q h) hFc (fun r9 u t H1 locs ht hvm hw hB hz1 hk1 hS => ?_)
        obtain rfl := hw.symm
        obtain ⟨hP1, hK1, hD1⟩ := hB
        rw [ht] at hP1
        have hK1 := va_K.moved hvm.symm hK1
        obtain ⟨hP, hD⟩ := va_join (wr := [(q29, .inr (11, [.ref q30, .int 0])), (q30, .inl (cy31, 60, .inl (fun _ => 0))), (q104, .inr (17, [.long 0, .null]))]) (w1 := [(q102, .inr (23, [.int 1, .ref q103, .int 20, .int 60, .ref (g 34), .null, .int 0, .int 0, .int 0]))]) hP hD [2] [0, 1, 3] rfl rfl (by decide) (by decide) hk1 hFc hP1 hD1
        have hK := (hK.sub (tys' := [(cy31, .int), (cy34, .int)]) [0, 1] rfl).app hK1
        generalize H1 = H at hP hS ⊢
        have hP : va_P (dC, dI) vwCl [(q29, .inr (11, [.ref q30, .int 0])), (q30, .inl (cy31, 60, .inl (fun _ => 0))), (q104, .inr (17, [.long 0, .null])), (q102, .inr (23, [.int 1, .ref q103, .int 20, .int 60, .ref (g 34), .null, .int 0, .int 0, .int 0]))] H := hP
        have hD : va_D A [(q29, .inr (11, [.ref q30, .int 0])), (q30, .inl (cy31, 60, .inl (fun _ => 0))), (q104, .inr (17, [.long 0, .null])), (q102, .inr (23, [.int 1, .ref q103, .int 20, .int 60, .ref (g 34), .null, .int 0, .int 0, .int 0]))] := hD
        have hK : va_K (dC, dI) vwCl [(cy31, .int), (cy34, .int)] s := hK
        refine W.widen (k := 172) (n := 112431) (Nat.le_of_ble_eq_true rfl) (Nat.le_of_ble_eq_true rfl) ?_
        refine lv_istore (lv' := [(6, .int 0), (5, .int 1), (4, .int 0), (3, .ref q104), (2, .ref q102), (1, .ref q1), (0, .ref b)]) hx hb dL_law_863 hl (by decide) rfl (fun ls hl => ?_)
        refine lv_aload_n hx hb dL_law_865 rfl (lv_at hl 4 rfl) ?_
        have hPc := hP.sub (ws' := [(q102, .inr (23, [.int 1, .ref q103, .int 20, .int 60, .ref (g 34), .null, .int 0, .int 0, .int 0]))]) [3] rfl
        have hDc := hD.sub (ws' := [(q102, .inr (23, [.int 1, .ref q103, .int 20, .int 60, .ref (g 34), .null, .int 0, .int 0, .int 0]))]) [3] (by decide) rfl
        have hKc := hK.sub (tys' := []) [] rfl
        have hFc := va_free (wc := [(q102, .inr (23, [.int 1, .ref q103, .int 20, .int 60, .ref (g 34), .null, .int 0, .int 0, .int 0]))]) hD hS hA [3] rfl
        refine va_calli (va_runV (As := []) (rest := []) ⟨hx, hb, hml, hown, hts⟩ (kX16_thrown l dC dI g H.size q102 (.ref q103) (.int 20) (.int 60) (.ref (g 34)) .null (.int 0) (.int 0) (.int 0) ) (cwV 0 hts (ns_gq (List.forall_mem_cons.mpr ⟨wm414, (List.forall_mem_cons.mpr ⟨wm415, (List.forall_mem_cons.mpr ⟨wm416, (List.forall_mem_cons.mpr ⟨wm192, (fun _ h9 => nomatch h9)⟩)⟩)⟩)⟩) wm246) rfl rfl rfl (by decide +kernel) ⟨Nat.le_of_ble_eq_true rfl, Nat.le_of_ble_eq_true rfl⟩) ⟨fun a U gg mk q => by obtain ⟨q0, q1, qP, qK, qD, qF⟩ := q; exact ⟨q0, q1, qP, va_K.moved (u := U) (U := U.calling gg mk a) (Vm.Alike.refl U.vm) qK, qD, ns_same qF⟩, va_recv hK hP (ci := 23) (q0 := 3) rfl rfl, fun U hU hW => ⟨rfl, by rw [hU], by rw [hU]; exact hPc, va_K.moved hW.alike hKc, hDc.weaken (fun _ _ _ _ => trivial), ns_call hF hS hFc hU hW⟩⟩ rfl rfl hl.1 rfl (lv_room (Nat.le_of_ble_eq_true rfl)) dL_law_866 ⟨Nat.le_of_ble_eq_true rfl, Nat.le_of_ble_eq_true rfl⟩) hS (fun q _ h => hFc q h) hFc (fun r9 u t H1 locs ht hvm hw hB hz1 hk1 hS => ?_)
        obtain rfl := hw.symm
        obtain ⟨hP1, hK1, hD1⟩ := hB
        rw [ht] at hP1
        have hK1 := va_K.moved hvm.symm hK1
        obtain ⟨hP, hD⟩ := va_join (wr := [(q29, .inr (11, [.ref q30, .int 0])), (q30, .inl (cy31, 60, .inl (fun _ => 0))), (q104, .inr (17, [.long 0, .null]))]) (w1 := [(q102, .inr (23, [.int 1, .ref q103, .int 20, .int 60, .ref (g 34), .null, .int 0, .int 0, .int 0]))]) hP hD [3] [0, 1, 2] rfl rfl (by decide) (by decide) hk1 hFc hP1 hD1
        have hK := (hK.sub (tys' := [(cy31, .int), (cy34, .int)]) [0, 1] rfl).app hK1
        generalize H1 = H at hP hS ⊢
        have hP : va_P (dC, dI) vwCl [(q29, .inr (11, [.ref q30, .int 0])), (q30, .inl (cy31, 60, .inl (fun _ => 0))), (q104, .inr (17, [.long 0, .null])), (q102, .inr (23, [.int 1, .ref q103, .int 20, .int 60, .ref (g 34), .null, .int 0, .int 0, .int 0]))] H := hP
        have hD : va_D A [(q29, .inr (11, [.ref q30, .int 0])), (q30, .inl (cy31, 60, .inl (fun _ => 0))), (q104, .inr (17, [.long 0, .null])), (q102, .inr (23, [.int 1, .ref q103, .int 20, .int 60, .ref (g 34), .null, .int 0, .int 0, .int 0]))] := hD
        have hK : va_K (dC, dI) vwCl [(cy31, .int), (cy34, .int)] s := hK
        refine W.widen (k := 172) (n := 112431) (Nat.le_of_ble_eq_true rfl) (Nat.le_of_ble_eq_true rfl) ?_
        refine lv_iload hx hb dL_law_869 (lv_at hl 1 rfl) ?_
        refine lv_icmp_eq (tgt := 876) hx hb dL_law_871 (by decide) (fun c1071 => ?_) (fun c1071 => absurd (by decide) c1071)
        refine lv_iload hx hb dL_law_876 (lv_at hl 1 rfl) ?_
        refine lv_if_ne (tgt := 894) hx hb dL_law_878 (by decide) (fun c1072 => ?_) (fun c1072 => absurd c1072 (by decide))
        refine lv_goto (tgt := 2216) hx hb dL_law_894 (by decide) ?_
        exact law_tail C0 hA hAx hS (lv_sub hl [2, 6] rfl) (Nat.le_of_ble_eq_true rfl) (Nat.le_of_ble_eq_true rfl)
      · have _h9 := 0
        refine lv_aload_n hx hb dL_law_797 rfl (lv_at hl 4 rfl) ?_
        refine lv_iload hx hb dL_law_798 (lv_at hl 0 rfl) ?_
        refine lv_iconst (v := 4) hx hb dL_law_800 (by decide) ?_
        refine lv_iadd hx hb dL_law_801 ?_
        refine lv_topi (fun y1073 ey1073 => ?_)
        obtain rfl : y1073 = 4 := ey1073.trans (by decide)
        refine va_sld hx hb hX hbl hbA hS (vp_in_nI (n := 4) (by decide) (by decide)) dL_law_802 ?_
        refine lv_topi (fun z4 ez4 => ?_)
        have ez4 : z4 = xs 4 := ez4
        have rz4 := ns_rng z4
        rcases (show ((-2147483648 : Int) ≤ z4.toInt ∧ z4.toInt ≤ (-2 : Int)) ∨ ((-1 : Int) ≤ z4.toInt ∧ z4.toInt ≤ (21 : Int)) ∨ ((22 : Int) ≤ z4.toInt ∧ z4.toInt ≤ (2147483647 : Int)) by omega) with r4 | r4 | r4
        · have _h9 := 0
          refine lv_aload_n hx hb dL_law_803 rfl (lv_at hl 4 rfl) ?_
          refine lv_iload hx hb dL_law_804 (lv_at hl 0 rfl) ?_
          refine lv_iconst (v := 5) hx hb dL_law_806 (by decide) ?_
          refine lv_iadd hx hb dL_law_807 ?_
          refine lv_topi (fun y1075 ey1075 => ?_)
          obtain rfl : y1075 = 5 := ey1075.trans (by decide)
          refine va_sld hx hb hX hbl hbA hS (vp_in_nI (n := 5) (by decide) (by decide)) dL_law_808 ?_
          refine lv_topi (fun z5 ez5 => ?_)
          have ez5 : z5 = xs 5 := ez5
          refine lv_aload_n hx hb dL_law_809 rfl (lv_at hl 4 rfl) ?_
          refine lv_iload hx hb dL_law_810 (lv_at hl 0 rfl) ?_
          refine lv_bipush (v := 6) hx hb dL_law_812 (by decide) ?_
          refine lv_iadd hx hb dL_law_814 ?_
          refine lv_topi (fun y1077 ey1077 => ?_)
          obtain rfl : y1077 = 6 := ey1077.trans (by decide)
          refine va_sld hx hb hX hbl hbA hS (vp_in_nI (n := 6) (by decide) (by decide)) dL_law_815 ?_
          refine lv_topi (fun z6 ez6 => ?_)
          have ez6 : z6 = xs 6 := ez6
          refine lv_aload_n hx hb dL_law_816 rfl (lv_at hl 1 rfl) ?_
          have hPc := hP.sub (ws' := [(q1, .inr (16, [.ref q2, .ref q29, .ref q32, .ref q35, .ref q42, .ref q57, .ref q58, .ref q59, .ref q61, .ref q64, .ref q83, .int 20, .int 60, .int 0, .int 0, .int 0])), (q32, .inr (11, [.ref q33, .int 0])), (q33, .inl (cy34, 6, .inl (fun _ => 0)))]) [0, 3, 4] rfl
          have hDc := hD.sub (ws' := [(q1, .inr (16, [.ref q2, .ref q29, .ref q32, .ref q35, .ref q42, .ref q57, .ref q58, .ref q59, .ref q61, .ref q64, .ref q83, .int 20, .int 60, .int 0, .int 0, .int 0])), (q32, .inr (11, [.ref q33, .int 0])), (q33, .inl (cy34, 6, .inl (fun _ => 0)))]) [0, 3, 4] (by decide) rfl
          have hKc := hK.sub (tys' := [(cy34, .int)]) [1] rfl
          have hFc := va_free (wc := [(q1, .inr (16, [.ref q2, .ref q29, .ref q32, .ref q35, .ref q42, .ref q57, .ref q58, .ref q59, .ref q61, .ref q64, .ref q83, .int 20, .int 60, .int 0, .int 0, .int 0])), (q32, .inr (11, [.ref q33, .int 0])), (q33, .inl (cy34, 6, .inl (fun _ => 0)))]) hD hS hA [0, 3, 4] rfl
          refine va_calli (vx_runSW (As := [.ref q1, .int z1, .int z2, .int z3, .int z4, .int z5, .int z6, .ref q104]) (rest := []) ⟨hx, hb, hml, hown, hts⟩ (kL_say_4 l dC dI g H.size q1 z1 z2 z3 z4 z5 z6 q104 q32 q33 (.ref q2) (.ref q29) (.ref q35) (.ref q42) (.ref q57) (.ref q58) (.ref q59) (.ref q61) (.ref q64) (.ref q83) (.int 20) (.int 60) (.int 0) (.int 0) (.int 0) (.int 0) cy34 ⟨by omega, by omega⟩ ⟨by omega, by omega⟩ ⟨by omega, by omega⟩ ⟨by omega, by omega⟩ hlt) (vx_cwSW 8 hts (ns_gq (List.forall_mem_cons.mpr ⟨wm657, (List.forall_mem_cons.mpr ⟨wm658, (List.forall_mem_cons.mpr ⟨wm408, (fun _ h9 => nomatch h9)⟩)⟩)⟩) wm563) rfl rfl rfl (by decide +kernel) ⟨Nat.le_of_ble_eq_true rfl, Nat.le_of_ble_eq_true rfl⟩) ⟨fun a U gg mk q => by obtain ⟨q0, q1, qP, qK, qD, qF⟩ := q; exact ⟨q0, q1, qP, va_K.moved (u := U) (U := U.calling gg mk a) (Vm.Alike.refl U.vm) qK, qD, ns_same qF⟩, fun U hU hW => ⟨rfl, by rw [hU], by rw [hU]; exact hPc, va_K.moved hW.alike hKc, hDc.weaken (fun _ _ _ _ => trivial), ns_call hF hS hFc hU hW⟩⟩ rfl rfl hl.1 rfl (lv_room (Nat.le_of_ble_eq_true rfl)) dL_law_817 ⟨Nat.le_of_ble_eq_true rfl, Nat.le_of_ble_eq_true rfl⟩) hS (fun q _ h => hFc q h) hFc (fun r9 u t H1 locs ht hvm hw hB hz1 hk1 hS => ?_)
          obtain rfl := hw.symm
          obtain ⟨hP1, hK1, hD1⟩ := hB
          rw [ht] at hP1
          have hK1 := va_K.moved hvm.symm hK1
          obtain ⟨hP, hD⟩ := va_join (wr := [(q29, .inr (11, [.ref q30, .int 0])), (q30, .inl (cy31, 60, .inl (fun _ => 0))), (q102, .inr (23, [.int 0, .ref q103, .int 20, .int 60, .ref (g 34), .null, .int 0, .int 0, .int 0])), (q104, .inr (17, [.long 0, .null]))]) (w1 := []) hP hD [0, 3, 4] [1, 2, 5, 6] rfl rfl (by decide) (by decide) hk1 hFc hP1 hD1
          have hK := (hK.sub (tys' := [(cy31, .int), (cy34, .int)]) [0, 1] rfl).app hK1
          generalize H1 = H at hP hS ⊢
          have hP : va_P (dC, dI) vwCl [(q29, .inr (11, [.ref q30, .int 0])), (q30, .inl (cy31, 60, .inl (fun _ => 0))), (q102, .inr (23, [.int 0, .ref q103, .int 20, .int 60, .ref (g 34), .null, .int 0, .int 0, .int 0])), (q104, .inr (17, [.long 0, .null]))] H := hP
          have hD : va_D A [(q29, .inr (11, [.ref q30, .int 0])), (q30, .inl (cy31, 60, .inl (fun _ => 0))), (q102, .inr (23, [.int 0, .ref q103, .int 20, .int 60, .ref (g 34), .null, .int 0, .int 0, .int 0])), (q104, .inr (17, [.long 0, .null]))] := hD
          have hK : va_K (dC, dI) vwCl [(cy31, .int), (cy34, .int)] s := hK
          refine W.widen (k := 171) (n := 112425) (Nat.le_of_ble_eq_true rfl) (Nat.le_of_ble_eq_true rfl) ?_
          refine lv_istore (lv' := [(5, .int 1), (4, .int 0), (3, .ref q104), (2, .ref q102), (1, .ref q1), (0, .ref b)]) hx hb dL_law_820 hl (by decide) rfl (fun ls hl => ?_)
          refine lv_aload_n hx hb dL_law_822 rfl (lv_at hl 3 rfl) ?_
          refine lv_aload_n hx hb dL_law_823 rfl (lv_at hl 5 rfl) ?_
          refine lv_iload hx hb dL_law_824 (lv_at hl 1 rfl) ?_
          refine lv_iconst (v := 1) hx hb dL_law_826 (by decide) ?_
          refine lv_iadd hx hb dL_law_827 ?_
          refine lv_topi (fun y1079 ey1079 => ?_)
          obtain rfl : y1079 = 1 := ey1079.trans (by decide)
          refine va_sld hx hb hX hbl hbA hS (vp_in_nI (n := 1) (by decide) (by decide)) dL_law_828 ?_
          refine lv_topi (fun z1080 ez1080 => ?_)
          obtain rfl : z1 = z1080 := (ez1080.trans ez1.symm).symm
          refine lv_aload_n hx hb dL_law_829 rfl (lv_at hl 5 rfl) ?_
          refine lv_iload hx hb dL_law_830 (lv_at hl 1 rfl) ?_
          refine lv_iconst (v := 2) hx hb dL_law_832 (by decide) ?_
          refine lv_iadd hx hb dL_law_833 ?_
          refine lv_topi (fun y1081 ey1081 => ?_)
          obtain rfl : y1081 = 2 := ey1081.trans (by decide)
          refine va_sld hx hb hX hbl hbA hS (vp_in_nI (n := 2) (by decide) (by decide)) dL_law_834 ?_
          refine lv_topi (fun z1082 ez1082 => ?_)
          obtain rfl : z2 = z1082 := (ez1082.trans ez2.symm).symm
          refine lv_aload_n hx hb dL_law_835 rfl (lv_at hl 5 rfl) ?_
          refine lv_iload hx hb dL_law_836 (lv_at hl 1 rfl) ?_
          refine lv_iconst (v := 3) hx hb dL_law_838 (by decide) ?_
          refine lv_iadd hx hb dL_law_839 ?_
          refine lv_topi (fun y1083 ey1083 => ?_)
          obtain rfl : y1083 = 3 := ey1083.trans (by decide)
          refine va_sld hx hb hX hbl hbA hS (vp_in_nI (n := 3) (by decide) (by decide)) dL_law_840 ?_
          refine lv_topi (fun z1084 ez1084 => ?_)
          obtain rfl : z3 = z1084 := (ez1084.trans ez3.symm).symm
          refine lv_aload_n hx hb dL_law_841 rfl (lv_at hl 5 rfl) ?_
          refine lv_iload hx hb dL_law_842 (lv_at hl 1 rfl) ?_
          refine lv_iconst (v := 4) hx hb dL_law_844 (by decide) ?_
          refine lv_iadd hx hb dL_law_845 ?_
          refine lv_topi (fun y1085 ey1085 => ?_)
          obtain rfl : y1085 = 4 := ey1085.trans (by decide)
          refine va_sld hx hb hX hbl hbA hS (vp_in_nI (n := 4) (by decide) (by decide)) dL_law_846 ?_
          refine lv_topi (fun z1086 ez1086 => ?_)
          obtain rfl : z4 = z1086 := (ez1086.trans ez4.symm).symm
          refine lv_aload_n hx hb dL_law_847 rfl (lv_at hl 5 rfl) ?_
          refine lv_iload hx hb dL_law_848 (lv_at hl 1 rfl) ?_
          refine lv_iconst (v := 5) hx hb dL_law_850 (by decide) ?_
          refine lv_iadd hx hb dL_law_851 ?_
          refine lv_topi (fun y1087 ey1087 => ?_)
          obtain rfl : y1087 = 5 := ey1087.trans (by decide)
          refine va_sld hx hb hX hbl hbA hS (vp_in_nI (n := 5) (by decide) (by decide)) dL_law_852 ?_
          refine lv_topi (fun z1088 ez1088 => ?_)
          obtain rfl : z5 = z1088 := (ez1088.trans ez5.symm).symm
          refine lv_aload_n hx hb dL_law_853 rfl (lv_at hl 5 rfl) ?_
          refine lv_iload hx hb dL_law_854 (lv_at hl 1 rfl) ?_
          refine lv_bipush (v := 6) hx hb dL_law_856 (by decide) ?_
          refine lv_iadd hx hb dL_law_858 ?_
          refine lv_topi (fun y1089 ey1089 => ?_)
          obtain rfl : y1089 = 6 := ey1089.trans (by decide)
          refine va_sld hx hb hX hbl hbA hS (vp_in_nI (n := 6) (by decide) (by decide)) dL_law_859 ?_
          refine lv_topi (fun z1090 ez1090 => ?_)
          obtain rfl : z6 = z1090 := (ez1090.trans ez6.symm).symm
          have hPc := hP.sub (ws' := [(q102, .inr (23, [.int 0, .ref q103, .int 20, .int 60, .ref (g 34), .null, .int 0, .int 0, .int 0]))]) [2] rfl
          have hDc := hD.sub (ws' := [(q102, .inr (23, [.int 0, .ref q103, .int 20, .int 60, .ref (g 34), .null, .int 0, .int 0, .int 0]))]) [2] (by decide) rfl
          have hKc := hK.sub (tys' := []) [] rfl
          have hFc := va_free (wc := [(q102, .inr (23, [.int 0, .ref q103, .int 20, .int 60, .ref (g 34), .null, .int 0, .int 0, .int 0]))]) hD hS hA [2] rfl
          refine va_calli (va_runV (As := [.int z1, .int z2, .int z3, .int z4, .int z5, .int z6]) (rest := []) ⟨hx, hb, hml, hown, hts⟩ (kX16_say_4 l dC dI g H.size q102 z1 z2 z3 z4 z5 z6 (.int 0) (.ref q103) (.int 20) (.int 60) (.ref (g 34)) .null (.int 0) (.int 0) (.int 0) ⟨by omega, by omega⟩ ⟨by omega, by omega⟩ ⟨by omega, by omega⟩ ⟨by omega, by omega⟩) (cwV 6 hts (ns_gq (List.forall_mem_cons.mpr ⟨wm659, (List.forall_mem_cons.mpr ⟨wm660, (List.forall_mem_cons.mpr ⟨wm661, (List.forall_mem_cons.mpr ⟨wm192, (fun _ h9 => nomatch h9)⟩)⟩)⟩)⟩) wm564) rfl rfl rfl (by decide +kernel) ⟨Nat.le_of_ble_eq_true rfl, Nat.le_of_ble_eq_true rfl⟩) ⟨fun a U gg mk q => by obtain ⟨q0, q1, qP, qK, qD, qF⟩ := q; exact ⟨q0, q1, qP, va_K.moved (u := U) (U := U.calling gg mk a) (Vm.Alike.refl U.vm) qK, qD, ns_same qF⟩, va_recv hK hP (ci := 23) (q0 := 2) rfl rfl, fun U hU hW => ⟨rfl, by rw [hU], by rw [hU]; exact hPc, va_K.moved hW.alike hKc, hDc.weaken (fun _ _ _ _ => trivial), ns_call hF hS hFc hU hW⟩⟩ rfl rfl hl.1 rfl (lv_room (Nat.le_of_ble_eq_true rfl)) dL_law_860 ⟨Nat.le_of_ble_eq_true rfl, Nat.le_of_ble_eq_true rfl⟩) hS (fun q _ h => hFc q h) hFc (fun r9 u t H1 locs ht hvm hw hB hz1 hk1 hS => ?_)
          obtain rfl := hw.symm
          obtain ⟨hP1, hK1, hD1⟩ := hB
          rw [ht] at hP1
          have hK1 := va_K.moved hvm.symm hK1
          obtain ⟨hP, hD⟩ := va_join (wr := [(q29, .inr (11, [.ref q30, .int 0])), (q30, .inl (cy31, 60, .inl (fun _ => 0))), (q104, .inr (17, [.long 0, .null]))]) (w1 := [(q102, .inr (23, [.int 1, .ref q103, .int 20, .int 60, .ref (g 34), .null, .int 0, .int 0, .int 0]))]) hP hD [2] [0, 1, 3] rfl rfl (by decide) (by decide) hk1 hFc hP1 hD1
          have hK := (hK.sub (tys' := [(cy31, .int), (cy34, .int)]) [0, 1] rfl).app hK1
          generalize H1 = H at hP hS ⊢
          have hP : va_P (dC, dI) vwCl [(q29, .inr (11, [.ref q30, .int 0])), (q30, .inl (cy31, 60, .inl (fun _ => 0))), (q104, .inr (17, [.long 0, .null])), (q102, .inr (23, [.int 1, .ref q103, .int 20, .int 60, .ref (g 34), .null, .int 0, .int 0, .int 0]))] H := hP
          have hD : va_D A [(q29, .inr (11, [.ref q30, .int 0])), (q30, .inl (cy31, 60, .inl (fun _ => 0))), (q104, .inr (17, [.long 0, .null])), (q102, .inr (23, [.int 1, .ref q103, .int 20, .int 60, .ref (g 34), .null, .int 0, .int 0, .int 0]))] := hD
          have hK : va_K (dC, dI) vwCl [(cy31, .int), (cy34, .int)] s := hK
          refine W.widen (k := 172) (n := 112431) (Nat.le_of_ble_eq_true rfl) (Nat.le_of_ble_eq_true rfl) ?_
          refine lv_istore (lv' := [(6, .int 0), (5, .int 1), (4, .int 0), (3, .ref q104), (2, .ref q102), (1, .ref q1), (0, .ref b)]) hx hb dL_law_863 hl (by decide) rfl (fun ls hl => ?_)
          refine lv_aload_n hx hb dL_law_865 rfl (lv_at hl 4 rfl) ?_
          have hPc := hP.sub (ws' := [(q102, .inr (23, [.int 1, .ref q103, .int 20, .int 60, .ref (g 34), .null, .int 0, .int 0, .int 0]))]) [3] rfl
          have hDc := hD.sub (ws' := [(q102, .inr (23, [.int 1, .ref q103, .int 20, .int 60, .ref (g 34), .null, .int 0, .int 0, .int 0]))]) [3] (by decide) rfl
          have hKc := hK.sub (tys' := []) [] rfl
          have hFc := va_free (wc := [(q102, .inr (23, [.int 1, .ref q103, .int 20, .int 60, .ref (g 34), .null, .int 0, .int 0, .int 0]))]) hD hS hA [3] rfl
          refine va_calli (va_runV (As := []) (rest := []) ⟨hx, hb, hml, hown, hts⟩ (kX16_thrown l dC dI g H.size q102 (.ref q103) (.int 20) (.int 60) (.ref (g 34)) .null (.int 0) (.int 0) (.int 0) ) (cwV 0 hts (ns_gq (List.forall_mem_cons.mpr ⟨wm414, (List.forall_mem_cons.mpr ⟨wm415, (List.forall_mem_cons.mpr ⟨wm416, (List.forall_mem_cons.mpr ⟨wm192, (fun _ h9 => nomatch h9)⟩)⟩)⟩)⟩) wm246) rfl rfl rfl (by decide +kernel) ⟨Nat.le_of_ble_eq_true rfl, Nat.le_of_ble_eq_true rfl⟩) ⟨fun a U gg mk q => by obtain ⟨q0, q1, qP, qK, qD, qF⟩ := q; exact ⟨q0, q1, qP, va_K.moved (u := U) (U := U.calling gg mk a) (Vm.Alike.refl U.vm) qK, qD, ns_same qF⟩, va_recv hK hP (ci := 23) (q0 := 3) rfl rfl, fun U hU hW => ⟨rfl, by rw [hU], by rw [hU]; exact hPc, va_K.moved hW.alike hKc, hDc.weaken (fun _ _ _ _ => trivial), ns_call hF hS hFc hU hW⟩⟩ rfl rfl hl.1 rfl (lv_room (Nat.le_of_ble_eq_true rfl)) dL_law_866 ⟨Nat.le_of_ble_eq_true rfl, Nat.le_of_ble_eq_true rfl⟩) hS (fun q _ h => hFc q h) hFc (fun r9 u t H1 locs ht hvm hw hB hz1 hk1 hS => ?_)
          obtain rfl := hw.symm
          obtain ⟨hP1, hK1, hD1⟩ := hB
          rw [ht] at hP1
          have hK1 := va_K.moved hvm.symm hK1
          obtain ⟨hP, hD⟩ := va_join (wr := [(q29, .inr (11, [.ref q30, .int 0])), (q30, .inl (cy31, 60, .inl (fun _ => 0))), (q104, .inr (17, [.long 0, .null]))]) (w1 := [(q102, .inr (23, [.int 1, .ref q103, .int 20, .int 60, .ref (g 34), .null, .int 0, .int 0, .int 0]))]) hP hD [3] [0, 1, 2] rfl rfl (by decide) (by decide) hk1 hFc hP1 hD1
          have hK := (hK.sub (tys' := [(cy31, .int), (cy34, .int)]) [0, 1] rfl).app hK1
          generalize H1 = H at hP hS ⊢
          have hP : va_P (dC, dI) vwCl [(q29, .inr (11, [.ref q30, .int 0])), (q30, .inl (cy31, 60, .inl (fun _ => 0))), (q104, .inr (17, [.long 0, .null])), (q102, .inr (23, [.int 1, .ref q103, .int 20, .int 60, .ref (g 34), .null, .int 0, .int 0, .int 0]))] H := hP
          have hD : va_D A [(q29, .inr (11, [.ref q30, .int 0])), (q30, .inl (cy31, 60, .inl (fun _ => 0))), (q104, .inr (17, [.long 0, .null])), (q102, .inr (23, [.int 1, .ref q103, .int 20, .int 60, .ref (g 34), .null, .int 0, .int 0, .int 0]))] := hD
          have hK : va_K (dC, dI) vwCl [(cy31, .int), (cy34, .int)] s := hK
          refine W.widen (k := 172) (n := 112431) (Nat.le_of_ble_eq_true rfl) (Nat.le_of_ble_eq_true rfl) ?_
          refine lv_iload hx hb dL_law_869 (lv_at hl 1 rfl) ?_
          refine lv_icmp_eq (tgt := 876) hx hb dL_law_871 (by decide) (fun c1091 => ?_) (fun c1091 => absurd (by decide) c1091)
          refine lv_iload hx hb dL_law_876 (lv_at hl 1 rfl) ?_
          refine lv_if_ne (tgt := 894) hx hb dL_law_878 (by decide) (fun c1092 => ?_) (fun c1092 => absurd c1092 (by decide))
          refine lv_goto (tgt := 2216) hx hb dL_law_894 (by decide) ?_
          exact law_tail C0 hA hAx hS (lv_sub hl [2, 6] rfl) (Nat.le_of_ble_eq_true rfl) (Nat.le_of_ble_eq_true rfl)
        · have _h9 := 0
          refine lv_aload_n hx hb dL_law_803 rfl (lv_at hl 4 rfl) ?_
          refine lv_iload hx hb dL_law_804 (lv_at hl 0 rfl) ?_
          refine lv_iconst (v := 5) hx hb dL_law_806 (by decide) ?_
          refine lv_iadd hx hb dL_law_807 ?_
          refine lv_topi (fun y1093 ey1093 => ?_)
          obtain rfl : y1093 = 5 := ey1093.trans (by decide)
          refine va_sld hx hb hX hbl hbA hS (vp_in_nI (n := 5) (by decide) (by decide)) dL_law_808 ?_
          refine lv_topi (fun z5 ez5 => ?_)
          have ez5 : z5 = xs 5 := ez5
          have rz5 := ns_rng z5
          rcases (show ((-2147483648 : Int) ≤ z5.toInt ∧ z5.toInt ≤ (-2 : Int)) ∨ ((-1 : Int) ≤ z5.toInt ∧ z5.toInt ≤ (21 : Int)) ∨ ((22 : Int) ≤ z5.toInt ∧ z5.toInt ≤ (2147483647 : Int)) by omega) with r5 | r5 | r5
          · have _h9 := 0
            refine lv_aload_n hx hb dL_law_809 rfl (lv_at hl 4 rfl) ?_
            refine lv_iload hx hb dL_law_810 (lv_at hl 0 rfl) ?_
            refine lv_bipush (v := 6) hx hb dL_law_812 (by decide) ?_
            refine lv_iadd hx hb dL_law_814 ?_
            refine lv_topi (fun y1095 ey1095 => ?_)
            obtain rfl : y1095 = 6 := ey1095.trans (by decide)
            refine va_sld hx hb hX hbl hbA hS (vp_in_nI (n := 6) (by decide) (by decide)) dL_law_815 ?_
            refine lv_topi (fun z6 ez6 => ?_)
            have ez6 : z6 = xs 6 := ez6
            refine lv_aload_n hx hb dL_law_816 rfl (lv_at hl 1 rfl) ?_
            have hPc := hP.sub (ws' := [(q1, .inr (16, [.ref q2, .ref q29, .ref q32, .ref q35, .ref q42, .ref q57, .ref q58, .ref q59, .ref q61, .ref q64, .ref q83, .int 20, .int 60, .int 0, .int 0, .int 0])), (q32, .inr (11, [.ref q33, .int 0])), (q33, .inl (cy34, 6, .inl (fun _ => 0)))]) [0, 3, 4] rfl
            have hDc := hD.sub (ws' := [(q1, .inr (16, [.ref q2, .ref q29, .ref q32, .ref q35, .ref q42, .ref q57, .ref q58, .ref q59, .ref q61, .ref q64, .ref q83, .int 20, .int 60, .int 0, .int 0, .int 0])), (q32, .inr (11, [.ref q33, .int 0])), (q33, .inl (cy34, 6, .inl (fun _ => 0)))]) [0, 3, 4] (by decide) rfl
            have hKc := hK.sub (tys' := [(cy34, .int)]) [1] rfl
            have hFc := va_free (wc := [(q1, .inr (16, [.ref q2, .ref q29, .ref q32, .ref q35, .ref q42, .ref q57, .ref q58, .ref q59, .ref q61, .ref q64, .ref q83, .int 20, .int 60, .int 0, .int 0, .int 0])), (q32, .inr (11, [.ref q33, .int 0])), (q33, .inl (cy34, 6, .inl (fun _ => 0)))]) hD hS hA [0, 3, 4] rfl
            refine va_calli (vx_runSW (As := [.ref q1, .int z1, .int z2, .int z3, .int z4, .int z5, .int z6, .ref q104]) (rest := []) ⟨hx, hb, hml, hown, hts⟩ (kL_say_5 l dC dI g H.size q1 z1 z2 z3 z4 z5 z6 q104 q32 q33 (.ref q2) (.ref q29) (.ref q35) (.ref q42) (.ref q57) (.ref q58) (.ref q59) (.ref q61) (.ref q64) (.ref q83) (.int 20) (.int 60) (.int 0) (.int 0) (.int 0) (.int 0) cy34 ⟨by omega, by omega⟩ ⟨by omega, by omega⟩ ⟨by omega, by omega⟩ ⟨by omega, by omega⟩ ⟨by omega, by omega⟩ hlt) (vx_cwSW 8 hts (ns_gq (List.forall_mem_cons.mpr ⟨wm657, (List.forall_mem_cons.mpr ⟨wm658, (List.forall_mem_cons.mpr ⟨wm408, (fun _ h9 => nomatch h9)⟩)⟩)⟩) wm563) rfl rfl rfl (by decide +kernel) ⟨Nat.le_of_ble_eq_true rfl, Nat.le_of_ble_eq_true rfl⟩) ⟨fun a U gg mk q => by obtain ⟨q0, q1, qP, qK, qD, qF⟩ := q; exact ⟨q0, q1, qP, va_K.moved (u := U) (U := U.calling gg mk a) (Vm.Alike.refl U.vm) qK, qD, ns_same qF⟩, fun U hU hW => ⟨rfl, by rw [hU], by rw [hU]; exact hPc, va_K.moved hW.alike hKc, hDc.weaken (fun _ _ _ _ => trivial), ns_call hF hS hFc hU hW⟩⟩ rfl rfl hl.1 rfl (lv_room (Nat.le_of_ble_eq_true rfl)) dL_law_817 ⟨Nat.le_of_ble_eq_true rfl, Nat.le_of_ble_eq_true rfl⟩) hS (fun q _ h => hFc q h) hFc (fun r9 u t H1 locs ht hvm hw hB hz1 hk1 hS => ?_)
            obtain rfl := hw.symm
            obtain ⟨hP1, hK1, hD1⟩ := hB
            rw [ht] at hP1
            have hK1 := va_K.moved hvm.symm hK1
            obtain ⟨hP, hD⟩ := va_join (wr := [(q29, .inr (11, [.ref q30, .int 0])), (q30, .inl (cy31, 60, .inl (fun _ => 0))), (q102, .inr (23, [.int 0, .ref q103, .int 20, .int 60, .ref (g 34), .null, .int 0, .int 0, .int 0])), (q104, .inr (17, [.long 0, .null]))]) (w1 := []) hP hD [0, 3, 4] [1, 2, 5, 6] rfl rfl (by decide) (by decide) hk1 hFc hP1 hD1
            have hK := (hK.sub (tys' := [(cy31, .int), (cy34, .int)]) [0, 1] rfl).app hK1
            generalize H1 = H at hP hS ⊢
            have hP : va_P (dC, dI) vwCl [(q29, .inr (11, [.ref q30, .int 0])), (q30, .inl (cy31, 60, .inl (fun _ => 0))), (q102, .inr (23, [.int 0, .ref q103, .int 20, .int 60, .ref (g 34), .null, .int 0, .int 0, .int 0])), (q104, .inr (17, [.long 0, .null]))] H := hP
            have hD : va_D A [(q29, .inr (11, [.ref q30, .int 0])), (q30, .inl (cy31, 60, .inl (fun _ => 0))), (q102, .inr (23, [.int 0, .ref q103, .int 20, .int 60, .ref (g 34), .null, .int 0, .int 0, .int 0])), (q104, .inr (17, [.long 0, .null]))] := hD
            have hK : va_K (dC, dI) vwCl [(cy31, .int), (cy34, .int)] s := hK
            refine W.widen (k := 171) (n := 112425) (Nat.le_of_ble_eq_true rfl) (Nat.le_of_ble_eq_true rfl) ?_
            refine lv_istore (lv' := [(5, .int 1), (4, .int 0), (3, .ref q104), (2, .ref q102), (1, .ref q1), (0, .ref b)]) hx hb dL_law_820 hl (by decide) rfl (fun ls hl => ?_)
            refine lv_aload_n hx hb dL_law_822 rfl (lv_at hl 3 rfl) ?_
            refine lv_aload_n hx hb dL_law_823 rfl (lv_at hl 5 rfl) ?_
            refine lv_iload hx hb dL_law_824 (lv_at hl 1 rfl) ?_
            refine lv_iconst (v := 1) hx hb dL_law_826 (by decide) ?_
            refine lv_iadd hx hb dL_law_827 ?_
            refine lv_topi (fun y1097 ey1097 => ?_)
            obtain rfl : y1097 = 1 := ey1097.trans (by decide)
            refine va_sld hx hb hX hbl hbA hS (vp_in_nI (n := 1) (by decide) (by decide)) dL_law_828 ?_
            refine lv_topi (fun z1098 ez1098 => ?_)
            obtain rfl : z1 = z1098 := (ez1098.trans ez1.symm).symm
            refine lv_aload_n hx hb dL_law_829 rfl (lv_at hl 5 rfl) ?_
            refine lv_iload hx hb dL_law_830 (lv_at hl 1 rfl) ?_
            refine lv_iconst (v := 2) hx hb dL_law_832 (by decide) ?_
            refine lv_iadd hx hb dL_law_833 ?_
            refine lv_topi (fun y1099 ey1099 => ?_)
            obtain rfl : y1099 = 2 := ey1099.trans (by decide)
            refine va_sld hx hb hX hbl hbA hS (vp_in_nI (n := 2) (by decide) (by decide)) dL_law_834 ?_
            refine lv_topi (fun z1100 ez1100 => ?_)
            obtain rfl : z2 = z1100 := (ez1100.trans ez2.symm).symm
            refine lv_aload_n hx hb dL_law_835 rfl (lv_at hl 5 rfl) ?_
            refine lv_iload hx hb dL_law_836 (lv_at hl 1 rfl) ?_
            refine lv_iconst (v := 3) hx hb dL_law_838 (by decide) ?_
            refine lv_iadd hx hb dL_law_839 ?_
            refine lv_topi (fun y1101 ey1101 => ?_)
            obtain rfl : y1101 = 3 := ey1101.trans (by decide)
            refine va_sld hx hb hX hbl hbA hS (vp_in_nI (n := 3) (by decide) (by decide)) dL_law_840 ?_
            refine lv_topi (fun z1102 ez1102 => ?_)
            obtain rfl : z3 = z1102 := (ez1102.trans ez3.symm).symm
            refine lv_aload_n hx hb dL_law_841 rfl (lv_at hl 5 rfl) ?_
            refine lv_iload hx hb dL_law_842 (lv_at hl 1 rfl) ?_
            refine lv_iconst (v := 4) hx hb dL_law_844 (by decide) ?_
            refine lv_iadd hx hb dL_law_845 ?_
            refine lv_topi (fun y1103 ey1103 => ?_)
            obtain rfl : y1103 = 4 := ey1103.trans (by decide)
            refine va_sld hx hb hX hbl hbA hS (vp_in_nI (n := 4) (by decide) (by decide)) dL_law_846 ?_
            refine lv_topi (fun z1104 ez1104 => ?_)
            obtain rfl : z4 = z1104 := (ez1104.trans ez4.symm).symm
            refine lv_aload_n hx hb dL_law_847 rfl (lv_at hl 5 rfl) ?_
            refine lv_iload hx hb dL_law_848 (lv_at hl 1 rfl) ?_
            refine lv_iconst (v := 5) hx hb dL_law_850 (by decide) ?_
            refine lv_iadd hx hb dL_law_851 ?_
            refine lv_topi (fun y1105 ey1105 => ?_)
            obtain rfl : y1105 = 5 := ey1105.trans (by decide)
            refine va_sld hx hb hX hbl hbA hS (vp_in_nI (n := 5) (by decide) (by decide)) dL_law_852 ?_
            refine lv_topi (fun z1106 ez1106 => ?_)
            obtain rfl : z5 = z1106 := (ez1106.trans ez5.symm).symm
            refine lv_aload_n hx hb dL_law_853 rfl (lv_at hl 5 rfl) ?_
            refine lv_iload hx hb dL_law_854 (lv_at hl 1 rfl) ?_
            refine lv_bipush (v := 6) hx hb dL_law_856 (by decide) ?_
            refine lv_iadd hx hb dL_law_858 ?_
            refine lv_topi (fun y1107 ey1107 => ?_)
            obtain rfl : y1107 = 6 := ey1107.trans (by decide)
            refine va_sld hx hb hX hbl hbA hS (vp_in_nI (n := 6) (by decide) (by decide)) dL_law_859 ?_
            refine lv_topi (fun z1108 ez1108 => ?_)
            obtain rfl : z6 = z1108 := (ez1108.trans ez6.symm).symm
            have hPc := hP.sub (ws' := [(q102, .inr (23, [.int 0, .ref q103, .int 20, .int 60, .ref (g 34), .null, .int 0, .int 0, .int 0]))]) [2] rfl
            have hDc := hD.sub (ws' := [(q102, .inr (23, [.int 0, .ref q103, .int 20, .int 60, .ref (g 34), .null, .int 0, .int 0, .int 0]))]) [2] (by decide) rfl
            have hKc := hK.sub (tys' := []) [] rfl
            have hFc := va_free (wc := [(q102, .inr (23, [.int 0, .ref q103, .int 20, .int 60, .ref (g 34), .null, .int 0, .int 0, .int 0]))]) hD hS hA [2] rfl
            refine va_calli (va_runV (As := [.int z1, .int z2, .int z3, .int z4, .int z5, .int z6]) (rest := []) ⟨hx, hb, hml, hown, hts⟩ (kX16_say_5 l dC dI g H.size q102 z1 z2 z3 z4 z5 z6 (.int 0) (.ref q103) (.int 20) (.int 60) (.ref (g 34)) .null (.int 0) (.int 0) (.int 0) ⟨by omega, by omega⟩ ⟨by omega, by omega⟩ ⟨by omega, by omega⟩ ⟨by omega, by omega⟩ ⟨by omega, by omega⟩) (cwV 6 hts (ns_gq (List.forall_mem_cons.mpr ⟨wm659, (List.forall_mem_cons.mpr ⟨wm660, (List.forall_mem_cons.mpr ⟨wm661, (List.forall_mem_cons.mpr ⟨wm192, (fun _ h9 => nomatch h9)⟩)⟩)⟩)⟩) wm564) rfl rfl rfl (by decide +kernel) ⟨Nat.le_of_ble_eq_true rfl, Nat.le_of_ble_eq_true rfl⟩) ⟨fun a U gg mk q => by obtain ⟨q0, q1, qP, qK, qD, qF⟩ := q; exact ⟨q0, q1, qP, va_K.moved (u := U) (U := U.calling gg mk a) (Vm.Alike.refl U.vm) qK, qD, ns_same qF⟩, va_recv hK hP (ci := 23) (q0 := 2) rfl rfl, fun U hU hW => ⟨rfl, by rw [hU], by rw [hU]; exact hPc, va_K.moved hW.alike hKc, hDc.weaken (fun _ _ _ _ => trivial), ns_call hF hS hFc hU hW⟩⟩ rfl rfl hl.1 rfl (lv_room (Nat.le_of_ble_eq_true rfl)) dL_law_860 ⟨Nat.le_of_ble_eq_true rfl, Nat.le_of_ble_eq_true rfl⟩) hS (fun q _ h => hFc q h) hFc (fun r9 u t H1 locs ht hvm hw hB hz1 hk1 hS => ?_)
            obtain rfl := hw.symm
            obtain ⟨hP1, hK1, hD1⟩ := hB
            rw [ht] at hP1
            have hK1 := va_K.moved hvm.symm hK1
            obtain ⟨hP, hD⟩ := va_join (wr := [(q29, .inr (11, [.ref q30, .int 0])), (q30, .inl (cy31, 60, .inl (fun _ => 0))), (q104, .inr (17, [.long 0, .null]))]) (w1 := [(q102, .inr (23, [.int 1, .ref q103, .int 20, .int 60, .ref (g 34), .null, .int 0, .int 0, .int 0]))]) hP hD [2] [0, 1, 3] rfl rfl (by decide) (by decide) hk1 hFc hP1 hD1
            have hK := (hK.sub (tys' := [(cy31, .int), (cy34, .int)]) [0, 1] rfl).app hK1
            generalize H1 = H at hP hS ⊢
            have hP : va_P (dC, dI) vwCl [(q29, .inr (11, [.ref q30, .int 0])), (q30, .inl (cy31, 60, .inl (fun _ => 0))), (q104, .inr (17, [.long 0, .null])), (q102, .inr (23, [.int 1, .ref q103, .int 20, .int 60, .ref (g 34), .null, .int 0, .int 0, .int 0]))] H := hP
            have hD : va_D A [(q29, .inr (11, [.ref q30, .int 0])), (q30, .inl (cy31, 60, .inl (fun _ => 0))), (q104, .inr (17, [.long 0, .null])), (q102, .inr (23, [.int 1, .ref q103, .int 20, .int 60, .ref (g 34), .null, .int 0, .int 0, .int 0]))] := hD
            have hK : va_K (dC, dI) vwCl [(cy31, .int), (cy34, .int)] s := hK
            refine W.widen (k := 172) (n := 112431) (Nat.le_of_ble_eq_true rfl) (Nat.le_of_ble_eq_true rfl) ?_
            refine lv_istore (lv' := [(6, .int 0), (5, .int 1), (4, .int 0), (3, .ref q104), (2, .ref q102), (1, .ref q1), (0, .ref b)]) hx hb dL_law_863 hl (by decide) rfl (fun ls hl => ?_)
            refine lv_aload_n hx hb dL_law_865 rfl (lv_at hl 4 rfl) ?_
            have hPc := hP.sub (ws' := [(q102, .inr (23, [.int 1, .ref q103, .int 20, .int 60, .ref (g 34), .null, .int 0, .int 0, .int 0]))]) [3] rfl
            have hDc := hD.sub (ws' := [(q102, .inr (23, [.int 1, .ref q103, .int 20, .int 60, .ref (g 34), .null, .int 0, .int 0, .int 0]))]) [3] (by decide) rfl
            have hKc := hK.sub (tys' := []) [] rfl
            have hFc := va_free (wc := [(q102, .inr (23, [.int 1, .ref q103, .int 20, .int 60, .ref (g 34), .null, .int 0, .int 0, .int 0]))]) hD hS hA [3] rfl
            refine va_calli (va_runV (As := []) (rest := []) ⟨hx, hb, hml, hown, hts⟩ (kX16_thrown l dC dI g H.size q102 (.ref q103) (.int 20) (.int 60) (.ref (g 34)) .null (.int 0) (.int 0) (.int 0) ) (cwV 0 hts (ns_gq (List.forall_mem_cons.mpr ⟨wm414, (List.forall_mem_cons.mpr ⟨wm415, (List.forall_mem_cons.mpr ⟨wm416, (List.forall_mem_cons.mpr ⟨wm192, (fun _ h9 => nomatch h9)⟩)⟩)⟩)⟩) wm246) rfl rfl rfl (by decide +kernel) ⟨Nat.le_of_ble_eq_true rfl, Nat.le_of_ble_eq_true rfl⟩) ⟨fun a U gg mk q => by obtain ⟨q0, q1, qP, qK, qD, qF⟩ := q; exact ⟨q0, q1, qP, va_K.moved (u := U) (U := U.calling gg mk a) (Vm.Alike.refl U.vm) qK, qD, ns_same qF⟩, va_recv hK hP (ci := 23) (q0 := 3) rfl rfl, fun U hU hW => ⟨rfl, by rw [hU], by rw [hU]; exact hPc, va_K.moved hW.alike hKc, hDc.weaken (fun _ _ _ _ => trivial), ns_call hF hS hFc hU hW⟩⟩ rfl rfl hl.1 rfl (lv_room (Nat.le_of_ble_eq_true rfl)) dL_law_866 ⟨Nat.le_of_ble_eq_true rfl, Nat.le_of_ble_eq_true rfl⟩) hS (fun q _ h => hFc q h) hFc (fun r9 u t H1 locs ht hvm hw hB hz1 hk1 hS => ?_)
            obtain rfl := hw.symm
            obtain ⟨hP1, hK1, hD1⟩ := hB
            rw [ht] at hP1
            have hK1 := va_K.moved hvm.symm hK1
            obtain ⟨hP, hD⟩ := va_join (wr := [(q29, .inr (11, [.ref q30, .int 0])), (q30, .inl (cy31, 60, .inl (fun _ => 0))), (q104, .inr (17, [.long 0, .null]))]) (w1 := [(q102, .inr (23, [.int 1, .ref q103, .int 20, .int 60, .ref (g 34), .null, .int 0, .int 0, .int 0]))]) hP hD [3] [0, 1, 2] rfl rfl (by decide) (by decide) hk1 hFc hP1 hD1
            have hK := (hK.sub (tys' := [(cy31, .int), (cy34, .int)]) [0, 1] rfl).app hK1
            generalize H1 = H at hP hS ⊢
            have hP : va_P (dC, dI) vwCl [(q29, .inr (11, [.ref q30, .int 0])), (q30, .inl (cy31, 60, .inl (fun _ => 0))), (q104, .inr (17, [.long 0, .null])), (q102, .inr (23, [.int 1, .ref q103, .int 20, .int 60, .ref (g 34), .null, .int 0, .int 0, .int 0]))] H := hP
            have hD : va_D A [(q29, .inr (11, [.ref q30, .int 0])), (q30, .inl (cy31, 60, .inl (fun _ => 0))), (q104, .inr (17, [.long 0, .null])), (q102, .inr (23, [.int 1, .ref q103, .int 20, .int 60, .ref (g 34), .null, .int 0, .int 0, .int 0]))] := hD
            have hK : va_K (dC, dI) vwCl [(cy31, .int), (cy34, .int)] s := hK
            refine W.widen (k := 172) (n := 112431) (Nat.le_of_ble_eq_true rfl) (Nat.le_of_ble_eq_true rfl) ?_
            refine lv_iload hx hb dL_law_869 (lv_at hl 1 rfl) ?_
            refine lv_icmp_eq (tgt := 876) hx hb dL_law_871 (by decide) (fun c1109 => ?_) (fun c1109 => absurd (by decide) c1109)
            refine lv_iload hx hb dL_law_876 (lv_at hl 1 rfl) ?_
            refine lv_if_ne (tgt := 894) hx hb dL_law_878 (by decide) (fun c1110 => ?_) (fun c1110 => absurd c1110 (by decide))
            refine lv_goto (tgt := 2216) hx hb dL_law_894 (by decide) ?_
            exact law_tail C0 hA hAx hS (lv_sub hl [2, 6] rfl) (Nat.le_of_ble_eq_true rfl) (Nat.le_of_ble_eq_true rfl)
          · have _h9 := 0
            refine lv_aload_n hx hb dL_law_809 rfl (lv_at hl 4 rfl) ?_
            refine lv_iload hx hb dL_law_810 (lv_at hl 0 rfl) ?_
            refine lv_bipush (v := 6) hx hb dL_law_812 (by decide) ?_
            refine lv_iadd hx hb dL_law_814 ?_
            refine lv_topi (fun y1111 ey1111 => ?_)
            obtain rfl : y1111 = 6 := ey1111.trans (by decide)
            refine va_sld hx hb hX hbl hbA hS (vp_in_nI (n := 6) (by decide) (by decide)) dL_law_815 ?_
            refine lv_topi (fun z6 ez6 => ?_)
            have ez6 : z6 = xs 6 := ez6
            have rz6 := ns_rng z6
            rcases (show ((-2147483648 : Int) ≤ z6.toInt ∧ z6.toInt ≤ (-2 : Int)) ∨ ((-1 : Int) ≤ z6.toInt ∧ z6.toInt ≤ (21 : Int)) ∨ ((22 : Int) ≤ z6.toInt ∧ z6.toInt ≤ (2147483647 : Int)) by omega) with r6 | r6 | r6
            · have _h9 := 0
              refine lv_aload_n hx hb dL_law_816 rfl (lv_at hl 1 rfl) ?_
              have hPc := hP.sub (ws' := [(q1, .inr (16, [.ref q2, .ref q29, .ref q32, .ref q35, .ref q42, .ref q57, .ref q58, .ref q59, .ref q61, .ref q64, .ref q83, .int 20, .int 60, .int 0, .int 0, .int 0])), (q32, .inr (11, [.ref q33, .int 0])), (q33, .inl (cy34, 6, .inl (fun _ => 0)))]) [0, 3, 4] rfl
              have hDc := hD.sub (ws' := [(q1, .inr (16, [.ref q2, .ref q29, .ref q32, .ref q35, .ref q42, .ref q57, .ref q58, .ref q59, .ref q61, .ref q64, .ref q83, .int 20, .int 60, .int 0, .int 0, .int 0])), (q32, .inr (11, [.ref q33, .int 0])), (q33, .inl (cy34, 6, .inl (fun _ => 0)))]) [0, 3, 4] (by decide) rfl
              have hKc := hK.sub (tys' := [(cy34, .int)]) [1] rfl
              have hFc := va_free (wc := [(q1, .inr (16, [.ref q2, .ref q29, .ref q32, .ref q35, .ref q42, .ref q57, .ref q58, .ref q59, .ref q61, .ref q64, .ref q83, .int 20, .int 60, .int 0, .int 0, .int 0])), (q32, .inr (11, [.ref q33, .int 0])), (q33, .inl (cy34, 6, .inl (fun _ => 0)))]) hD hS hA [0, 3, 4] rfl
              refine va_calli (vx_runSW (As := [.ref q1, .int z1, .int z2, .int z3, .int z4, .int z5, .int z6, .ref q104]) (rest := []) ⟨hx, hb, hml, hown, hts⟩ (kL_say_6 l dC dI g H.size q1 z1 z2 z3 z4 z5 z6 q104 q32 q33 (.ref q2) (.ref q29) (.ref q35) (.ref q42) (.ref q57) (.ref q58) (.ref q59) (.ref q61) (.ref q64) (.ref q83) (.int 20) (.int 60) (.int 0) (.int 0) (.int 0) (.int 0) cy34 ⟨by omega, by omega⟩ ⟨by omega, by omega⟩ ⟨by omega, by omega⟩ ⟨by omega, by omega⟩ ⟨by omega, by omega⟩ ⟨by omega, by omega⟩ hlt) (vx_cwSW 8 hts (ns_gq (List.forall_mem_cons.mpr ⟨wm657, (List.forall_mem_cons.mpr ⟨wm658, (List.forall_mem_cons.mpr ⟨wm408, (fun _ h9 => nomatch h9)⟩)⟩)⟩) wm563) rfl rfl rfl (by decide +kernel) ⟨Nat.le_of_ble_eq_true rfl, Nat.le_of_ble_eq_true rfl⟩) ⟨fun a U gg mk q => by obtain ⟨q0, q1, qP, qK, qD, qF⟩ := q; exact ⟨q0, q1, qP, va_K.moved (u := U) (U := U.calling gg mk a) (Vm.Alike.refl U.vm) qK, qD, ns_same qF⟩, fun U hU hW => ⟨rfl, by rw [hU], by rw [hU]; exact hPc, va_K.moved hW.alike hKc, hDc.weaken (fun _ _ _ _ => trivial), ns_call hF hS hFc hU hW⟩⟩ rfl rfl hl.1 rfl (lv_room (Nat.le_of_ble_eq_true rfl)) dL_law_817 ⟨Nat.le_of_ble_eq_true rfl, Nat.le_of_ble_eq_true rfl⟩) hS (fun q _ h => hFc q h) hFc (fun r9 u t H1 locs ht hvm hw hB hz1 hk1 hS => ?_)
              obtain rfl := hw.symm
              obtain ⟨hP1, hK1, hD1⟩ := hB
              rw [ht] at hP1
              have hK1 := va_K.moved hvm.symm hK1
              obtain ⟨hP, hD⟩ := va_join (wr := [(q29, .inr (11, [.ref q30, .int 0])), (q30, .inl (cy31, 60, .inl (fun _ => 0))), (q102, .inr (23, [.int 0, .ref q103, .int 20, .int 60, .ref (g 34), .null, .int 0, .int 0, .int 0])), (q104, .inr (17, [.long 0, .null]))]) (w1 := []) hP hD [0, 3, 4] [1, 2, 5, 6] rfl rfl (by decide) (by decide) hk1 hFc hP1 hD1
              have hK := (hK.sub (tys' := [(cy31, .int), (cy34, .int)]) [0, 1] rfl).app hK1
              generalize H1 = H at hP hS ⊢
              have hP : va_P (dC, dI) vwCl [(q29, .inr (11, [.ref q30, .int 0])), (q30, .inl (cy31, 60, .inl (fun _ => 0))), (q102, .inr (23, [.int 0, .ref q103, .int 20, .int 60, .ref (g 34), .null, .int 0, .int 0, .int 0])), (q104, .inr (17, [.long 0, .null]))] H := hP
              have hD : va_D A [(q29, .inr (11, [.ref q30, .int 0])), (q30, .inl (cy31, 60, .inl (fun _ => 0))), (q102, .inr (23, [.int 0, .ref q103, .int 20, .int 60, .ref (g 34), .null, .int 0, .int 0, .int 0])), (q104, .inr (17, [.long 0, .null]))] := hD
              have hK : va_K (dC, dI) vwCl [(cy31, .int), (cy34, .int)] s := hK
              refine W.widen (k := 171) (n := 112425) (Nat.le_of_ble_eq_true rfl) (Nat.le_of_ble_eq_true rfl) ?_
              refine lv_istore (lv' := [(5, .int 1), (4, .int 0), (3, .ref q104), (2, .ref q102), (1, .ref q1), (0, .ref b)]) hx hb dL_law_820 hl (by decide) rfl (fun ls hl => ?_)
              refine lv_aload_n hx hb dL_law_822 rfl (lv_at hl 3 rfl) ?_
              refine lv_aload_n hx hb dL_law_823 rfl (lv_at hl 5 rfl) ?_
              refine lv_iload hx hb dL_law_824 (lv_at hl 1 rfl) ?_
              refine lv_iconst (v := 1) hx hb dL_law_826 (by decide) ?_
              refine lv_iadd hx hb dL_law_827 ?_
              refine lv_topi (fun y1113 ey1113 => ?_)
              obtain rfl : y1113 = 1 := ey1113.trans (by decide)
              refine va_sld hx hb hX hbl hbA hS (vp_in_nI (n := 1) (by decide) (by decide)) dL_law_828 ?_
              refine lv_topi (fun z1114 ez1114 => ?_)
              obtain rfl : z1 = z1114 := (ez1114.trans ez1.symm).symm
              refine lv_aload_n hx hb dL_law_829 rfl (lv_at hl 5 rfl) ?_
              refine lv_iload hx hb dL_law_830 (lv_at hl 1 rfl) ?_
              refine lv_iconst (v := 2) hx hb dL_law_832 (by decide) ?_
              refine lv_iadd hx hb dL_law_833 ?_
              refine lv_topi (fun y1115 ey1115 => ?_)
              obtain rfl : y1115 = 2 := ey1115.trans (by decide)
              refine va_sld hx hb hX hbl hbA hS (vp_in_nI (n := 2) (by decide) (by decide)) dL_law_834 ?_
              refine lv_topi (fun z1116 ez1116 => ?_)
              obtain rfl : z2 = z1116 := (ez1116.trans ez2.symm).symm
              refine lv_aload_n hx hb dL_law_835 rfl (lv_at hl 5 rfl) ?_
              refine lv_iload hx hb dL_law_836 (lv_at hl 1 rfl) ?_
              refine lv_iconst (v := 3) hx hb dL_law_838 (by decide) ?_
              refine lv_iadd hx hb dL_law_839 ?_
              refine lv_topi (fun y1117 ey1117 => ?_)
              obtain rfl : y1117 = 3 := ey1117.trans (by decide)
              refine va_sld hx hb hX hbl hbA hS (vp_in_nI (n := 3) (by decide) (by decide)) dL_law_840 ?_
              refine lv_topi (fun z1118 ez1118 => ?_)
              obtain rfl : z3 = z1118 := (ez1118.trans ez3.symm).symm
              refine lv_aload_n hx hb dL_law_841 rfl (lv_at hl 5 rfl) ?_
              refine lv_iload hx hb dL_law_842 (lv_at hl 1 rfl) ?_
              refine lv_iconst (v := 4) hx hb dL_law_844 (by decide) ?_
              refine lv_iadd hx hb dL_law_845 ?_
              refine lv_topi (fun y1119 ey1119 => ?_)
              obtain rfl : y1119 = 4 := ey1119.trans (by decide)
              refine va_sld hx hb hX hbl hbA hS (vp_in_nI (n := 4) (by decide) (by decide)) dL_law_846 ?_
              refine lv_topi (fun z1120 ez1120 => ?_)
              obtain rfl : z4 = z1120 := (ez1120.trans ez4.symm).symm
              refine lv_aload_n hx hb dL_law_847 rfl (lv_at hl 5 rfl) ?_
              refine lv_iload hx hb dL_law_848 (lv_at hl 1 rfl) ?_
              refine lv_iconst (v := 5) hx hb dL_law_850 (by decide) ?_
              refine lv_iadd hx hb dL_law_851 ?_
              refine lv_topi (fun y1121 ey1121 => ?_)
              obtain rfl : y1121 = 5 := ey1121.trans (by decide)
              refine va_sld hx hb hX hbl hbA hS (vp_in_nI (n := 5) (by decide) (by decide)) dL_law_852 ?_
              refine lv_topi (fun z1122 ez1122 => ?_)
              obtain rfl : z5 = z1122 := (ez1122.trans ez5.symm).symm
              refine lv_aload_n hx hb dL_law_853 rfl (lv_at hl 5 rfl) ?_
              refine lv_iload hx hb dL_law_854 (lv_at hl 1 rfl) ?_
              refine lv_bipush (v := 6) hx hb dL_law_856 (by decide) ?_
              refine lv_iadd hx hb dL_law_858 ?_
              refine lv_topi (fun y1123 ey1123 => ?_)
              obtain rfl : y1123 = 6 := ey1123.trans (by decide)
              refine va_sld hx hb hX hbl hbA hS (vp_in_nI (n := 6) (by decide) (by decide)) dL_law_859 ?_
              refine lv_topi (fun z1124 ez1124 => ?_)
              obtain rfl : z6 = z1124 := (ez1124.trans ez6.symm).symm
              have hPc := hP.sub (ws' := [(q102, .inr (23, [.int 0, .ref q103, .int 20, .int 60, .ref (g 34), .null, .int 0, .int 0, .int 0]))]) [2] rfl
              have hDc := hD.sub (ws' := [(q102, .inr (23, [.int 0, .ref q103, .int 20, .int 60, .ref (g 34), .null, .int 0, .int 0, .int 0]))]) [2] (by decide) rfl
              have hKc := hK.sub (tys' := []) [] rfl
              have hFc := va_free (wc := [(q102, .inr (23, [.int 0, .ref q103, .int 20, .int 60, .ref (g 34), .null, .int 0, .int 0, .int 0]))]) hD hS hA [2] rfl
              refine va_calli (va_runV (As := [.int z1, .int z2, .int z3, .int z4, .int z5, .int z6]) (rest := []) ⟨hx, hb, hml, hown, hts⟩ (kX16_say_6 l dC dI g H.size q102 z1 z2 z3 z4 z5 z6 (.int 0) (.ref q103) (.int 20) (.int 60) (.ref (g 34)) .null (.int 0) (.int 0) (.int 0) ⟨by omega, by omega⟩ ⟨by omega, by omega⟩ ⟨by omega, by omega⟩ ⟨by omega, by omega⟩ ⟨by omega, by omega⟩ ⟨by omega, by omega⟩) (cwV 6 hts (ns_gq (List.forall_mem_cons.mpr ⟨wm659, (List.forall_mem_cons.mpr ⟨wm660, (List.forall_mem_cons.mpr ⟨wm661, (List.forall_mem_cons.mpr ⟨wm192, (fun _ h9 => nomatch h9)⟩)⟩)⟩)⟩) wm564) rfl rfl rfl (by decide +kernel) ⟨Nat.le_of_ble_eq_true rfl, Nat.le_of_ble_eq_true rfl⟩) ⟨fun a U gg mk q => by obtain ⟨q0, q1, qP, qK, qD, qF⟩ := q; exact ⟨q0, q1, qP, va_K.moved (u := U) (U := U.calling gg mk a) (Vm.Alike.refl U.vm) qK, qD, ns_same qF⟩, va_recv hK hP (ci := 23) (q0 := 2) rfl rfl, fun U hU hW => ⟨rfl, by rw [hU], by rw [hU]; exact hPc, va_K.moved hW.alike hKc, hDc.weaken (fun _ _ _ _ => trivial), ns_call hF hS hFc hU hW⟩⟩ rfl rfl hl.1 rfl (lv_room (Nat.le_of_ble_eq_true rfl)) dL_law_860 ⟨Nat.le_of_ble_eq_true rfl, Nat.le_of_ble_eq_true rfl⟩) hS (fun q _ h => hFc q h) hFc (fun r9 u t H1 locs ht hvm hw hB hz1 hk1 hS => ?_)
              obtain rfl := hw.symm
              obtain ⟨hP1, hK1, hD1⟩ := hB
              rw [ht] at hP1
              have hK1 := va_K.moved hvm.symm hK1
              obtain ⟨hP, hD⟩ := va_join (wr := [(q29, .inr (11, [.ref q30, .int 0])), (q30, .inl (cy31, 60, .inl (fun _ => 0))), (q104, .inr (17, [.long 0, .null]))]) (w1 := [(q102, .inr (23, [.int 1, .ref q103, .int 20, .int 60, .ref (g 34), .null, .int 0, .int 0, .int 0]))]) hP hD [2] [0, 1, 3] rfl rfl (by decide) (by decide) hk1 hFc hP1 hD1
              have hK := (hK.sub (tys' := [(cy31, .int), (cy34, .int)]) [0, 1] rfl).app hK1
              generalize H1 = H at hP hS ⊢
              have hP : va_P (dC, dI) vwCl [(q29, .inr (11, [.ref q30, .int 0])), (q30, .inl (cy31, 60, .inl (fun _ => 0))), (q104, .inr (17, [.long 0, .null])), (q102, .inr (23, [.int 1, .ref q103, .int 20, .int 60, .ref (g 34), .null, .int 0, .int 0, .int 0]))] H := hP
              have hD : va_D A [(q29, .inr (11, [.ref q30, .int 0])), (q30, .inl (cy31, 60, .inl (fun _ => 0))), (q104, .inr (17, [.long 0, .null])), (q102, .inr (23, [.int 1, .ref q103, .int 20, .int 60, .ref (g 34), .null, .int 0, .int 0, .int 0]))] := hD
              have hK : va_K (dC, dI) vwCl [(cy31, .int), (cy34, .int)] s := hK
              refine W.widen (k := 172) (n := 112431) (Nat.le_of_ble_eq_true rfl) (Nat.le_of_ble_eq_true rfl) ?_
              refine lv_istore (lv' := [(6, .int 0), (5, .int 1), (4, .int 0), (3, .ref q104), (2, .ref q102), (1, .ref q1), (0, .ref b)]) hx hb dL_law_863 hl (by decide) rfl (fun ls hl => ?_)
              refine lv_aload_n hx hb dL_law_865 rfl (lv_at hl 4 rfl) ?_
              have hPc := hP.sub (ws' := [(q102, .inr (23, [.int 1, .ref q103, .int 20, .int 60, .ref (g 34), .null, .int 0, .int 0, .int 0]))]) [3] rfl
              have hDc := hD.sub (ws' := [(q102, .inr (23, [.int 1, .ref q103, .int 20, .int 60, .ref (g 34), .null, .int 0, .int 0, .int 0]))]) [3] (by decide) rfl
              have hKc := hK.sub (tys' := []) [] rfl
              have hFc := va_free (wc := [(q102, .inr (23, [.int 1, .ref q103, .int 20, .int 60, .ref (g 34), .null, .int 0, .int 0, .int 0]))]) hD hS hA [3] rfl
              refine va_calli (va_runV (As := []) (rest := []) ⟨hx, hb, hml, hown, hts⟩ (kX16_thrown l dC dI g H.size q102 (.ref q103) (.int 20) (.int 60) (.ref (g 34)) .null (.int 0) (.int 0) (.int 0) ) (cwV 0 hts (ns_gq (List.forall_mem_cons.mpr ⟨wm414, (List.forall_mem_cons.mpr ⟨wm415, (List.forall_mem_cons.mpr ⟨wm416, (List.forall_mem_cons.mpr ⟨wm192, (fun _ h9 => nomatch h9)⟩)⟩)⟩)⟩) wm246) rfl rfl rfl (by decide +kernel) ⟨Nat.le_of_ble_eq_true rfl, Nat.le_of_ble_eq_true rfl⟩) ⟨fun a U gg mk q => by obtain ⟨q0, q1, qP, qK, qD, qF⟩ := q; exact ⟨q0, q1, qP, va_K.moved (u := U) (U := U.calling gg mk a) (Vm.Alike.refl U.vm) qK, qD, ns_same qF⟩, va_recv hK hP (ci := 23) (q0 := 3) rfl rfl, fun U hU hW => ⟨rfl, by rw [hU], by rw [hU]; exact hPc, va_K.moved hW.alike hKc, hDc.weaken (fun _ _ _ _ => trivial), ns_call hF hS hFc hU hW⟩⟩ rfl rfl hl.1 rfl (lv_room (Nat.le_of_ble_eq_true rfl)) dL_law_866 ⟨Nat.le_of_ble_eq_true rfl, Nat.le_of_ble_eq_true rfl⟩) hS (fun q _ h => hFc q h) hFc (fun r9 u t H1 locs ht hvm hw hB hz1 hk1 hS => ?_)
              obtain rfl := hw.symm
              obtain ⟨hP1, hK1, hD1⟩ := hB
              rw [ht] at hP1
              have hK1 := va_K.moved hvm.symm hK1
              obtain ⟨hP, hD⟩ := va_join (wr := [(q29, .inr (11, [.ref q30, .int 0])), (q30, .inl (cy31, 60, .inl (fun _ => 0))), (q104, .inr (17, [.long 0, .null]))]) (w1 := [(q102, .inr (23, [.int 1, .ref q103, .int 20, .int 60, .ref (g 34), .null, .int 0, .int 0, .int 0]))]) hP hD [3] [0, 1, 2] rfl rfl (by decide) (by decide) hk1 hFc hP1 hD1
              have hK := (hK.sub (tys' := [(cy31, .int), (cy34, .int)]) [0, 1] rfl).app hK1
              generalize H1 = H at hP hS ⊢
              have hP : va_P (dC, dI) vwCl [(q29, .inr (11, [.ref q30, .int 0])), (q30, .inl (cy31, 60, .inl (fun _ => 0))), (q104, .inr (17, [.long 0, .null])), (q102, .inr (23, [.int 1, .ref q103, .int 20, .int 60, .ref (g 34), .null, .int 0, .int 0, .int 0]))] H := hP
              have hD : va_D A [(q29, .inr (11, [.ref q30, .int 0])), (q30, .inl (cy31, 60, .inl (fun _ => 0))), (q104, .inr (17, [.long 0, .null])), (q102, .inr (23, [.int 1, .ref q103, .int 20, .int 60, .ref (g 34), .null, .int 0, .int 0, .int 0]))] := hD
              have hK : va_K (dC, dI) vwCl [(cy31, .int), (cy34, .int)] s := hK
              refine W.widen (k := 172) (n := 112431) (Nat.le_of_ble_eq_true rfl) (Nat.le_of_ble_eq_true rfl) ?_
              refine lv_iload hx hb dL_law_869 (lv_at hl 1 rfl) ?_
              refine lv_icmp_eq (tgt := 876) hx hb dL_law_871 (by decide) (fun c1125 => ?_) (fun c1125 => absurd (by decide) c1125)
              refine lv_iload hx hb dL_law_876 (lv_at hl 1 rfl) ?_
              refine lv_if_ne (tgt := 894) hx hb dL_law_878 (by decide) (fun c1126 => ?_) (fun c1126 => absurd c1126 (by decide))
              refine lv_goto (tgt := 2216) hx hb dL_law_894 (by decide) ?_
              exact law_tail C0 hA hAx hS (lv_sub hl [2, 6] rfl) (Nat.le_of_ble_eq_true rfl) (Nat.le_of_ble_eq_true rfl)
            · have _h9 := 0
              refine lv_aload_n hx hb dL_law_816 rfl (lv_at hl 1 rfl) ?_
              have hPc := hP.sub (ws' := [(q1, .inr (16, [.ref q2, .ref q29, .ref q32, .ref q35, .ref q42, .ref q57, .ref q58, .ref q59, .ref q61, .ref q64, .ref q83, .int 20, .int 60, .int 0, .int 0, .int 0])), (q32, .inr (11, [.ref q33, .int 0])), (q33, .inl (cy34, 6, .inl (fun _ => 0))), (q29, .inr (11, [.ref q30, .int 0])), (q30, .inl (cy31, 60, .inl (fun _ => 0))), (q104, .inr (17, [.long 0, .null]))]) [0, 3, 4, 1, 2, 6] rfl
              have hDc := hD.sub (ws' := [(q1, .inr (16, [.ref q2, .ref q29, .ref q32, .ref q35, .ref q42, .ref q57, .ref q58, .ref q59, .ref q61, .ref q64, .ref q83, .int 20, .int 60, .int 0, .int 0, .int 0])), (q32, .inr (11, [.ref q33, .int 0])), (q33, .inl (cy34, 6, .inl (fun _ => 0))), (q29, .inr (11, [.ref q30, .int 0])), (q30, .inl (cy31, 60, .inl (fun _ => 0))), (q104, .inr (17, [.long 0, .null]))]) [0, 3, 4, 1, 2, 6] (by decide) rfl
              have hKc := hK.sub (tys' := [(cy34, .int), (cy31, .int)]) [1, 0] rfl
              have hFc := va_free (wc := [(q1, .inr (16, [.ref q2, .ref q29, .ref q32, .ref q35, .ref q42, .ref q57, .ref q58, .ref q59, .ref q61, .ref q64, .ref q83, .int 20, .int 60, .int 0, .int 0, .int 0])), (q32, .inr (11, [.ref q33, .int 0])), (q33, .inl (cy34, 6, .inl (fun _ => 0))), (q29, .inr (11, [.ref q30, .int 0])), (q30, .inl (cy31, 60, .inl (fun _ => 0))), (q104, .inr (17, [.long 0, .null]))]) hD hS hA [0, 3, 4, 1, 2, 6] rfl
              refine va_calli (vx_runSW (As := [.ref q1, .int z1, .int z2, .int z3, .int z4, .int z5, .int z6, .ref q104]) (rest := []) ⟨hx, hb, hml, hown, hts⟩ (kL_say_7 l dC dI g H.size q1 z1 z2 z3 z4 z5 z6 q104 q32 q33 q29 q30 (.ref q2) (.ref q35) (.ref q42) (.ref q57) (.ref q58) (.ref q59) (.ref q61) (.ref q64) (.ref q83) (.int 20) (.int 60) (.int 0) (.int 0) (.int 0) (.int 0) cy34 cy31 (fun _ => 0) (.long 0) .null ⟨by omega, by omega⟩ ⟨by omega, by omega⟩ ⟨by omega, by omega⟩ ⟨by omega, by omega⟩ ⟨by omega, by omega⟩ ⟨by omega, by omega⟩) (vx_cwSW 8 hts (ns_gq (List.forall_mem_cons.mpr ⟨wm657, (List.forall_mem_cons.mpr ⟨wm658, (List.forall_mem_cons.mpr ⟨wm408, (fun _ h9 => nomatch h9)⟩)⟩)⟩) wm563) rfl rfl rfl (by decide +kernel) ⟨Nat.le_of_ble_eq_true rfl, Nat.le_of_ble_eq_true rfl⟩) ⟨fun a U gg mk q => by obtain ⟨q0, q1, qP, qK, qD, qF⟩ := q; exact ⟨q0, q1, qP, va_K.moved (u := U) (U := U.calling gg mk a) (Vm.Alike.refl U.vm) qK, qD, ns_same qF⟩, fun U hU hW => ⟨rfl, by rw [hU], by rw [hU]; exact hPc, va_K.moved hW.alike hKc, hDc.weaken (fun _ _ _ _ => trivial), ns_call hF hS hFc hU hW⟩⟩ rfl rfl hl.1 rfl (lv_room (Nat.le_of_ble_eq_true rfl)) dL_law_817 ⟨Nat.le_of_ble_eq_true rfl, Nat.le_of_ble_eq_true rfl⟩) hS (fun q _ h => hFc q h) hFc (fun r9 u t H1 locs ht hvm hw hB hz1 hk1 hS => ?_)
              obtain rfl := hw.symm
              obtain ⟨q1127, hP1, hK1, hD1⟩ := hB
              rw [ht] at hP1
              have hK1 := va_K.moved hvm.symm hK1
              obtain ⟨hP, hD⟩ := va_join (wr := [(q102, .inr (23, [.int 0, .ref q103, .int 20, .int 60, .ref (g 34), .null, .int 0, .int 0, .int 0]))]) (w1 := [(q104, .inr (17, [.long ((ns_len (ns_len (ns_len (ns_len (ns_len (ns_len 0 z1) z2) z3) z4) z5) z6).toInt64), .null])), (q33, .inl (cy34, 6, .inl (upd (upd (upd (upd (upd (upd (fun _ => 0) 0 z1) 1 z2) 2 z3) 3 z4) 4 z5) 5 z6))), (q1, .inr (16, [.ref q2, .ref q29, .ref q32, .ref q35, .ref q42, .ref q57, .ref q58, .ref q59, .ref q61, .ref q64, .ref q83, .int 20, .int 60, .int 0, .int 0, .int 0])), (q30, .inl (cy31, 60, .inl q1127)), (q32, .inr (11, [.ref q33, .int 6])), (q29, .inr (11, [.ref q30, .int (ns_len (ns_len (ns_len (ns_len (ns_len (ns_len 0 z1) z2) z3) z4) z5) z6)]))]) hP hD [0, 3, 4, 1, 2, 6] [5] rfl rfl (by decide) (by decide) hk1 hFc hP1 hD1
              have hK := (hK.sub (tys' := []) [] rfl).app hK1
              generalize H1 = H at hP hS ⊢
              have hP : va_P (dC, dI) vwCl [(q102, .inr (23, [.int 0, .ref q103, .int 20, .int 60, .ref (g 34), .null, .int 0, .int 0, .int 0])), (q104, .inr (17, [.long ((ns_len (ns_len (ns_len (ns_len (ns_len (ns_len 0 z1) z2) z3) z4) z5) z6).toInt64), .null])), (q33, .inl (cy34, 6, .inl (upd (upd (upd (upd (upd (upd (fun _ => 0) 0 z1) 1 z2) 2 z3) 3 z4) 4 z5) 5 z6))), (q1, .inr (16, [.ref q2, .ref q29, .ref q32, .ref q35, .ref q42, .ref q57, .ref q58, .ref q59, .ref q61, .ref q64, .ref q83, .int 20, .int 60, .int 0, .int 0, .int 0])), (q30, .inl (cy31, 60, .inl q1127)), (q32, .inr (11, [.ref q33, .int 6])), (q29, .inr (11, [.ref q30, .int (ns_len (ns_len (ns_len (ns_len (ns_len (ns_len 0 z1) z2) z3) z4) z5) z6)]))] H := hP
              have hD : va_D A [(q102, .inr (23, [.int 0, .ref q103, .int 20, .int 60, .ref (g 34), .null, .int 0, .int 0, .int 0])), (q104, .inr (17, [.long ((ns_len (ns_len (ns_len (ns_len (ns_len (ns_len 0 z1) z2) z3) z4) z5) z6).toInt64), .null])), (q33, .inl (cy34, 6, .inl (upd (upd (upd (upd (upd (upd (fun _ => 0) 0 z1) 1 z2) 2 z3) 3 z4) 4 z5) 5 z6))), (q1, .inr (16, [.ref q2, .ref q29, .ref q32, .ref q35, .ref q42, .ref q57, .ref q58, .ref q59, .ref q61, .ref q64, .ref q83, .int 20, .int 60, .int 0, .int 0, .int 0])), (q30, .inl (cy31, 60, .inl q1127)), (q32, .inr (11, [.ref q33, .int 6])), (q29, .inr (11, [.ref q30, .int (ns_len (ns_len (ns_len (ns_len (ns_len (ns_len 0 z1) z2) z3) z4) z5) z6)]))] := hD
              have hK : va_K (dC, dI) vwCl [(cy34, .int), (cy31, .int)] s := hK
              refine W.widen (k := 170) (n := 112419) (Nat.le_of_ble_eq_true rfl) (Nat.le_of_ble_eq_true rfl) ?_
              have r1134 : (0 : Int) ≤ (ns_len 0 z1).toInt ∧ (ns_len 0 z1).toInt ≤ (1 : Int) := ns_len_rng 0 z1 0 1 ⟨(by decide), (by decide)⟩ (by decide) (by decide)
              have r1135 : (0 : Int) ≤ (ns_len (ns_len 0 z1) z2).toInt ∧ (ns_len (ns_len 0 z1) z2).toInt ≤ (2 : Int) := ns_len_rng (ns_len 0 z1) z2 1 2 ⟨(by omega), (by omega)⟩ (by decide) (by decide)
              have r1136 : (0 : Int) ≤ (ns_len (ns_len (ns_len 0 z1) z2) z3).toInt ∧ (ns_len (ns_len (ns_len 0 z1) z2) z3).toInt ≤ (3 : Int) := ns_len_rng (ns_len (ns_len 0 z1) z2) z3 2 3 ⟨(by omega), (by omega)⟩ (by decide) (by decide)
              have r1137 : (0 : Int) ≤ (ns_len (ns_len (ns_len (ns_len 0 z1) z2) z3) z4).toInt ∧ (ns_len (ns_len (ns_len (ns_len 0 z1) z2) z3) z4).toInt ≤ (4 : Int) := ns_len_rng (ns_len (ns_len (ns_len 0 z1) z2) z3) z4 3 4 ⟨(by omega), (by omega)⟩ (by decide) (by decide)
              have r1138 : (0 : Int) ≤ (ns_len (ns_len (ns_len (ns_len (ns_len 0 z1) z2) z3) z4) z5).toInt ∧ (ns_len (ns_len (ns_len (ns_len (ns_len 0 z1) z2) z3) z4) z5).toInt ≤ (5 : Int) := ns_len_rng (ns_len (ns_len (ns_len (ns_len 0 z1) z2) z3) z4) z5 4 5 ⟨(by omega), (by omega)⟩ (by decide) (by decide)
              have r1139 : (0 : Int) ≤ (ns_len (ns_len (ns_len (ns_len (ns_len (ns_len 0 z1) z2) z3) z4) z5) z6).toInt ∧ (ns_len (ns_len (ns_len (ns_len (ns_len (ns_len 0 z1) z2) z3) z4) z5) z6).toInt ≤ (6 : Int) := ns_len_rng (ns_len (ns_len (ns_len (ns_len (ns_len 0 z1) z2) z3) z4) z5) z6 5 6 ⟨(by omega), (by omega)⟩ (by decide) (by decide)
              refine lv_istore (lv' := [(5, .int 0), (4, .int 0), (3, .ref q104), (2, .ref q102), (1, .ref q1), (0, .ref b)]) hx hb dL_law_820 hl (by decide) rfl (fun ls hl => ?_)
              refine lv_aload_n hx hb dL_law_822 rfl (lv_at hl 3 rfl) ?_
              refine lv_aload_n hx hb dL_law_823 rfl (lv_at hl 5 rfl) ?_
              refine lv_iload hx hb dL_law_824 (lv_at hl 1 rfl) ?_
              refine lv_iconst (v := 1) hx hb dL_law_826 (by decide) ?_
              refine lv_iadd hx hb dL_law_827 ?_
              refine lv_topi (fun y1140 ey1140 => ?_)
              obtain rfl : y1140 = 1 := ey1140.trans (by decide)
              refine va_sld hx hb hX hbl hbA hS (vp_in_nI (n := 1) (by decide) (by decide)) dL_law_828 ?_
              refine lv_topi (fun z1141 ez1141 => ?_)
              obtain rfl : z1 = z1141 := (ez1141.trans ez1.symm).symm
              refine lv_aload_n hx hb dL_law_829 rfl (lv_at hl 5 rfl) ?_
              refine lv_iload hx hb dL_law_830 (lv_at hl 1 rfl) ?_
              refine lv_iconst (v := 2) hx hb dL_law_832 (by decide) ?_
              refine lv_iadd hx hb dL_law_833 ?_
              refine lv_topi (fun y1142 ey1142 => ?_)
              obtain rfl : y1142 = 2 := ey1142.trans (by decide)
              refine va_sld hx hb hX hbl hbA hS (vp_in_nI (n := 2) (by decide) (by decide)) dL_law_834 ?_
              refine lv_topi (fun z1143 ez1143 => ?_)
              obtain rfl : z2 = z1143 := (ez1143.trans ez2.symm).symm
              refine lv_aload_n hx hb dL_law_835 rfl (lv_at hl 5 rfl) ?_
              refine lv_iload hx hb dL_law_836 (lv_at hl 1 rfl) ?_
              refine lv_iconst (v := 3) hx hb dL_law_838 (by decide) ?_
              refine lv_iadd hx hb dL_law_839 ?_
              refine lv_topi (fun y1144 ey1144 => ?_)
              obtain rfl : y1144 = 3 := ey1144.trans (by decide)
              refine va_sld hx hb hX hbl hbA hS (vp_in_nI (n := 3) (by decide) (by decide)) dL_law_840 ?_
              refine lv_topi (fun z1145 ez1145 => ?_)
              obtain rfl : z3 = z1145 := (ez1145.trans ez3.symm).symm
              refine lv_aload_n hx hb dL_law_841 rfl (lv_at hl 5 rfl) ?_
              refine lv_iload hx hb dL_law_842 (lv_at hl 1 rfl) ?_
              refine lv_iconst (v := 4) hx hb dL_law_844 (by decide) ?_
              refine lv_iadd hx hb dL_law_845 ?_
              refine lv_topi (fun y1146 ey1146 => ?_)
              obtain rfl : y1146 = 4 := ey1146.trans (by decide)
              refine va_sld hx hb hX hbl hbA hS (vp_in_nI (n := 4) (by decide) (by decide)) dL_law_846 ?_
              refine lv_topi (fun z1147 ez1147 => ?_)
              obtain rfl : z4 = z1147 := (ez1147.trans ez4.symm).symm
              refine lv_aload_n hx hb dL_law_847 rfl (lv_at hl 5 rfl) ?_
              refine lv_iload hx hb dL_law_848 (lv_at hl 1 rfl) ?_
              refine lv_iconst (v := 5) hx hb dL_law_850 (by decide) ?_
              refine lv_iadd hx hb dL_law_851 ?_
              refine lv_topi (fun y1148 ey1148 => ?_)
              obtain rfl : y1148 = 5 := ey1148.trans (by decide)
              refine va_sld hx hb hX hbl hbA hS (vp_in_nI (n := 5) (by decide) (by decide)) dL_law_852 ?_
              refine lv_topi (fun z1149 ez1149 => ?_)
              obtain rfl : z5 = z1149 := (ez1149.trans ez5.symm).symm
              refine lv_aload_n hx hb dL_law_853 rfl (lv_at hl 5 rfl) ?_
              refine lv_iload hx hb dL_law_854 (lv_at hl 1 rfl) ?_
              refine lv_bipush (v := 6) hx hb dL_law_856 (by decide) ?_
              refine lv_iadd hx hb dL_law_858 ?_
              refine lv_topi (fun y1150 ey1150 => ?_)
              obtain rfl : y1150 = 6 := ey1150.trans (by decide)
              refine va_sld hx hb hX hbl hbA hS (vp_in_nI (n := 6) (by decide) (by decide)) dL_law_859 ?_
              refine lv_topi (fun z1151 ez1151 => ?_)
              obtain rfl : z6 = z1151 := (ez1151.trans ez6.symm).symm
              have hPc := hP.sub (ws' := [(q102, .inr (23, [.int 0, .ref q103, .int 20, .int 60, .ref (g 34), .null, .int 0, .int 0, .int 0]))]) [0] rfl
              have hDc := hD.sub (ws' := [(q102, .inr (23, [.int 0, .ref q103, .int 20, .int 60, .ref (g 34), .null, .int 0, .int 0, .int 0]))]) [0] (by decide) rfl
              have hKc := hK.sub (tys' := []) [] rfl
              have hFc := va_free (wc := [(q102, .inr (23, [.int 0, .ref q103, .int 20, .int 60, .ref (g 34), .null, .int 0, .int 0, .int 0]))]) hD hS hA [0] rfl
              refine va_calli (va_runV (As := [.int z1, .int z2, .int z3, .int z4, .int z5, .int z6]) (rest := []) ⟨hx, hb, hml, hown, hts⟩ (kX16_say_7 l dC dI g H.size q102 z1 z2 z3 z4 z5 z6 (.int 0) (.ref q103) (.int 20) (.int 60) .null (.int 0) (.int 0) (.int 0) ⟨by omega, by omega⟩ ⟨by omega, by omega⟩ ⟨by omega, by omega⟩ ⟨by omega, by omega⟩ ⟨by omega, by omega⟩ ⟨by omega, by omega⟩) (cwV 6 hts (ns_gq (List.forall_mem_cons.mpr ⟨wm659, (List.forall_mem_cons.mpr ⟨wm660, (List.forall_mem_cons.mpr ⟨wm661, (List.forall_mem_cons.mpr ⟨wm192, (fun _ h9 => nomatch h9)⟩)⟩)⟩)⟩) wm564) rfl rfl rfl (by decide +kernel) ⟨Nat.le_of_ble_eq_true rfl, Nat.le_of_ble_eq_true rfl⟩) ⟨fun a U gg mk q => by obtain ⟨q0, q1, qP, qK, qD, qF⟩ := q; exact ⟨q0, q1, qP, va_K.moved (u := U) (U := U.calling gg mk a) (Vm.Alike.refl U.vm) qK, qD, ns_same qF⟩, va_recv hK hP (ci := 23) (q0 := 0) rfl rfl, fun U hU hW => ⟨rfl, by rw [hU], by rw [hU]; exact hPc, va_K.moved hW.alike hKc, hDc.weaken (fun _ _ _ _ => trivial), ns_call hF hS hFc hU hW⟩⟩ rfl rfl hl.1 rfl (lv_room (Nat.le_of_ble_eq_true rfl)) dL_law_860 ⟨Nat.le_of_ble_eq_true rfl, Nat.le_of_ble_eq_true rfl⟩) hS (fun q _ h => hFc q h) hFc (fun r9 u t H1 locs ht hvm hw hB hz1 hk1 hS => ?_)
              obtain rfl := hw.symm
              obtain ⟨q1152, hP1, hK1, hD1⟩ := hB
              rw [ht] at hP1
              have hK1 := va_K.moved hvm.symm hK1
              obtain ⟨hP, hD⟩ := va_join (wr := [(q104, .inr (17, [.long ((ns_len (ns_len (ns_len (ns_len (ns_len (ns_len 0 z1) z2) z3) z4) z5) z6).toInt64), .null])), (q33, .inl (cy34, 6, .inl (upd (upd (upd (upd (upd (upd (fun _ => 0) 0 z1) 1 z2) 2 z3) 3 z4) 4 z5) 5 z6))), (q1, .inr (16, [.ref q2, .ref q29, .ref q32, .ref q35, .ref q42, .ref q57, .ref q58, .ref q59, .ref q61, .ref q64, .ref q83, .int 20, .int 60, .int 0, .int 0, .int 0])), (q30, .inl (cy31, 60, .inl q1127)), (q32, .inr (11, [.ref q33, .int 6])), (q29, .inr (11, [.ref q30, .int (ns_len (ns_len (ns_len (ns_len (ns_len (ns_len 0 z1) z2) z3) z4) z5) z6)]))]) (w1 := [(q102, .inr (23, [.int 0, .ref q103, .int 20, .int 60, .ref q1152, .null, .int 0, .int 0, .int 0]))]) hP hD [0] [1, 2, 3, 4, 5, 6] rfl rfl (by decide) (by decide) hk1 hFc hP1 hD1
              have hK := (hK.sub (tys' := [(cy34, .int), (cy31, .int)]) [0, 1] rfl).app hK1
              generalize H1 = H at hP hS ⊢
              have hP : va_P (dC, dI) vwCl [(q104, .inr (17, [.long ((ns_len (ns_len (ns_len (ns_len (ns_len (ns_len 0 z1) z2) z3) z4) z5) z6).toInt64), .null])), (q33, .inl (cy34, 6, .inl (upd (upd (upd (upd (upd (upd (fun _ => 0) 0 z1) 1 z2) 2 z3) 3 z4) 4 z5) 5 z6))), (q1, .inr (16, [.ref q2, .ref q29, .ref q32, .ref q35, .ref q42, .ref q57, .ref q58, .ref q59, .ref q61, .ref q64, .ref q83, .int 20, .int 60, .int 0, .int 0, .int 0])), (q30, .inl (cy31, 60, .inl q1127)), (q32, .inr (11, [.ref q33, .int 6])), (q29, .inr (11, [.ref q30, .int (ns_len (ns_len (ns_len (ns_len (ns_len (ns_len 0 z1) z2) z3) z4) z5) z6)])), (q102, .inr (23, [.int 0, .ref q103, .int 20, .int 60, .ref q1152, .null, .int 0, .int 0, .int 0]))] H := hP
              have hD : va_D A [(q104, .inr (17, [.long ((ns_len (ns_len (ns_len (ns_len (ns_len (ns_len 0 z1) z2) z3) z4) z5) z6).toInt64), .null])), (q33, .inl (cy34, 6, .inl (upd (upd (upd (upd (upd (upd (fun _ => 0) 0 z1) 1 z2) 2 z3) 3 z4) 4 z5) 5 z6))), (q1, .inr (16, [.ref q2, .ref q29, .ref q32, .ref q35, .ref q42, .ref q57, .ref q58, .ref q59, .ref q61, .ref q64, .ref q83, .int 20, .int 60, .int 0, .int 0, .int 0])), (q30, .inl (cy31, 60, .inl q1127)), (q32, .inr (11, [.ref q33, .int 6])), (q29, .inr (11, [.ref q30, .int (ns_len (ns_len (ns_len (ns_len (ns_len (ns_len 0 z1) z2) z3) z4) z5) z6)])), (q102, .inr (23, [.int 0, .ref q103, .int 20, .int 60, .ref q1152, .null, .int 0, .int 0, .int 0]))] := hD
              have hK : va_K (dC, dI) vwCl [(cy34, .int), (cy31, .int)] s := hK
              refine W.widen (k := 207) (n := 112665) (Nat.le_of_ble_eq_true rfl) (Nat.le_of_ble_eq_true rfl) ?_
              refine lv_istore (lv' := [(6, .int (ns_len (ns_len (ns_len (ns_len (ns_len (ns_len 0 z1) z2) z3) z4) z5) z6)), (5, .int 0), (4, .int 0), (3, .ref q104), (2, .ref q102), (1, .ref q1), (0, .ref b)]) hx hb dL_law_863 hl (by decide) rfl (fun ls hl => ?_)
              refine lv_aload_n hx hb dL_law_865 rfl (lv_at hl 4 rfl) ?_
              have hPc := hP.sub (ws' := [(q102, .inr (23, [.int 0, .ref q103, .int 20, .int 60, .ref q1152, .null, .int 0, .int 0, .int 0]))]) [6] rfl
              have hDc := hD.sub (ws' := [(q102, .inr (23, [.int 0, .ref q103, .int 20, .int 60, .ref q1152, .null, .int 0, .int 0, .int 0]))]) [6] (by decide) rfl
              have hKc := hK.sub (tys' := []) [] rfl
              have hFc := va_free (wc := [(q102, .inr (23, [.int 0, .ref q103, .int 20, .int 60, .ref q1152, .null, .int 0, .int 0, .int 0]))]) hD hS hA [6] rfl
              refine va_calli (va_runV (As := []) (rest := []) ⟨hx, hb, hml, hown, hts⟩ (kX16_thrown_2 l dC dI g H.size q102 (.ref q103) (.int 20) (.int 60) (.ref q1152) .null (.int 0) (.int 0) (.int 0) ) (cwV 0 hts (ns_gq (List.forall_mem_cons.mpr ⟨wm414, (List.forall_mem_cons.mpr ⟨wm415, (List.forall_mem_cons.mpr ⟨wm416, (List.forall_mem_cons.mpr ⟨wm192, (fun _ h9 => nomatch h9)⟩)⟩)⟩)⟩) wm246) rfl rfl rfl (by decide +kernel) ⟨Nat.le_of_ble_eq_true rfl, Nat.le_of_ble_eq_true rfl⟩) ⟨fun a U gg mk q => by obtain ⟨q0, q1, qP, qK, qD, qF⟩ := q; exact ⟨q0, q1, qP, va_K.moved (u := U) (U := U.calling gg mk a) (Vm.Alike.refl U.vm) qK, qD, ns_same qF⟩, va_recv hK hP (ci := 23) (q0 := 6) rfl rfl, fun U hU hW => ⟨rfl, by rw [hU], by rw [hU]; exact hPc, va_K.moved hW.alike hKc, hDc.weaken (fun _ _ _ _ => trivial), ns_call hF hS hFc hU hW⟩⟩ rfl rfl hl.1 rfl (lv_room (Nat.le_of_ble_eq_true rfl)) dL_law_866 ⟨Nat.le_of_ble_eq_true rfl, Nat.le_of_ble_eq_true rfl⟩) hS (fun q _ h => hFc q h) hFc (fun r9 u t H1 locs ht hvm hw hB hz1 hk1 hS => ?_)
              obtain rfl := hw.symm
              obtain ⟨hP1, hK1, hD1⟩ := hB
              rw [ht] at hP1
              have hK1 := va_K.moved hvm.symm hK1
              obtain ⟨hP, hD⟩ := va_join (wr := [(q104, .inr (17, [.long ((ns_len (ns_len (ns_len (ns_len (ns_len (ns_len 0 z1) z2) z3) z4) z5) z6).toInt64), .null])), (q33, .inl (cy34, 6, .inl (upd (upd (upd (upd (upd (upd (fun _ => 0) 0 z1) 1 z2) 2 z3) 3 z4) 4 z5) 5 z6))), (q1, .inr (16, [.ref q2, .ref q29, .ref q32, .ref q35, .ref q42, .ref q57, .ref q58, .ref q59, .ref q61, .ref q64, .ref q83, .int 20, .int 60, .int 0, .int 0, .int 0])), (q30, .inl (cy31, 60, .inl q1127)), (q32, .inr (11, [.ref q33, .int 6])), (q29, .inr (11, [.ref q30, .int (ns_len (ns_len (ns_len (ns_len (ns_len (ns_len 0 z1) z2) z3) z4) z5) z6)]))]) (w1 := [(q102, .inr (23, [.int 0, .ref q103, .int 20, .int 60, .ref q1152, .null, .int 0, .int 0, .int 0]))]) hP hD [6] [0, 1, 2, 3, 4, 5] rfl rfl (by decide) (by decide) hk1 hFc hP1 hD1
              have hK := (hK.sub (tys' := [(cy34, .int), (cy31, .int)]) [0, 1] rfl).app hK1
              generalize H1 = H at hP hS ⊢
              have hP : va_P (dC, dI) vwCl [(q104, .inr (17, [.long ((ns_len (ns_len (ns_len (ns_len (ns_len (ns_len 0 z1) z2) z3) z4) z5) z6).toInt64), .null])), (q33, .inl (cy34, 6, .inl (upd (upd (upd (upd (upd (upd (fun _ => 0) 0 z1) 1 z2) 2 z3) 3 z4) 4 z5) 5 z6))), (q1, .inr (16, [.ref q2, .ref q29, .ref q32, .ref q35, .ref q42, .ref q57, .ref q58, .ref q59, .ref q61, .ref q64, .ref q83, .int 20, .int 60, .int 0, .int 0, .int 0])), (q30, .inl (cy31, 60, .inl q1127)), (q32, .inr (11, [.ref q33, .int 6])), (q29, .inr (11, [.ref q30, .int (ns_len (ns_len (ns_len (ns_len (ns_len (ns_len 0 z1) z2) z3) z4) z5) z6)])), (q102, .inr (23, [.int 0, .ref q103, .int 20, .int 60, .ref q1152, .null, .int 0, .int 0, .int 0]))] H := hP
              have hD : va_D A [(q104, .inr (17, [.long ((ns_len (ns_len (ns_len (ns_len (ns_len (ns_len 0 z1) z2) z3) z4) z5) z6).toInt64), .null])), (q33, .inl (cy34, 6, .inl (upd (upd (upd (upd (upd (upd (fun _ => 0) 0 z1) 1 z2) 2 z3) 3 z4) 4 z5) 5 z6))), (q1, .inr (16, [.ref q2, .ref q29, .ref q32, .ref q35, .ref q42, .ref q57, .ref q58, .ref q59, .ref q61, .ref q64, .ref q83, .int 20, .int 60, .int 0, .int 0, .int 0])), (q30, .inl (cy31, 60, .inl q1127)), (q32, .inr (11, [.ref q33, .int 6])), (q29, .inr (11, [.ref q30, .int (ns_len (ns_len (ns_len (ns_len (ns_len (ns_len 0 z1) z2) z3) z4) z5) z6)])), (q102, .inr (23, [.int 0, .ref q103, .int 20, .int 60, .ref q1152, .null, .int 0, .int 0, .int 0]))] := hD
              have hK : va_K (dC, dI) vwCl [(cy34, .int), (cy31, .int)] s := hK
              refine W.widen (k := 207) (n := 112665) (Nat.le_of_ble_eq_true rfl) (Nat.le_of_ble_eq_true rfl) ?_
              refine lv_iload hx hb dL_law_869 (lv_at hl 1 rfl) ?_
              refine lv_icmp_eq (tgt := 876) hx hb dL_law_871 (by decide) (fun c1153 => ?_) (fun c1153 => absurd (by decide) c1153)
              refine lv_iload hx hb dL_law_876 (lv_at hl 1 rfl) ?_
              refine lv_if_ne (tgt := 894) hx hb dL_law_878 (by decide) (fun c1154 => absurd (by decide) c1154) (fun c1154 => ?_)
              refine lv_aload_n hx hb dL_law_881 rfl (lv_at hl 3 rfl) ?_
              refine va_getN (D := (dC, dI)) (ci := 17) (v := .long ((ns_len (ns_len (ns_len (ns_len (ns_len (ns_len 0 z1) z2) z3) z4) z5) z6).toInt64)) (C := RX10) (T := TX10) (N := 2) hx hb hta naX10 hown hK hP 0 rfl rfl 0 (by decide) (va_Nw.use rfl (ns_f7 hF)) (fun _ h9 => h9) rfl dL_law_882 ?_
              refine lv_iload hx hb dL_law_885 (lv_at hl 0 rfl) ?_
              refine lv_i2l (v := (ns_len (ns_len (ns_len (ns_len (ns_len (ns_len 0 z1) z2) z3) z4) z5) z6).toInt64) hx hb dL_law_887 rfl ?_
              refine W.lcmp hx hb dL_law_888 ?_
              refine lv_topi (fun y1155 ey1155 => ?_)
              obtain rfl : y1155 = 0 := ey1155.trans (ns_cmp _)
              refine lv_if_eq (tgt := 894) hx hb dL_law_889 (by decide) (fun c1156 => ?_) (fun c1156 => absurd (by decide) c1156)
              refine lv_goto (tgt := 2216) hx hb dL_law_894 (by decide) ?_
              exact law_tail C0 hA hAx hS (lv_sub hl [2, 6] rfl) (Nat.le_of_ble_eq_true rfl) (Nat.le_of_ble_eq_true rfl)
            · have _h9 := 0
              refine lv_aload_n hx hb dL_law_816 rfl (lv_at hl 1 rfl) ?_
              have hPc := hP.sub (ws' := [(q1, .inr (16, [.ref q2, .ref q29, .ref q32, .ref q35, .ref q42, .ref q57, .ref q58, .ref q59, .ref q61, .ref q64, .ref q83, .int 20, .int 60, .int 0, .int 0, .int 0])), (q32, .inr (11, [.ref q33, .int 0])), (q33, .inl (cy34, 6, .inl (fun _ => 0)))]) [0, 3, 4] rfl
              have hDc := hD.sub (ws' := [(q1, .inr (16, [.ref q2, .ref q29, .ref q32, .ref q35, .ref q42, .ref q57, .ref q58, .ref q59, .ref q61, .ref q64, .ref q83, .int 20, .int 60, .int 0, .int 0, .int 0])), (q32, .inr (11, [.ref q33, .int 0])), (q33, .inl (cy34, 6, .inl (fun _ => 0)))]) [0, 3, 4] (by decide) rfl
              have hKc := hK.sub (tys' := [(cy34, .int)]) [1] rfl
              have hFc := va_free (wc := [(q1, .inr (16, [.ref q2, .ref q29, .ref q32, .ref q35, .ref q42, .ref q57, .ref q58, .ref q59, .ref q61, .ref q64, .ref q83, .int 20, .int 60, .int 0, .int 0, .int 0])), (q32, .inr (11, [.ref q33, .int 0])), (q33, .inl (cy34, 6, .inl (fun _ => 0)))]) hD hS hA [0, 3, 4] rfl
              refine va_calli (vx_runSW (As := [.ref q1, .int z1, .int z2, .int z3, .int z4, .int z5, .int z6, .ref q104]) (rest := []) ⟨hx, hb, hml, hown, hts⟩ (kL_say_8 l dC dI g H.size q1 z1 z2 z3 z4 z5 z6 q104 q32 q33 (.ref q2) (.ref q29) (.ref q35) (.ref q42) (.ref q57) (.ref q58) (.ref q59) (.ref q61) (.ref q64) (.ref q83) (.int 20) (.int 60) (.int 0) (.int 0) (.int 0) (.int 0) cy34 ⟨by omega, by omega⟩ ⟨by omega, by omega⟩ ⟨by omega, by omega⟩ ⟨by omega, by omega⟩ ⟨by omega, by omega⟩ ⟨by omega, by omega⟩ hlt) (vx_cwSW 8 hts (ns_gq (List.forall_mem_cons.mpr ⟨wm657, (List.forall_mem_cons.mpr ⟨wm658, (List.forall_mem_cons.mpr ⟨wm408, (fun _ h9 => nomatch h9)⟩)⟩)⟩) wm563) rfl rfl rfl (by decide +kernel) ⟨Nat.le_of_ble_eq_true rfl, Nat.le_of_ble_eq_true rfl⟩) ⟨fun a U gg mk q => by obtain ⟨q0, q1, qP, qK, qD, qF⟩ := q; exact ⟨q0, q1, qP, va_K.moved (u := U) (U := U.calling gg mk a) (Vm.Alike.refl U.vm) qK, qD, ns_same qF⟩, fun U hU hW => ⟨rfl, by rw [hU], by rw [hU]; exact hPc, va_K.moved hW.alike hKc, hDc.weaken (fun _ _ _ _ => trivial), ns_call hF hS hFc hU hW⟩⟩ rfl rfl hl.1 rfl (lv_room (Nat.le_of_ble_eq_true rfl)) dL_law_817 ⟨Nat.le_of_ble_eq_true rfl, Nat.le_of_ble_eq_true rfl⟩) hS (fun q _ h => hFc q h) hFc (fun r9 u t H1 locs ht hvm hw hB hz1 hk1 hS => ?_)
              obtain rfl := hw.symm
              obtain ⟨hP1, hK1, hD1⟩ := hB
              rw [ht] at hP1
              have hK1 := va_K.moved hvm.symm hK1
              obtain ⟨hP, hD⟩ := va_join (wr := [(q29, .inr (11, [.ref q30, .int 0])), (q30, .inl (cy31, 60, .inl (fun _ => 0))), (q102, .inr (23, [.int 0, .ref q103, .int 20, .int 60, .ref (g 34), .null, .int 0, .int 0, .int 0])), (q104, .inr (17, [.long 0, .null]))]) (w1 := []) hP hD [0, 3, 4] [1, 2, 5, 6] rfl rfl (by decide) (by decide) hk1 hFc hP1 hD1
              have hK := (hK.sub (tys' := [(cy31, .int), (cy34, .int)]) [0, 1] rfl).app hK1
              generalize H1 = H at hP hS ⊢
              have hP : va_P (dC, dI) vwCl [(q29, .inr (11, [.ref q30, .int 0])), (q30, .inl (cy31, 60, .inl (fun _ => 0))), (q102, .inr (23, [.int 0, .ref q103, .int 20, .int 60, .ref (g 34), .null, .int 0, .int 0, .int 0])), (q104, .inr (17, [.long 0, .null]))] H := hP
              have hD : va_D A [(q29, .inr (11, [.ref q30, .int 0])), (q30, .inl (cy31, 60, .inl (fun _ => 0))), (q102, .inr (23, [.int 0, .ref q103, .int 20, .int 60, .ref (g 34), .null, .int 0, .int 0, .int 0])), (q104, .inr (17, [.long 0, .null]))] := hD
              have hK : va_K (dC, dI) vwCl [(cy31, .int), (cy34, .int)] s := hK
              refine W.widen (k := 171) (n := 112425) (Nat.le_of_ble_eq_true rfl) (Nat.le_of_ble_eq_true rfl) ?_
              refine lv_istore (lv' := [(5, .int 1), (4, .int 0), (3, .ref q104), (2, .ref q102), (1, .ref q1), (0, .ref b)]) hx hb dL_law_820 hl (by decide) rfl (fun ls hl => ?_)
              refine lv_aload_n hx hb dL_law_822 rfl (lv_at hl 3 rfl) ?_
              refine lv_aload_n hx hb dL_law_823 rfl (lv_at hl 5 rfl) ?_
              refine lv_iload hx hb dL_law_824 (lv_at hl 1 rfl) ?_
              refine lv_iconst (v := 1) hx hb dL_law_826 (by decide) ?_
              refine lv_iadd hx hb dL_law_827 ?_
              refine lv_topi (fun y1157 ey1157 => ?_)
              obtain rfl : y1157 = 1 := ey1157.trans (by decide)
              refine va_sld hx hb hX hbl hbA hS (vp_in_nI (n := 1) (by decide) (by decide)) dL_law_828 ?_
              refine lv_topi (fun z1158 ez1158 => ?_)
              obtain rfl : z1 = z1158 := (ez1158.trans ez1.symm).symm
              refine lv_aload_n hx hb dL_law_829 rfl (lv_at hl 5 rfl) ?_
              refine lv_iload hx hb dL_law_830 (lv_at hl 1 rfl) ?_
              refine lv_iconst (v := 2) hx hb dL_law_832 (by decide) ?_
              refine lv_iadd hx hb dL_law_833 ?_
              refine lv_topi (fun y1159 ey1159 => ?_)
              obtain rfl : y1159 = 2 := ey1159.trans (by decide)
              refine va_sld hx hb hX hbl hbA hS (vp_in_nI (n := 2) (by decide) (by decide)) dL_law_834 ?_
              refine lv_topi (fun z1160 ez1160 => ?_)
              obtain rfl : z2 = z1160 := (ez1160.trans ez2.symm).symm
              refine lv_aload_n hx hb dL_law_835 rfl (lv_at hl 5 rfl) ?_
              refine lv_iload hx hb dL_law_836 (lv_at hl 1 rfl) ?_
              refine lv_iconst (v := 3) hx hb dL_law_838 (by decide) ?_
              refine lv_iadd hx hb dL_law_839 ?_
              refine lv_topi (fun y1161 ey1161 => ?_)
              obtain rfl : y1161 = 3 := ey1161.trans (by decide)
              refine va_sld hx hb hX hbl hbA hS (vp_in_nI (n := 3) (by decide) (by decide)) dL_law_840 ?_
              refine lv_topi (fun z1162 ez1162 => ?_)
              obtain rfl : z3 = z1162 := (ez1162.trans ez3.symm).symm
              refine lv_aload_n hx hb dL_law_841 rfl (lv_at hl 5 rfl) ?_
              refine lv_iload hx hb dL_law_842 (lv_at hl 1 rfl) ?_
              refine lv_iconst (v := 4) hx hb dL_law_844 (by decide) ?_
              refine lv_iadd hx hb dL_law_845 ?_
              refine lv_topi (fun y1163 ey1163 => ?_)
              obtain rfl : y1163 = 4 := ey1163.trans (by decide)
              refine va_sld hx hb hX hbl hbA hS (vp_in_nI (n := 4) (by decide) (by decide)) dL_law_846 ?_
              refine lv_topi (fun z1164 ez1164 => ?_)
              obtain rfl : z4 = z1164 := (ez1164.trans ez4.symm).symm
              refine lv_aload_n hx hb dL_law_847 rfl (lv_at hl 5 rfl) ?_
              refine lv_iload hx hb dL_law_848 (lv_at hl 1 rfl) ?_
              refine lv_iconst (v := 5) hx hb dL_law_850 (by decide) ?_
              refine lv_iadd hx hb dL_law_851 ?_
              refine lv_topi (fun y1165 ey1165 => ?_)
              obtain rfl : y1165 = 5 := ey1165.trans (by decide)
              refine va_sld hx hb hX hbl hbA hS (vp_in_nI (n := 5) (by decide) (by decide)) dL_law_852 ?_
              refine lv_topi (fun z1166 ez1166 => ?_)
              obtain rfl : z5 = z1166 := (ez1166.trans ez5.symm).symm
              refine lv_aload_n hx hb dL_law_853 rfl (lv_at hl 5 rfl) ?_
              refine lv_iload hx hb dL_law_854 (lv_at hl 1 rfl) ?_
              refine lv_bipush (v := 6) hx hb dL_law_856 (by decide) ?_
              refine lv_iadd hx hb dL_law_858 ?_
              refine lv_topi (fun y1167 ey1167 => ?_)
              obtain rfl : y1167 = 6 := ey1167.trans (by decide)
              refine va_sld hx hb hX hbl hbA hS (vp_in_nI (n := 6) (by decide) (by decide)) dL_law_859 ?_
              refine lv_topi (fun z1168 ez1168 => ?_)
              obtain rfl : z6 = z1168 := (ez1168.trans ez6.symm).symm
              have hPc := hP.sub (ws' := [(q102, .inr (23, [.int 0, .ref q103, .int 20, .int 60, .ref (g 34), .null, .int 0, .int 0, .int 0]))]) [2] rfl
              have hDc := hD.sub (ws' := [(q102, .inr (23, [.int 0, .ref q103, .int 20, .int 60, .ref (g 34), .null, .int 0, .int 0, .int 0]))]) [2] (by decide) rfl
              have hKc := hK.sub (tys' := []) [] rfl
              have hFc := va_free (wc := [(q102, .inr (23, [.int 0, .ref q103, .int 20, .int 60, .ref (g 34), .null, .int 0, .int 0, .int 0]))]) hD hS hA [2] rfl
              refine va_calli (va_runV (As := [.int z1, .int z2, .int z3, .int z4, .int z5, .int z6]) (rest := []) ⟨hx, hb, hml, hown, hts⟩ (kX16_say_8 l dC dI g H.size q102 z1 z2 z3 z4 z5 z6 (.int 0) (.ref q103) (.int 20) (.int 60) (.ref (g 34)) .null (.int 0) (.int 0) (.int 0) ⟨by omega, by omega⟩ ⟨by omega, by omega⟩ ⟨by omega, by omega⟩ ⟨by omega, by omega⟩ ⟨by omega, by omega⟩ ⟨by omega, by omega⟩) (cwV 6 hts (ns_gq (List.forall_mem_cons.mpr ⟨wm659, (List.forall_mem_cons.mpr ⟨wm660, (List.forall_mem_cons.mpr ⟨wm661, (List.forall_mem_cons.mpr ⟨wm192, (fun _ h9 => nomatch h9)⟩)⟩)⟩)⟩) wm564) rfl rfl rfl (by decide +kernel) ⟨Nat.le_of_ble_eq_true rfl, Nat.le_of_ble_eq_true rfl⟩) ⟨fun a U gg mk q => by obtain ⟨q0, q1, qP, qK, qD, qF⟩ := q; exact ⟨q0, q1, qP, va_K.moved (u := U) (U := U.calling gg mk a) (Vm.Alike.refl U.vm) qK, qD, ns_same qF⟩, va_recv hK hP (ci := 23) (q0 := 2) rfl rfl, fun U hU hW => ⟨rfl, by rw [hU], by rw [hU]; exact hPc, va_K.moved hW.alike hKc, hDc.weaken (fun _ _ _ _ => trivial), ns_call hF hS hFc hU hW⟩⟩ rfl rfl hl.1 rfl (lv_room (Nat.le_of_ble_eq_true rfl)) dL_law_860 ⟨Nat.le_of_ble_eq_true rfl, Nat.le_of_ble_eq_true rfl⟩) hS (fun q _ h => hFc q h) hFc (fun r9 u t H1 locs ht hvm hw hB hz1 hk1 hS => ?_)
              obtain rfl := hw.symm
              obtain ⟨hP1, hK1, hD1⟩ := hB
              rw [ht] at hP1
              have hK1 := va_K.moved hvm.symm hK1
              obtain ⟨hP, hD⟩ := va_join (wr := [(q29, .inr (11, [.ref q30, .int 0])), (q30, .inl (cy31, 60, .inl (fun _ => 0))), (q104, .inr (17, [.long 0, .null]))]) (w1 := [(q102, .inr (23, [.int 1, .ref q103, .int 20, .int 60, .ref (g 34), .null, .int 0, .int 0, .int 0]))]) hP hD [2] [0, 1, 3] rfl rfl (by decide) (by decide) hk1 hFc hP1 hD1
              have hK := (hK.sub (tys' := [(cy31, .int), (cy34, .int)]) [0, 1] rfl).app hK1
              generalize H1 = H at hP hS ⊢
              have hP : va_P (dC, dI) vwCl [(q29, .inr (11, [.ref q30, .int 0])), (q30, .inl (cy31, 60, .inl (fun _ => 0))), (q104, .inr (17, [.long 0, .null])), (q102, .inr (23, [.int 1, .ref q103, .int 20, .int 60, .ref (g 34), .null, .int 0, .int 0, .int 0]))] H := hP
              have hD : va_D A [(q29, .inr (11, [.ref q30, .int 0])), (q30, .inl (cy31, 60, .inl (fun _ => 0))), (q104, .inr (17, [.long 0, .null])), (q102, .inr (23, [.int 1, .ref q103, .int 20, .int 60, .ref (g 34), .null, .int 0, .int 0, .int 0]))] := hD
              have hK : va_K (dC, dI) vwCl [(cy31, .int), (cy34, .int)] s := hK
              refine W.widen (k := 172) (n := 112431) (Nat.le_of_ble_eq_true rfl) (Nat.le_of_ble_eq_true rfl) ?_
              refine lv_istore (lv' := [(6, .int 0), (5, .int 1), (4, .int 0), (3, .ref q104), (2, .ref q102), (1, .ref q1), (0, .ref b)]) hx hb dL_law_863 hl (by decide) rfl (fun ls hl => ?_)
              refine lv_aload_n hx hb dL_law_865 rfl (lv_at hl 4 rfl) ?_
              have hPc := hP.sub (ws' := [(q102, .inr (23, [.int 1, .ref q103, .int 20, .int 60, .ref (g 34), .null, .int 0, .int 0, .int 0]))]) [3] rfl
              have hDc := hD.sub (ws' := [(q102, .inr (23, [.int 1, .ref q103, .int 20, .int 60, .ref (g 34), .null, .int 0, .int 0, .int 0]))]) [3] (by decide) rfl
              have hKc := hK.sub (tys' := []) [] rfl
              have hFc := va_free (wc := [(q102, .inr (23, [.int 1, .ref q103, .int 20, .int 60, .ref (g 34), .null, .int 0, .int 0, .int 0]))]) hD hS hA [3] rfl
              refine va_calli (va_runV (As := []) (rest := []) ⟨hx, hb, hml, hown, hts⟩ (kX16_thrown l dC dI g H.size q102 (.ref q103) (.int 20) (.int 60) (.ref (g 34)) .null (.int 0) (.int 0) (.int 0) ) (cwV 0 hts (ns_gq (List.forall_mem_cons.mpr ⟨wm414, (List.forall_mem_cons.mpr ⟨wm415, (List.forall_mem_cons.mpr ⟨wm416, (List.forall_mem_cons.mpr ⟨wm192, (fun _ h9 => nomatch h9)⟩)⟩)⟩)⟩) wm246) rfl rfl rfl (by decide +kernel) ⟨Nat.le_of_ble_eq_true rfl, Nat.le_of_ble_eq_true rfl⟩) ⟨fun a U gg mk q => by obtain ⟨q0, q1, qP, qK, qD, qF⟩ := q; exact ⟨q0, q1, qP, va_K.moved (u := U) (U := U.calling gg mk a) (Vm.Alike.refl U.vm) qK, qD, ns_same qF⟩, va_recv hK hP (ci := 23) (q0 := 3) rfl rfl, fun U hU hW => ⟨rfl, by rw [hU], by rw [hU]; exact hPc, va_K.moved hW.alike hKc, hDc.weaken (fun _ _ _ _ => trivial), ns_call hF hS hFc hU hW⟩⟩ rfl rfl hl.1 rfl (lv_room (Nat.le_of_ble_eq_true rfl)) dL_law_866 ⟨Nat.le_of_ble_eq_true rfl, Nat.le_of_ble_eq_true rfl⟩) hS (fun q _ h => hFc q h) hFc (fun r9 u t H1 locs ht hvm hw hB hz1 hk1 hS => ?_)
              obtain rfl := hw.symm
              obtain ⟨hP1, hK1, hD1⟩ := hB
              rw [ht] at hP1
              have hK1 := va_K.moved hvm.symm hK1
              obtain ⟨hP, hD⟩ := va_join (wr := [(q29, .inr (11, [.ref q30, .int 0])), (q30, .inl (cy31, 60, .inl (fun _ => 0))), (q104, .inr (17, [.long 0, .null]))]) (w1 := [(q102, .inr (23, [.int 1, .ref q103, .int 20, .int 60, .ref (g 34), .null, .int 0, .int 0, .int 0]))]) hP hD [3] [0, 1, 2] rfl rfl (by decide) (by decide) hk1 hFc hP1 hD1
              have hK := (hK.sub (tys' := [(cy31, .int), (cy34, .int)]) [0, 1] rfl).app hK1
              generalize H1 = H at hP hS ⊢
              have hP : va_P (dC, dI) vwCl [(q29, .inr (11, [.ref q30, .int 0])), (q30, .inl (cy31, 60, .inl (fun _ => 0))), (q104, .inr (17, [.long 0, .null])), (q102, .inr (23, [.int 1, .ref q103, .int 20, .int 60, .ref (g 34), .null, .int 0, .int 0, .int 0]))] H := hP
              have hD : va_D A [(q29, .inr (11, [.ref q30, .int 0])), (q30, .inl (cy31, 60, .inl (fun _ => 0))), (q104, .inr (17, [.long 0, .null])), (q102, .inr (23, [.int 1, .ref q103, .int 20, .int 60, .ref (g 34), .null, .int 0, .int 0, .int 0]))] := hD
              have hK : va_K (dC, dI) vwCl [(cy31, .int), (cy34, .int)] s := hK
              refine W.widen (k := 172) (n := 112431) (Nat.le_of_ble_eq_true rfl) (Nat.le_of_ble_eq_true rfl) ?_
              refine lv_iload hx hb dL_law_869 (lv_at hl 1 rfl) ?_
              refine lv_icmp_eq (tgt := 876) hx hb dL_law_871 (by decide) (fun c1169 => ?_) (fun c1169 => absurd (by decide) c1169)
              refine lv_iload hx hb dL_law_876 (lv_at hl 1 rfl) ?_
              refine lv_if_ne (tgt := 894) hx hb dL_law_878 (by decide) (fun c1170 => ?_) (fun c1170 => absurd c1170 (by decide))
              refine lv_goto (tgt := 2216) hx hb dL_law_894 (by decide) ?_
              exact law_tail C0 hA hAx hS (lv_sub hl [2, 6] rfl) (Nat.le_of_ble_eq_true rfl) (Nat.le_of_ble_eq_true rfl)
          · have _h9 := 0
            refine lv_aload_n hx hb dL_law_809 rfl (lv_at hl 4 rfl) ?_
            refine lv_iload hx hb dL_law_810 (lv_at hl 0 rfl) ?_
            refine lv_bipush (v := 6) hx hb dL_law_812 (by decide) ?_
            refine lv_iadd hx hb dL_law_814 ?_
            refine lv_topi (fun y1171 ey1171 => ?_)
            obtain rfl : y1171 = 6 := ey1171.trans (by decide)
            refine va_sld hx hb hX hbl hbA hS (vp_in_nI (n := 6) (by decide) (by decide)) dL_law_815 ?_
            refine lv_topi (fun z6 ez6 => ?_)
            have ez6 : z6 = xs 6 := ez6
            refine lv_aload_n hx hb dL_law_816 rfl (lv_at hl 1 rfl) ?_
            have hPc := hP.sub (ws' := [(q1, .inr (16, [.ref q2, .ref q29, .ref q32, .ref q35, .ref q42, .ref q57, .ref q58, .ref q59, .ref q61, .ref q64, .ref q83, .int 20, .int 60, .int 0, .int 0, .int 0])), (q32, .inr (11, [.ref q33, .int 0])), (q33, .inl (cy34, 6, .inl (fun _ => 0)))]) [0, 3, 4] rfl
            have hDc := hD.sub (ws' := [(q1, .inr (16, [.ref q2, .ref q29, .ref q32, .ref q35, .ref q42, .ref q57, .ref q58, .ref q59, .ref q61, .ref q64, .ref q83, .int 20, .int 60, .int 0, .int 0, .int 0])), (q32, .inr (11, [.ref q33, .int 0])), (q33, .inl (cy34, 6, .inl (fun _ => 0)))]) [0, 3, 4] (by decide) rfl
            have hKc := hK.sub (tys' := [(cy34, .int)]) [1] rfl
            have hFc := va_free (wc := [(q1, .inr (16, [.ref q2, .ref q29, .ref q32, .ref q35, .ref q42, .ref q57, .ref q58, .ref q59, .ref q61, .ref q64, .ref q83, .int 20, .int 60, .int 0, .int 0, .int 0])), (q32, .inr (11, [.ref q33, .int 0])), (q33, .inl (cy34, 6, .inl (fun _ => 0)))]) hD hS hA [0, 3, 4] rfl
            refine va_calli (vx_runSW (As := [.ref q1, .int z1, .int z2, .int z3, .int z4, .int z5, .int z6, .ref q104]) (rest := []) ⟨hx, hb, hml, hown, hts⟩ (kL_say_9 l dC dI g H.size q1 z1 z2 z3 z4 z5 z6 q104 q32 q33 (.ref q2) (.ref q29) (.ref q35) (.ref q42) (.ref q57) (.ref q58) (.ref q59) (.ref q61) (.ref q64) (.ref q83) (.int 20) (.int 60) (.int 0) (.int 0) (.int 0) (.int 0) cy34 ⟨by omega, by omega⟩ ⟨by omega, by omega⟩ ⟨by omega, by omega⟩ ⟨by omega, by omega⟩ ⟨by omega, by omega⟩ hlt) (vx_cwSW 8 hts (ns_gq (List.forall_mem_cons.mpr ⟨wm657, (List.forall_mem_cons.mpr ⟨wm658, (List.forall_mem_cons.mpr ⟨wm408, (fun _ h9 => nomatch h9)⟩)⟩)⟩) wm563) rfl rfl rfl (by decide +kernel) ⟨Nat.le_of_ble_eq_true rfl, Nat.le_of_ble_eq_true rfl⟩) ⟨fun a U gg mk q => by obtain ⟨q0, q1, qP, qK, qD, qF⟩ := q; exact ⟨q0, q1, qP, va_K.moved (u := U) (U := U.calling gg mk a) (Vm.Alike.refl U.vm) qK, qD, ns_same qF⟩, fun U hU hW => ⟨rfl, by rw [hU], by rw [hU]; exact hPc, va_K.moved hW.alike hKc, hDc.weaken (fun _ _ _ _ => trivial), ns_call hF hS hFc hU hW⟩⟩ rfl rfl hl.1 rfl (lv_room (Nat.le_of_ble_eq_true rfl)) dL_law_817 ⟨Nat.le_of_ble_eq_true rfl, Nat.le_of_ble_eq_true rfl⟩) hS (fun q _ h => hFc q h) hFc (fun r9 u t H1 locs ht hvm hw hB hz1 hk1 hS => ?_)
            obtain rfl := hw.symm
            obtain ⟨hP1, hK1, hD1⟩ := hB
            rw [ht] at hP1
            have hK1 := va_K.moved hvm.symm hK1
            obtain ⟨hP, hD⟩ := va_join (wr := [(q29, .inr (11, [.ref q30, .int 0])), (q30, .inl (cy31, 60, .inl (fun _ => 0))), (q102, .inr (23, [.int 0, .ref q103, .int 20, .int 60, .ref (g 34), .null, .int 0, .int 0, .int 0])), (q104, .inr (17, [.long 0, .null]))]) (w1 := []) hP hD [0, 3, 4] [1, 2, 5, 6] rfl rfl (by decide) (by decide) hk1 hFc hP1 hD1
            have hK := (hK.sub (tys' := [(cy31, .int), (cy34, .int)]) [0, 1] rfl).app hK1
            generalize H1 = H at hP hS ⊢
            have hP : va_P (dC, dI) vwCl [(q29, .inr (11, [.ref q30, .int 0])), (q30, .inl (cy31, 60, .inl (fun _ => 0))), (q102, .inr (23, [.int 0, .ref q103, .int 20, .int 60, .ref (g 34), .null, .int 0, .int 0, .int 0])), (q104, .inr (17, [.long 0, .null]))] H := hP
            have hD : va_D A [(q29, .inr (11, [.ref q30, .int 0])), (q30, .inl (cy31, 60, .inl (fun _ => 0))), (q102, .inr (23, [.int 0, .ref q103, .int 20, .int 60, .ref (g 34), .null, .int 0, .int 0, .int 0])), (q104, .inr (17, [.long 0, .null]))] := hD
            have hK : va_K (dC, dI) vwCl [(cy31, .int), (cy34, .int)] s := hK
            refine W.widen (k := 171) (n := 112425) (Nat.le_of_ble_eq_true rfl) (Nat.le_of_ble_eq_true rfl) ?_
            refine lv_istore (lv' := [(5, .int 1), (4, .int 0), (3, .ref q104), (2, .ref q102), (1, .ref q1), (0, .ref b)]) hx hb dL_law_820 hl (by decide) rfl (fun ls hl => ?_)
            refine lv_aload_n hx hb dL_law_822 rfl (lv_at hl 3 rfl) ?_
            refine lv_aload_n hx hb dL_law_823 rfl (lv_at hl 5 rfl) ?_
            refine lv_iload hx hb dL_law_824 (lv_at hl 1 rfl) ?_
            refine lv_iconst (v := 1) hx hb dL_law_826 (by decide) ?_
            refine lv_iadd hx hb dL_law_827 ?_
            refine lv_topi (fun y1173 ey1173 => ?_)
            obtain rfl : y1173 = 1 := ey1173.trans (by decide)
            refine va_sld hx hb hX hbl hbA hS (vp_in_nI (n := 1) (by decide) (by decide)) dL_law_828 ?_
            refine lv_topi (fun z1174 ez1174 => ?_)
            obtain rfl : z1 = z1174 := (ez1174.trans ez1.symm).symm
            refine lv_aload_n hx hb dL_law_829 rfl (lv_at hl 5 rfl) ?_
            refine lv_iload hx hb dL_law_830 (lv_at hl 1 rfl) ?_
            refine lv_iconst (v := 2) hx hb dL_law_832 (by decide) ?_
            refine lv_iadd hx hb dL_law_833 ?_
            refine lv_topi (fun y1175 ey1175 => ?_)
            obtain rfl : y1175 = 2 := ey1175.trans (by decide)
            refine va_sld hx hb hX hbl hbA hS (vp_in_nI (n := 2) (by decide) (by decide)) dL_law_834 ?_
            refine lv_topi (fun z1176 ez1176 => ?_)
            obtain rfl : z2 = z1176 := (ez1176.trans ez2.symm).symm
            refine lv_aload_n hx hb dL_law_835 rfl (lv_at hl 5 rfl) ?_
            refine lv_iload hx hb dL_law_836 (lv_at hl 1 rfl) ?_
            refine lv_iconst (v := 3) hx hb dL_law_838 (by decide) ?_
            refine lv_iadd hx hb dL_law_839 ?_
            refine lv_topi (fun y1177 ey1177 => ?_)
            obtain rfl : y1177 = 3 := ey1177.trans (by decide)
            refine va_sld hx hb hX hbl hbA hS (vp_in_nI (n := 3) (by decide) (by decide)) dL_law_840 ?_
            refine lv_topi (fun z1178 ez1178 => ?_)
            obtain rfl : z3 = z1178 := (ez1178.trans ez3.symm).symm
            refine lv_aload_n hx hb dL_law_841 rfl (lv_at hl 5 rfl) ?_
            refine lv_iload hx hb dL_law_842 (lv_at hl 1 rfl) ?_
            refine lv_iconst (v := 4) hx hb dL_law_844 (by decide) ?_
            refine lv_iadd hx hb dL_law_845 ?_
            refine lv_topi (fun y1179 ey1179 => ?_)
            obtain rfl : y1179 = 4 := ey1179.trans (by decide)
            refine va_sld hx hb hX hbl hbA hS (vp_in_nI (n := 4) (by decide) (by decide)) dL_law_846 ?_
            refine lv_topi (fun z1180 ez1180 => ?_)
            obtain rfl : z4 = z1180 := (ez1180.trans ez4.symm).symm
            refine lv_aload_n hx hb dL_law_847 rfl (lv_at hl 5 rfl) ?_
            refine lv_iload hx hb dL_law_848 (lv_at hl 1 rfl) ?_
            refine lv_iconst (v := 5) hx hb dL_law_850 (by decide) ?_
            refine lv_iadd hx hb dL_law_851 ?_
            refine lv_topi (fun y1181 ey1181 => ?_)
            obtain rfl : y1181 = 5 := ey1181.trans (by decide)
            refine va_sld hx hb hX hbl hbA hS (vp_in_nI (n := 5) (by decide) (by decide)) dL_law_852 ?_
            refine lv_topi (fun z1182 ez1182 => ?_)
            obtain rfl : z5 = z1182 := (ez1182.trans ez5.symm).symm
            refine lv_aload_n hx hb dL_law_853 rfl (lv_at hl 5 rfl) ?_
            refine lv_iload hx hb dL_law_854 (lv_at hl 1 rfl) ?_
            refine lv_bipush (v := 6) hx hb dL_law_856 (by decide) ?_
            refine lv_iadd hx hb dL_law_858 ?_
            refine lv_topi (fun y1183 ey1183 => ?_)
            obtain rfl : y1183 = 6 := ey1183.trans (by decide)
            refine va_sld hx hb hX hbl hbA hS (vp_in_nI (n := 6) (by decide) (by decide)) dL_law_859 ?_
            refine lv_topi (fun z1184 ez1184 => ?_)
            obtain rfl : z6 = z1184 := (ez1184.trans ez6.symm).symm
            have hPc := hP.sub (ws' := [(q102, .inr (23, [.int 0, .ref q103, .int 20, .int 60, .ref (g 34), .null, .int 0, .int 0, .int 0]))]) [2] rfl
            have hDc := hD.sub (ws' := [(q102, .inr (23, [.int 0, .ref q103, .int 20, .int 60, .ref (g 34), .null, .int 0, .int 0, .int 0]))]) [2] (by decide) rfl
            have hKc := hK.sub (tys' := []) [] rfl
            have hFc := va_free (wc := [(q102, .inr (23, [.int 0, .ref q103, .int 20, .int 60, .ref (g 34), .null, .int 0, .int 0, .int 0]))]) hD hS hA [2] rfl
            refine va_calli (va_runV (As := [.int z1, .int z2, .int z3, .int z4, .int z5, .int z6]) (rest := []) ⟨hx, hb, hml, hown, hts⟩ (kX16_say_9 l dC dI g H.size q102 z1 z2 z3 z4 z5 z6 (.int 0) (.ref q103) (.int 20) (.int 60) (.ref (g 34)) .null (.int 0) (.int 0) (.int 0) ⟨by omega, by omega⟩ ⟨by omega, by omega⟩ ⟨by omega, by omega⟩ ⟨by omega, by omega⟩ ⟨by omega, by omega⟩) (cwV 6 hts (ns_gq (List.forall_mem_cons.mpr ⟨wm659, (List.forall_mem_cons.mpr ⟨wm660, (List.forall_mem_cons.mpr ⟨wm661, (List.forall_mem_cons.mpr ⟨wm192, (fun _ h9 => nomatch h9)⟩)⟩)⟩)⟩) wm564) rfl rfl rfl (by decide +kernel) ⟨Nat.le_of_ble_eq_true rfl, Nat.le_of_ble_eq_true rfl⟩) ⟨fun a U gg mk q => by obtain ⟨q0, q1, qP, qK, qD, qF⟩ := q; exact ⟨q0, q1, qP, va_K.moved (u := U) (U := U.calling gg mk a) (Vm.Alike.refl U.vm) qK, qD, ns_same qF⟩, va_recv hK hP (ci := 23) (q0 := 2) rfl rfl, fun U hU hW => ⟨rfl, by rw [hU], by rw [hU]; exact hPc, va_K.moved hW.alike hKc, hDc.weaken (fun _ _ _ _ => trivial), ns_call hF hS hFc hU hW⟩⟩ rfl rfl hl.1 rfl (lv_room (Nat.le_of_ble_eq_true rfl)) dL_law_860 ⟨Nat.le_of_ble_eq_true rfl, Nat.le_of_ble_eq_true rfl⟩) hS (fun q _ h => hFc q h) hFc (fun r9 u t H1 locs ht hvm hw hB hz1 hk1 hS => ?_)
            obtain rfl := hw.symm
            obtain ⟨hP1, hK1, hD1⟩ := hB
            rw [ht] at hP1
            have hK1 := va_K.moved hvm.symm hK1
            obtain ⟨hP, hD⟩ := va_join (wr := [(q29, .inr (11, [.ref q30, .int 0])), (q30, .inl (cy31, 60, .inl (fun _ => 0))), (q104, .inr (17, [.long 0, .null]))]) (w1 := [(q102, .inr (23, [.int 1, .ref q103, .int 20, .int 60, .ref (g 34), .null, .int 0, .int 0, .int 0]))]) hP hD [2] [0, 1, 3] rfl rfl (by decide) (by decide) hk1 hFc hP1 hD1
            have hK := (hK.sub (tys' := [(cy31, .int), (cy34, .int)]) [0, 1] rfl).app hK1
            generalize H1 = H at hP hS ⊢
            have hP : va_P (dC, dI) vwCl [(q29, .inr (11, [.ref q30, .int 0])), (q30, .inl (cy31, 60, .inl (fun _ => 0))), (q104, .inr (17, [.long 0, .null])), (q102, .inr (23, [.int 1, .ref q103, .int 20, .int 60, .ref (g 34), .null, .int 0, .int 0, .int 0]))] H := hP
            have hD : va_D A [(q29, .inr (11, [.ref q30, .int 0])), (q30, .inl (cy31, 60, .inl (fun _ => 0))), (q104, .inr (17, [.long 0, .null])), (q102, .inr (23, [.int 1, .ref q103, .int 20, .int 60, .ref (g 34), .null, .int 0, .int 0, .int 0]))] := hD
            have hK : va_K (dC, dI) vwCl [(cy31, .int), (cy34, .int)] s := hK
            refine W.widen (k := 172) (n := 112431) (Nat.le_of_ble_eq_true rfl) (Nat.le_of_ble_eq_true rfl) ?_
            refine lv_istore (lv' := [(6, .int 0), (5, .int 1), (4, .int 0), (3, .ref q104), (2, .ref q102), (1, .ref q1), (0, .ref b)]) hx hb dL_law_863 hl (by decide) rfl (fun ls hl => ?_)
            refine lv_aload_n hx hb dL_law_865 rfl (lv_at hl 4 rfl) ?_
            have hPc := hP.sub (ws' := [(q102, .inr (23, [.int 1, .ref q103, .int 20, .int 60, .ref (g 34), .null, .int 0, .int 0, .int 0]))]) [3] rfl
            have hDc := hD.sub (ws' := [(q102, .inr (23, [.int 1, .ref q103, .int 20, .int 60, .ref (g 34), .null, .int 0, .int 0, .int 0]))]) [3] (by decide) rfl
            have hKc := hK.sub (tys' := []) [] rfl
            have hFc := va_free (wc := [(q102, .inr (23, [.int 1, .ref q103, .int 20, .int 60, .ref (g 34), .null, .int 0, .int 0, .int 0]))]) hD hS hA [3] rfl
            refine va_calli (va_runV (As := []) (rest := []) ⟨hx, hb, hml, hown, hts⟩ (kX16_thrown l dC dI g H.size q102 (.ref q103) (.int 20) (.int 60) (.ref (g 34)) .null (.int 0) (.int 0) (.int 0) ) (cwV 0 hts (ns_gq (List.forall_mem_cons.mpr ⟨wm414, (List.forall_mem_cons.mpr ⟨wm415, (List.forall_mem_cons.mpr ⟨wm416, (List.forall_mem_cons.mpr ⟨wm192, (fun _ h9 => nomatch h9)⟩)⟩)⟩)⟩) wm246) rfl rfl rfl (by decide +kernel) ⟨Nat.le_of_ble_eq_true rfl, Nat.le_of_ble_eq_true rfl⟩) ⟨fun a U gg mk q => by obtain ⟨q0, q1, qP, qK, qD, qF⟩ := q; exact ⟨q0, q1, qP, va_K.moved (u := U) (U := U.calling gg mk a) (Vm.Alike.refl U.vm) qK, qD, ns_same qF⟩, va_recv hK hP (ci := 23) (q0 := 3) rfl rfl, fun U hU hW => ⟨rfl, by rw [hU], by rw [hU]; exact hPc, va_K.moved hW.alike hKc, hDc.weaken (fun _ _ _ _ => trivial), ns_call hF hS hFc hU hW⟩⟩ rfl rfl hl.1 rfl (lv_room (Nat.le_of_ble_eq_true rfl)) dL_law_866 ⟨Nat.le_of_ble_eq_true rfl, Nat.le_of_ble_eq_true rfl⟩) hS (fun q _ h => hFc q h) hFc (fun r9 u t H1 locs ht hvm hw hB hz1 hk1 hS => ?_)
            obtain rfl := hw.symm
            obtain ⟨hP1, hK1, hD1⟩ := hB
            rw [ht] at hP1
            have hK1 := va_K.moved hvm.symm hK1
            obtain ⟨hP, hD⟩ := va_join (wr := [(q29, .inr (11, [.ref q30, .int 0])), (q30, .inl (cy31, 60, .inl (fun _ => 0))), (q104, .inr (17, [.long 0, .null]))]) (w1 := [(q102, .inr (23, [.int 1, .ref q103, .int 20, .int 60, .ref (g 34), .null, .int 0, .int 0, .int 0]))]) hP hD [3] [0, 1, 2] rfl rfl (by decide) (by decide) hk1 hFc hP1 hD1
            have hK := (hK.sub (tys' := [(cy31, .int), (cy34, .int)]) [0, 1] rfl).app hK1
            generalize H1 = H at hP hS ⊢
            have hP : va_P (dC, dI) vwCl [(q29, .inr (11, [.ref q30, .int 0])), (q30, .inl (cy31, 60, .inl (fun _ => 0))), (q104, .inr (17, [.long 0, .null])), (q102, .inr (23, [.int 1, .ref q103, .int 20, .int 60, .ref (g 34), .null, .int 0, .int 0, .int 0]))] H := hP
            have hD : va_D A [(q29, .inr (11, [.ref q30, .int 0])), (q30, .inl (cy31, 60, .inl (fun _ => 0))), (q104, .inr (17, [.long 0, .null])), (q102, .inr (23, [.int 1, .ref q103, .int 20, .int 60, .ref (g 34), .null, .int 0, .int 0, .int 0]))] := hD
            have hK : va_K (dC, dI) vwCl [(cy31, .int), (cy34, .int)] s := hK
            refine W.widen (k := 172) (n := 112431) (Nat.le_of_ble_eq_true rfl) (Nat.le_of_ble_eq_true rfl) ?_
            refine lv_iload hx hb dL_law_869 (lv_at hl 1 rfl) ?_
            refine lv_icmp_eq (tgt := 876) hx hb dL_law_871 (by decide) (fun c1185 => ?_) (fun c1185 => absurd (by decide) c1185)
            refine lv_iload hx hb dL_law_876 (lv_at hl 1 rfl) ?_
            refine lv_if_ne (tgt := 894) hx hb dL_law_878 (by decide) (fun c1186 => ?_) (fun c1186 => absurd c1186 (by decide))
            refine lv_goto (tgt := 2216) hx hb dL_law_894 (by decide) ?_
            exact law_tail C0 hA hAx hS (lv_sub hl [2, 6] rfl) (Nat.le_of_ble_eq_true rfl) (Nat.le_of_ble_eq_true rfl)
        · have _h9 := 0
          refine lv_aload_n hx hb dL_law_803 rfl (lv_at hl 4 rfl) ?_
          refine lv_iload hx hb dL_law_804 (lv_at hl 0 rfl) ?_
          refine lv_iconst (v := 5) hx hb dL_law_806 (by decide) ?_
          refine lv_iadd hx hb dL_law_807 ?_
          refine lv_topi (fun y1187 ey1187 => ?_)
          obtain rfl : y1187 = 5 := ey1187.trans (by decide)
          refine va_sld hx hb hX hbl hbA hS (vp_in_nI (n := 5) (by decide) (by decide)) dL_law_808 ?_
          refine lv_topi (fun z5 ez5 => ?_)
          have ez5 : z5 = xs 5 := ez5
          refine lv_aload_n hx hb dL_law_809 rfl (lv_at hl 4 rfl) ?_
          refine lv_iload hx hb dL_law_810 (lv_at hl 0 rfl) ?_
          refine lv_bipush (v := 6) hx hb dL_law_812 (by decide) ?_
          refine lv_iadd hx hb dL_law_814 ?_
          refine lv_topi (fun y1189 ey1189 => ?_)
          obtain rfl : y1189 = 6 := ey1189.trans (by decide)
          refine va_sld hx hb hX hbl hbA hS (vp_in_nI (n := 6) (by decide) (by decide)) dL_law_815 ?_
          refine lv_topi (fun z6 ez6 => ?_)
          have ez6 : z6 = xs 6 := ez6
          refine lv_aload_n hx hb dL_law_816 rfl (lv_at hl 1 rfl) ?_
          have hPc := hP.sub (ws' := [(q1, .inr (16, [.ref q2, .ref q29, .ref q32, .ref q35, .ref q42, .ref q57, .ref q58, .ref q59, .ref q61, .ref q64, .ref q83, .int 20, .int 60, .int 0, .int 0, .int 0])), (q32, .inr (11, [.ref q33, .int 0])), (q33, .inl (cy34, 6, .inl (fun _ => 0)))]) [0, 3, 4] rfl
          have hDc := hD.sub (ws' := [(q1, .inr (16, [.ref q2, .ref q29, .ref q32, .ref q35, .ref q42, .ref q57, .ref q58, .ref q59, .ref q61, .ref q64, .ref q83, .int 20, .int 60, .int 0, .int 0, .int 0])), (q32, .inr (11, [.ref q33, .int 0])), (q33, .inl (cy34, 6, .inl (fun _ => 0)))]) [0, 3, 4] (by decide) rfl
          have hKc := hK.sub (tys' := [(cy34, .int)]) [1] rfl
          have hFc := va_free (wc := [(q1, .inr (16, [.ref q2, .ref q29, .ref q32, .ref q35, .ref q42, .ref q57, .ref q58, .ref q59, .ref q61, .ref q64, .ref q83, .int 20, .int 60, .int 0, .int 0, .int 0])), (q32, .inr (11, [.ref q33, .int 0])), (q33, .inl (cy34, 6, .inl (fun _ => 0)))]) hD hS hA [0, 3, 4] rfl
          refine va_calli (vx_runSW (As := [.ref q1, .int z1, .int z2, .int z3, .int z4, .int z5, .int z6, .ref q104]) (rest := []) ⟨hx, hb, hml, hown, hts⟩ (kL_say_10 l dC dI g H.size q1 z1 z2 z3 z4 z5 z6 q104 q32 q33 (.ref q2) (.ref q29) (.ref q35) (.ref q42) (.ref q57) (.ref q58) (.ref q59) (.ref q61) (.ref q64) (.ref q83) (.int 20) (.int 60) (.int 0) (.int 0) (.int 0) (.int 0) cy34 ⟨by omega, by omega⟩ ⟨by omega, by omega⟩ ⟨by omega, by omega⟩ ⟨by omega, by omega⟩ hlt) (vx_cwSW 8 hts (ns_gq (List.forall_mem_cons.mpr ⟨wm657, (List.forall_mem_cons.mpr ⟨wm658, (List.forall_mem_cons.mpr ⟨wm408, (fun _ h9 => nomatch h9)⟩)⟩)⟩) wm563) rfl rfl rfl (by decide +kernel) ⟨Nat.le_of_ble_eq_true rfl, Nat.le_of_ble_eq_true rfl⟩) ⟨fun a U gg mk q => by obtain ⟨q0, q1, qP, qK, qD, qF⟩ := q; exact ⟨q0, q1, qP, va_K.moved (u := U) (U := U.calling gg mk a) (Vm.Alike.refl U.vm) qK, qD, ns_same qF⟩, fun U hU hW => ⟨rfl, by rw [hU], by rw [hU]; exact hPc, va_K.moved hW.alike hKc, hDc.weaken (fun _ _ _ _ => trivial), ns_call hF hS hFc hU hW⟩⟩ rfl rfl hl.1 rfl (lv_room (Nat.le_of_ble_eq_true rfl)) dL_law_817 ⟨Nat.le_of_ble_eq_true rfl, Nat.le_of_ble_eq_true rfl⟩) hS (fun q _ h => hFc q h) hFc (fun r9 u t H1 locs ht hvm hw hB hz1 hk1 hS => ?_)
          obtain rfl := hw.symm
          obtain ⟨hP1, hK1, hD1⟩ := hB
          rw [ht] at hP1
          have hK1 := va_K.moved hvm.symm hK1
          obtain ⟨hP, hD⟩ := va_join (wr := [(q29, .inr (11, [.ref q30, .int 0])), (q30, .inl (cy31, 60, .inl (fun _ => 0))), (q102, .inr (23, [.int 0, .ref q103, .int 20, .int 60, .ref (g 34), .null, .int 0, .int 0, .int 0])), (q104, .inr (17, [.long 0, .null]))]) (w1 := []) hP hD [0, 3, 4] [1, 2, 5, 6] rfl rfl (by decide) (by decide) hk1 hFc hP1 hD1
          have hK := (hK.sub (tys' := [(cy31, .int), (cy34, .int)]) [0, 1] rfl).app hK1
          generalize H1 = H at hP hS ⊢
          have hP : va_P (dC, dI) vwCl [(q29, .inr (11, [.ref q30, .int 0])), (q30, .inl (cy31, 60, .inl (fun _ => 0))), (q102, .inr (23, [.int 0, .ref q103, .int 20, .int 60, .ref (g 34), .null, .int 0, .int 0, .int 0])), (q104, .inr (17, [.long 0, .null]))] H := hP
          have hD : va_D A [(q29, .inr (11, [.ref q30, .int 0])), (q30, .inl (cy31, 60, .inl (fun _ => 0))), (q102, .inr (23, [.int 0, .ref q103, .int 20, .int 60, .ref (g 34), .null, .int 0, .int 0, .int 0])), (q104, .inr (17, [.long 0, .null]))] := hD
          have hK : va_K (dC, dI) vwCl [(cy31, .int), (cy34, .int)] s := hK
          refine W.widen (k := 171) (n := 112425) (Nat.le_of_ble_eq_true rfl) (Nat.le_of_ble_eq_true rfl) ?_
          refine lv_istore (lv' := [(5, .int 1), (4, .int 0), (3, .ref q104), (2, .ref q102), (1, .ref q1), (0, .ref b)]) hx hb dL_law_820 hl (by decide) rfl (fun ls hl => ?_)
          refine lv_aload_n hx hb dL_law_822 rfl (lv_at hl 3 rfl) ?_
          refine lv_aload_n hx hb dL_law_823 rfl (lv_at hl 5 rfl) ?_
          refine lv_iload hx hb dL_law_824 (lv_at hl 1 rfl) ?_
          refine lv_iconst (v := 1) hx hb dL_law_826 (by decide) ?_
          refine lv_iadd hx hb dL_law_827 ?_
          refine lv_topi (fun y1191 ey1191 => ?_)
          obtain rfl : y1191 = 1 := ey1191.trans (by decide)
          refine va_sld hx hb hX hbl hbA hS (vp_in_nI (n := 1) (by decide) (by decide)) dL_law_828 ?_
          refine lv_topi (fun z1192 ez1192 => ?_)
          obtain rfl : z1 = z1192 := (ez1192.trans ez1.symm).symm
          refine lv_aload_n hx hb dL_law_829 rfl (lv_at hl 5 rfl) ?_
          refine lv_iload hx hb dL_law_830 (lv_at hl 1 rfl) ?_
          refine lv_iconst (v := 2) hx hb dL_law_832 (by decide) ?_
          refine lv_iadd hx hb dL_law_833 ?_
          refine lv_topi (fun y1193 ey1193 => ?_)
          obtain rfl : y1193 = 2 := ey1193.trans (by decide)
          refine va_sld hx hb hX hbl hbA hS (vp_in_nI (n := 2) (by decide) (by decide)) dL_law_834 ?_
          refine lv_topi (fun z1194 ez1194 => ?_)
          obtain rfl : z2 = z1194 := (ez1194.trans ez2.symm).symm
          refine lv_aload_n hx hb dL_law_835 rfl (lv_at hl 5 rfl) ?_
          refine lv_iload hx hb dL_law_836 (lv_at hl 1 rfl) ?_
          refine lv_iconst (v := 3) hx hb dL_law_838 (by decide) ?_
          refine lv_iadd hx hb dL_law_839 ?_
          refine lv_topi (fun y1195 ey1195 => ?_)
          obtain rfl : y1195 = 3 := ey1195.trans (by decide)
          refine va_sld hx hb hX hbl hbA hS (vp_in_nI (n := 3) (by decide) (by decide)) dL_law_840 ?_
          refine lv_topi (fun z1196 ez1196 => ?_)
          obtain rfl : z3 = z1196 := (ez1196.trans ez3.symm).symm
          refine lv_aload_n hx hb dL_law_841 rfl (lv_at hl 5 rfl) ?_
          refine lv_iload hx hb dL_law_842 (lv_at hl 1 rfl) ?_
          refine lv_iconst (v := 4) hx hb dL_law_844 (by decide) ?_
          refine lv_iadd hx hb dL_law_845 ?_
          refine lv_topi (fun y1197 ey1197 => ?_)
          obtain rfl : y1197 = 4 := ey1197.trans (by decide)
          refine va_sld hx hb hX hbl hbA hS (vp_in_nI (n := 4) (by decide) (by decide)) dL_law_846 ?_
          refine lv_topi (fun z1198 ez1198 => ?_)
          obtain rfl : z4 = z1198 := (ez1198.trans ez4.symm).symm
          refine lv_aload_n hx hb dL_law_847 rfl (lv_at hl 5 rfl) ?_
          refine lv_iload hx hb dL_law_848 (lv_at hl 1 rfl) ?_
          refine lv_iconst (v := 5) hx hb dL_law_850 (by decide) ?_
          refine lv_iadd hx hb dL_law_851 ?_
          refine lv_topi (fun y1199 ey1199 => ?_)
          obtain rfl : y1199 = 5 := ey1199.trans (by decide)
          refine va_sld hx hb hX hbl hbA hS (vp_in_nI (n := 5) (by decide) (by decide)) dL_law_852 ?_
          refine lv_topi (fun z1200 ez1200 => ?_)
          obtain rfl : z5 = z1200 := (ez1200.trans ez5.symm).symm
          refine lv_aload_n hx hb dL_law_853 rfl (lv_at hl 5 rfl) ?_
          refine lv_iload hx hb dL_law_854 (lv_at hl 1 rfl) ?_
          refine lv_bipush (v := 6) hx hb dL_law_856 (by decide) ?_
          refine lv_iadd hx hb dL_law_858 ?_
          refine lv_topi (fun y1201 ey1201 => ?_)
          obtain rfl : y1201 = 6 := ey1201.trans (by decide)
          refine va_sld hx hb hX hbl hbA hS (vp_in_nI (n := 6) (by decide) (by decide)) dL_law_859 ?_
          refine lv_topi (fun z1202 ez1202 => ?_)
          obtain rfl : z6 = z1202 := (ez1202.trans ez6.symm).symm
          have hPc := hP.sub (ws' := [(q102, .inr (23, [.int 0, .ref q103, .int 20, .int 60, .ref (g 34), .null, .int 0, .int 0, .int 0]))]) [2] rfl
          have hDc := hD.sub (ws' := [(q102, .inr (23, [.int 0, .ref q103, .int 20, .int 60, .ref (g 34), .null, .int 0, .int 0, .int 0]))]) [2] (by decide) rfl
          have hKc := hK.sub (tys' := []) [] rfl
          have hFc := va_free (wc := [(q102, .inr (23, [.int 0, .ref q103, .int 20, .int 60, .ref (g 34), .null, .int 0, .int 0, .int 0]))]) hD hS hA [2] rfl
          refine va_calli (va_runV (As := [.int z1, .int z2, .int z3, .int z4, .int z5, .int z6]) (rest := []) ⟨hx, hb, hml, hown, hts⟩ (kX16_say_10 l dC dI g H.size q102 z1 z2 z3 z4 z5 z6 (.int 0) (.ref q103) (.int 20) (.int 60) (.ref (g 34)) .null (.int 0) (.int 0) (.int 0) ⟨by omega, by omega⟩ ⟨by omega, by omega⟩ ⟨by omega, by omega⟩ ⟨by omega, by omega⟩) (cwV 6 hts (ns_gq (List.forall_mem_cons.mpr ⟨wm659, (List.forall_mem_cons.mpr ⟨wm660, (List.forall_mem_cons.mpr ⟨wm661, (List.forall_mem_cons.mpr ⟨wm192, (fun _ h9 => nomatch h9)⟩)⟩)⟩)⟩) wm564) rfl rfl rfl (by decide +kernel) ⟨Nat.le_of_ble_eq_true rfl, Nat.le_of_ble_eq_true rfl⟩) ⟨fun a U gg mk q => by obtain ⟨q0, q1, qP, qK, qD, qF⟩ := q; exact ⟨q0, q1, qP, va_K.moved (u := U) (U := U.calling gg mk a) (Vm.Alike.refl U.vm) qK, qD, ns_same qF⟩, va_recv hK hP (ci := 23) (q0 := 2) rfl rfl, fun U hU hW => ⟨rfl, by rw [hU], by rw [hU]; exact hPc, va_K.moved hW.alike hKc, hDc.weaken (fun _ _ _ _ => trivial), ns_call hF hS hFc hU hW⟩⟩ rfl rfl hl.1 rfl (lv_room (Nat.le_of_ble_eq_true rfl)) dL_law_860 ⟨Nat.le_of_ble_eq_true rfl, Nat.le_of_ble_eq_true rfl⟩) hS (fun q _ h => hFc q h) hFc (fun r9 u t H1 locs ht hvm hw hB hz1 hk1 hS => ?_)
          obtain rfl := hw.symm
          obtain ⟨hP1, hK1, hD1⟩ := hB
          rw [ht] at hP1
          have hK1 := va_K.moved hvm.symm hK1
          obtain ⟨hP, hD⟩ := va_join (wr := [(q29, .inr (11, [.ref q30, .int 0])), (q30, .inl (cy31, 60, .inl (fun _ => 0))), (q104, .inr (17, [.long 0, .null]))]) (w1 := [(q102, .inr (23, [.int 1, .ref q103, .int 20, .int 60, .ref (g 34), .null, .int 0, .int 0, .int 0]))]) hP hD [2] [0, 1, 3] rfl rfl (by decide) (by decide) hk1 hFc hP1 hD1
          have hK := (hK.sub (tys' := [(cy31, .int), (cy34, .int)]) [0, 1] rfl).app hK1
          generalize H1 = H at hP hS ⊢
          have hP : va_P (dC, dI) vwCl [(q29, .inr (11, [.ref q30, .int 0])), (q30, .inl (cy31, 60, .inl (fun _ => 0))), (q104, .inr (17, [.long 0, .null])), (q102, .inr (23, [.int 1, .ref q103, .int 20, .int 60, .ref (g 34), .null, .int 0, .int 0, .int 0]))] H := hP
          have hD : va_D A [(q29, .inr (11, [.ref q30, .int 0])), (q30, .inl (cy31, 60, .inl (fun _ => 0))), (q104, .inr (17, [.long 0, .null])), (q102, .inr (23, [.int 1, .ref q103, .int 20, .int 60, .ref (g 34), .null, .int 0, .int 0, .int 0]))] := hD
          have hK : va_K (dC, dI) vwCl [(cy31, .int), (cy34, .int)] s := hK
          refine W.widen (k := 172) (n := 112431) (Nat.le_of_ble_eq_true rfl) (Nat.le_of_ble_eq_true rfl) ?_
          refine lv_istore (lv' := [(6, .int 0), (5, .int 1), (4, .int 0), (3, .ref q104), (2, .ref q102), (1, .ref q1), (0, .ref b)]) hx hb dL_law_863 hl (by decide) rfl (fun ls hl => ?_)
          refine lv_aload_n hx hb dL_law_865 rfl (lv_at hl 4 rfl) ?_
          have hPc := hP.sub (ws' := [(q102, .inr (23, [.int 1, .ref q103, .int 20, .int 60, .ref (g 34), .null, .int 0, .int 0, .int 0]))]) [3] rfl
          have hDc := hD.sub (ws' := [(q102, .inr (23, [.int 1, .ref q103, .int 20, .int 60, .ref (g 34), .null, .int 0, .int 0, .int 0]))]) [3] (by decide) rfl
          have hKc := hK.sub (tys' := []) [] rfl
          have hFc := va_free (wc := [(q102, .inr (23, [.int 1, .ref q103, .int 20, .int 60, .ref (g 34), .null, .int 0, .int 0, .int 0]))]) hD hS hA [3] rfl
          refine va_calli (va_runV (As := []) (rest := []) ⟨hx, hb, hml, hown, hts⟩ (kX16_thrown l dC dI g H.size q102 (.ref q103) (.int 20) (.int 60) (.ref (g 34)) .null (.int 0) (.int 0) (.int 0) ) (cwV 0 hts (ns_gq (List.forall_mem_cons.mpr ⟨wm414, (List.forall_mem_cons.mpr ⟨wm415, (List.forall_mem_cons.mpr ⟨wm416, (List.forall_mem_cons.mpr ⟨wm192, (fun _ h9 => nomatch h9)⟩)⟩)⟩)⟩) wm246) rfl rfl rfl (by decide +kernel) ⟨Nat.le_of_ble_eq_true rfl, Nat.le_of_ble_eq_true rfl⟩) ⟨fun a U gg mk q => by obtain ⟨q0, q1, qP, qK, qD, qF⟩ := q; exact ⟨q0, q1, qP, va_K.moved (u := U) (U := U.calling gg mk a) (Vm.Alike.refl U.vm) qK, qD, ns_same qF⟩, va_recv hK hP (ci := 23) (q0 := 3) rfl rfl, fun U hU hW => ⟨rfl, by rw [hU], by rw [hU]; exact hPc, va_K.moved hW.alike hKc, hDc.weaken (fun _ _ _ _ => trivial), ns_call hF hS hFc hU hW⟩⟩ rfl rfl hl.1 rfl (lv_room (Nat.le_of_ble_eq_true rfl)) dL_law_866 ⟨Nat.le_of_ble_eq_true rfl, Nat.le_of_ble_eq_true rfl⟩) hS (fun q _ h => hFc q h) hFc (fun r9 u t H1 locs ht hvm hw hB hz1 hk1 hS => ?_)
          obtain rfl := hw.symm
          obtain ⟨hP1, hK1, hD1⟩ := hB
          rw [ht] at hP1
          have hK1 := va_K.moved hvm.symm hK1
          obtain ⟨hP, hD⟩ := va_join (wr := [(q29, .inr (11, [.ref q30, .int 0])), (q30, .inl (cy31, 60, .inl (fun _ => 0))), (q104, .inr (17, [.long 0, .null]))]) (w1 := [(q102, .inr (23, [.int 1, .ref q103, .int 20, .int 60, .ref (g 34), .null, .int 0, .int 0, .int 0]))]) hP hD [3] [0, 1, 2] rfl rfl (by decide) (by decide) hk1 hFc hP1 hD1
          have hK := (hK.sub (tys' := [(cy31, .int), (cy34, .int)]) [0, 1] rfl).app hK1
          generalize H1 = H at hP hS ⊢
          have hP : va_P (dC, dI) vwCl [(q29, .inr (11, [.ref q30, .int 0])), (q30, .inl (cy31, 60, .inl (fun _ => 0))), (q104, .inr (17, [.long 0, .null])), (q102, .inr (23, [.int 1, .ref q103, .int 20, .int 60, .ref (g 34), .null, .int 0, .int 0, .int 0]))] H := hP
          have hD : va_D A [(q29, .inr (11, [.ref q30, .int 0])), (q30, .inl (cy31, 60, .inl (fun _ => 0))), (q104, .inr (17, [.long 0, .null])), (q102, .inr (23, [.int 1, .ref q103, .int 20, .int 60, .ref (g 34), .null, .int 0, .int 0, .int 0]))] := hD
          have hK : va_K (dC, dI) vwCl [(cy31, .int), (cy34, .int)] s := hK
          refine W.widen (k := 172) (n := 112431) (Nat.le_of_ble_eq_true rfl) (Nat.le_of_ble_eq_true rfl) ?_
          refine lv_iload hx hb dL_law_869 (lv_at hl 1 rfl) ?_
          refine lv_icmp_eq (tgt := 876) hx hb dL_law_871 (by decide) (fun c1203 => ?_) (fun c1203 => absurd (by decide) c1203)
          refine lv_iload hx hb dL_law_876 (lv_at hl 1 rfl) ?_
          refine lv_if_ne (tgt := 894) hx hb dL_law_878 (by decide) (fun c1204 => ?_) (fun c1204 => absurd c1204 (by decide))
          refine lv_goto (tgt := 2216) hx hb dL_law_894 (by decide) ?_
          exact law_tail C0 hA hAx hS (lv_sub hl [2, 6] rfl) (Nat.le_of_ble_eq_true rfl) (Nat.le_of_ble_eq_true rfl)
      · have _h9 := 0
        refine lv_aload_n hx hb dL_law_797 rfl (lv_at hl 4 rfl) ?_
        refine lv_iload hx hb dL_law_798 (lv_at hl 0 rfl) ?_
        refine lv_iconst (v := 4) hx hb dL_law_800 (by decide) ?_
        refine lv_iadd hx hb dL_law_801 ?_
        refine lv_topi (fun y1205 ey1205 => ?_)
        obtain rfl : y1205 = 4 := ey1205.trans (by decide)
        refine va_sld hx hb hX hbl hbA hS (vp_in_nI (n := 4) (by decide) (by decide)) dL_law_802 ?_
        refine lv_topi (fun z4 ez4 => ?_)
        have ez4 : z4 = xs 4 := ez4
        refine lv_aload_n hx hb dL_law_803 rfl (lv_at hl 4 rfl) ?_
        refine lv_iload hx hb dL_law_804 (lv_at hl 0 rfl) ?_
        refine lv_iconst (v := 5) hx hb dL_law_806 (by decide) ?_
        refine lv_iadd hx hb dL_law_807 ?_
        refine lv_topi (fun y1207 ey1207 => ?_)
        obtain rfl : y1207 = 5 := ey1207.trans (by decide)
        refine va_sld hx hb hX hbl hbA hS (vp_in_nI (n := 5) (by decide) (by decide)) dL_law_808 ?_
        refine lv_topi (fun z5 ez5 => ?_)
        have ez5 : z5 = xs 5 := ez5
        refine lv_aload_n hx hb dL_law_809 rfl (lv_at hl 4 rfl) ?_
        refine lv_iload hx hb dL_law_810 (lv_at hl 0 rfl) ?_
        refine lv_bipush (v := 6) hx hb dL_law_812 (by decide) ?_
        refine lv_iadd hx hb dL_law_814 ?_
        refine lv_topi (fun y1209 ey1209 => ?_)
        obtain rfl : y1209 = 6 := ey1209.trans (by decide)
        refine va_sld hx hb hX hbl hbA hS (vp_in_nI (n := 6) (by decide) (by decide)) dL_law_815 ?_
        refine lv_topi (fun z6 ez6 => ?_)
        have ez6 : z6 = xs 6 := ez6
        refine lv_aload_n hx hb dL_law_816 rfl (lv_at hl 1 rfl) ?_
        have hPc := hP.sub (ws' := [(q1, .inr (16, [.ref q2, .ref q29, .ref q32, .ref q35, .ref q42, .ref q57, .ref q58, .ref q59, .ref q61, .ref q64, .ref q83, .int 20, .int 60, .int 0, .int 0, .int 0])), (q32, .inr (11, [.ref q33, .int 0])), (q33, .inl (cy34, 6, .inl (fun _ => 0)))]) [0, 3, 4] rfl
        have hDc := hD.sub (ws' := [(q1, .inr (16, [.ref q2, .ref q29, .ref q32, .ref q35, .ref q42, .ref q57, .ref q58, .ref q59, .ref q61, .ref q64, .ref q83, .int 20, .int 60, .int 0, .int 0, .int 0])), (q32, .inr (11, [.ref q33, .int 0])), (q33, .inl (cy34, 6, .inl (fun _ => 0)))]) [0, 3, 4] (by decide) rfl
        have hKc := hK.sub (tys' := [(cy34, .int)]) [1] rfl
        have hFc := va_free (wc := [(q1, .inr (16, [.ref q2, .ref q29, .ref q32, .ref q35, .ref q42, .ref q57, .ref q58, .ref q59, .ref q61, .ref q64, .ref q83, .int 20, .int 60, .int 0, .int 0, .int 0])), (q32, .inr (11, [.ref q33, .int 0])), (q33, .inl (cy34, 6, .inl (fun _ => 0)))]) hD hS hA [0, 3, 4] rfl
        refine va_calli (vx_runSW (As := [.ref q1, .int z1, .int z2, .int z3, .int z4, .int z5, .int z6, .ref q104]) (rest := []) ⟨hx, hb, hml, hown, hts⟩ (kL_say_11 l dC dI g H.size q1 z1 z2 z3 z4 z5 z6 q104 q32 q33 (.ref q2) (.ref q29) (.ref q35) (.ref q42) (.ref q57) (.ref q58) (.ref q59) (.ref q61) (.ref q64) (.ref q83) (.int 20) (.int 60) (.int 0) (.int 0) (.int 0) (.int 0) cy34 ⟨by omega, by omega⟩ ⟨by omega, by omega⟩ ⟨by omega, by omega⟩ hlt) (vx_cwSW 8 hts (ns_gq (List.forall_mem_cons.mpr ⟨wm657, (List.forall_mem_cons.mpr ⟨wm658, (List.forall_mem_cons.mpr ⟨wm408, (fun _ h9 => nomatch h9)⟩)⟩)⟩) wm563) rfl rfl rfl (by decide +kernel) ⟨Nat.le_of_ble_eq_true rfl, Nat.le_of_ble_eq_true rfl⟩) ⟨fun a U gg mk q => by obtain ⟨q0, q1, qP, qK, qD, qF⟩ := q; exact ⟨q0, q1, qP, va_K.moved (u := U) (U := U.calling gg mk a) (Vm.Alike.refl U.vm) qK, qD, ns_same qF⟩, fun U hU hW => ⟨rfl, by rw [hU], by rw [hU]; exact hPc, va_K.moved hW.alike hKc, hDc.weaken (fun _ _ _ _ => trivial), ns_call hF hS hFc hU hW⟩⟩ rfl rfl hl.1 rfl (lv_room (Nat.le_of_ble_eq_true rfl)) dL_law_817 ⟨Nat.le_of_ble_eq_true rfl, Nat.le_of_ble_eq_true rfl⟩) hS (fun q _ h => hFc q h) hFc (fun r9 u t H1 locs ht hvm hw hB hz1 hk1 hS => ?_)
        obtain rfl := hw.symm
        obtain ⟨hP1, hK1, hD1⟩ := hB
        rw [ht] at hP1
        have hK1 := va_K.moved hvm.symm hK1
        obtain ⟨hP, hD⟩ := va_join (wr := [(q29, .inr (11, [.ref q30, .int 0])), (q30, .inl (cy31, 60, .inl (fun _ => 0))), (q102, .inr (23, [.int 0, .ref q103, .int 20, .int 60, .ref (g 34), .null, .int 0, .int 0, .int 0])), (q104, .inr (17, [.long 0, .null]))]) (w1 := []) hP hD [0, 3, 4] [1, 2, 5, 6] rfl rfl (by decide) (by decide) hk1 hFc hP1 hD1
        have hK := (hK.sub (tys' := [(cy31, .int), (cy34, .int)]) [0, 1] rfl).app hK1
        generalize H1 = H at hP hS ⊢
        have hP : va_P (dC, dI) vwCl [(q29, .inr (11, [.ref q30, .int 0])), (q30, .inl (cy31, 60, .inl (fun _ => 0))), (q102, .inr (23, [.int 0, .ref q103, .int 20, .int 60, .ref (g 34), .null, .int 0, .int 0, .int 0])), (q104, .inr (17, [.long 0, .null]))] H := hP
        have hD : va_D A [(q29, .inr (11, [.ref q30, .int 0])), (q30, .inl (cy31, 60, .inl (fun _ => 0))), (q102, .inr (23, [.int 0, .ref q103, .int 20, .int 60, .ref (g 34), .null, .int 0, .int 0, .int 0])), (q104, .inr (17, [.long 0, .null]))] := hD
        have hK : va_K (dC, dI) vwCl [(cy31, .int), (cy34, .int)] s := hK
        refine W.widen (k := 171) (n := 112425) (Nat.le_of_ble_eq_true rfl) (Nat.le_of_ble_eq_true rfl) ?_
        refine lv_istore (lv' := [(5, .int 1), (4, .int 0), (3, .ref q104), (2, .ref q102), (1, .ref q1), (0, .ref b)]) hx hb dL_law_820 hl (by decide) rfl (fun ls hl => ?_)
        refine lv_aload_n hx hb dL_law_822 rfl (lv_at hl 3 rfl) ?_
        refine lv_aload_n hx hb dL_law_823 rfl (lv_at hl 5 rfl) ?_
        refine lv_iload hx hb dL_law_824 (lv_at hl 1 rfl) ?_
        refine lv_iconst (v := 1) hx hb dL_law_826 (by decide) ?_
        refine lv_iadd hx hb dL_law_827 ?_
        refine lv_topi (fun y1211 ey1211 => ?_)
        obtain rfl : y1211 = 1 := ey1211.trans (by decide)
        refine va_sld hx hb hX hbl hbA hS (vp_in_nI (n := 1) (by decide) (by decide)) dL_law_828 ?_
        refine lv_topi (fun z1212 ez1212 => ?_)
        obtain rfl : z1 = z1212 := (ez1212.trans ez1.symm).symm
        refine lv_aload_n hx hb dL_law_829 rfl (lv_at hl 5 rfl) ?_
        refine lv_iload hx hb dL_law_830 (lv_at hl 1 rfl) ?_
        refine lv_iconst (v := 2) hx hb dL_law_832 (by decide) ?_
        refine lv_iadd hx hb dL_law_833 ?_
        refine lv_topi (fun y1213 ey1213 => ?_)
        obtain rfl : y1213 = 2 := ey1213.trans (by decide)
        refine va_sld hx hb hX hbl hbA hS (vp_in_nI (n := 2) (by decide) (by decide)) dL_law_834 ?_
        refine lv_topi (fun z1214 ez1214 => ?_)
        obtain rfl : z2 = z1214 := (ez1214.trans ez2.symm).symm
        refine lv_aload_n hx hb dL_law_835 rfl (lv_at hl 5 rfl) ?_
        refine lv_iload hx hb dL_law_836 (lv_at hl 1 rfl) ?_
        refine lv_iconst (v := 3) hx hb dL_law_838 (by decide) ?_
        refine lv_iadd hx hb dL_law_839 ?_
        refine lv_topi (fun y1215 ey1215 => ?_)
        obtain rfl : y1215 = 3 := ey1215.trans (by decide)
        refine va_sld hx hb hX hbl hbA hS (vp_in_nI (n := 3) (by decide) (by decide)) dL_law_840 ?_
        refine lv_topi (fun z1216 ez1216 => ?_)
        obtain rfl : z3 = z1216 := (ez1216.trans ez3.symm).symm
        refine lv_aload_n hx hb dL_law_841 rfl (lv_at hl 5 rfl) ?_
        refine lv_iload hx hb dL_law_842 (lv_at hl 1 rfl) ?_
        refine lv_iconst (v := 4) hx hb dL_law_844 (by decide) ?_
        refine lv_iadd hx hb dL_law_845 ?_
        refine lv_topi (fun y1217 ey1217 => ?_)
        obtain rfl : y1217 = 4 := ey1217.trans (by decide)
        refine va_sld hx hb hX hbl hbA hS (vp_in_nI (n := 4) (by decide) (by decide)) dL_law_846 ?_
        refine lv_topi (fun z1218 ez1218 => ?_)
        obtain rfl : z4 = z1218 := (ez1218.trans ez4.symm).symm
        refine lv_aload_n hx hb dL_law_847 rfl (lv_at hl 5 rfl) ?_
        refine lv_iload hx hb dL_law_848 (lv_at hl 1 rfl) ?_
        refine lv_iconst (v := 5) hx hb dL_law_850 (by decide) ?_
        refine lv_iadd hx hb dL_law_851 ?_
        refine lv_topi (fun y1219 ey1219 => ?_)
        obtain rfl : y1219 = 5 := ey1219.trans (by decide)
        refine va_sld hx hb hX hbl hbA hS (vp_in_nI (n := 5) (by decide) (by decide)) dL_law_852 ?_
        refine lv_topi (fun z1220 ez1220 => ?_)
        obtain rfl : z5 = z1220 := (ez1220.trans ez5.symm).symm
        refine lv_aload_n hx hb dL_law_853 rfl (lv_at hl 5 rfl) ?_
        refine lv_iload hx hb dL_law_854 (lv_at hl 1 rfl) ?_
        refine lv_bipush (v := 6) hx hb dL_law_856 (by decide) ?_
        refine lv_iadd hx hb dL_law_858 ?_
        refine lv_topi (fun y1221 ey1221 => ?_)
        obtain rfl : y1221 = 6 := ey1221.trans (by decide)
        refine va_sld hx hb hX hbl hbA hS (vp_in_nI (n := 6) (by decide) (by decide)) dL_law_859 ?_
        refine lv_topi (fun z1222 ez1222 => ?_)
        obtain rfl : z6 = z1222 := (ez1222.trans ez6.symm).symm
        have hPc := hP.sub (ws' := [(q102, .inr (23, [.int 0, .ref q103, .int 20, .int 60, .ref (g 34), .null, .int 0, .int 0, .int 0]))]) [2] rfl
        have hDc := hD.sub (ws' := [(q102, .inr (23, [.int 0, .ref q103, .int 20, .int 60, .ref (g 34), .null, .int 0, .int 0, .int 0]))]) [2] (by decide) rfl
        have hKc := hK.sub (tys' := []) [] rfl
        have hFc := va_free (wc := [(q102, .inr (23, [.int 0, .ref q103, .int 20, .int 60, .ref (g 34), .null, .int 0, .int 0, .int 0]))]) hD hS hA [2] rfl
        refine va_calli (va_runV (As := [.int z1, .int z2, .int z3, .int z4, .int z5, .int z6]) (rest := []) ⟨hx, hb, hml, hown, hts⟩ (kX16_say_11 l dC dI g H.size q102 z1 z2 z3 z4 z5 z6 (.int 0) (.ref q103) (.int 20) (.int 60) (.ref (g 34)) .null (.int 0) (.int 0) (.int 0) ⟨by omega, by omega⟩ ⟨by omega, by omega⟩ ⟨by omega, by omega⟩) (cwV 6 hts (ns_gq (List.forall_mem_cons.mpr ⟨wm659, (List.forall_mem_cons.mpr ⟨wm660, (List.forall_mem_cons.mpr ⟨wm661, (List.forall_mem_cons.mpr ⟨wm192, (fun _ h9 => nomatch h9)⟩)⟩)⟩)⟩) wm564) rfl rfl rfl (by decide +kernel) ⟨Nat.le_of_ble_eq_true rfl, Nat.le_of_ble_eq_true rfl⟩) ⟨fun a U gg mk q => by obtain ⟨q0, q1, qP, qK, qD, qF⟩ := q; exact ⟨q0, q1, qP, va_K.moved (u := U) (U := U.calling gg mk a) (Vm.Alike.refl U.vm) qK, qD, ns_same qF⟩, va_recv hK hP (ci := 23) (q0 := 2) rfl rfl, fun U hU hW => ⟨rfl, by rw [hU], by rw [hU]; exact hPc, va_K.moved hW.alike hKc, hDc.weaken (fun _ _ _ _ => trivial), ns_call hF hS hFc hU hW⟩⟩ rfl rfl hl.1 rfl (lv_room (Nat.le_of_ble_eq_true rfl)) dL_law_860 ⟨Nat.le_of_ble_eq_true rfl, Nat.le_of_ble_eq_true rfl⟩) hS (fun q _ h => hFc q h) hFc (fun r9 u t H1 locs ht hvm hw hB hz1 hk1 hS => ?_)
        obtain rfl := hw.symm
        obtain ⟨hP1, hK1, hD1⟩ := hB
        rw [ht] at hP1
        have hK1 := va_K.moved hvm.symm hK1
        obtain ⟨hP, hD⟩ := va_join (wr := [(q29, .inr (11, [.ref q30, .int 0])), (q30, .inl (cy31, 60, .inl (fun _ => 0))), (q104, .inr (17, [.long 0, .null]))]) (w1 := [(q102, .inr (23, [.int 1, .ref q103, .int 20, .int 60, .ref (g 34), .null, .int 0, .int 0, .int 0]))]) hP hD [2] [0, 1, 3] rfl rfl (by decide) (by decide) hk1 hFc hP1 hD1
        have hK := (hK.sub (tys' := [(cy31, .int), (cy34, .int)]) [0, 1] rfl).app hK1
        generalize H1 = H at hP hS ⊢
        have hP : va_P (dC, dI) vwCl [(q29, .inr (11, [.ref q30, .int 0])), (q30, .inl (cy31, 60, .inl (fun _ => 0))), (q104, .inr (17, [.long 0, .null])), (q102, .inr (23, [.int 1, .ref q103, .int 20, .int 60, .ref (g 34), .null, .int 0, .int 0, .int 0]))] H := hP
        have hD : va_D A [(q29, .inr (11, [.ref q30, .int 0])), (q30, .inl (cy31, 60, .inl (fun _ => 0))), (q104, .inr (17, [.long 0, .null])), (q102, .inr (23, [.int 1, .ref q103, .int 20, .int 60, .ref (g 34), .null, .int 0, .int 0, .int 0]))] := hD
        have hK : va_K (dC, dI) vwCl [(cy31, .int), (cy34, .int)] s := hK
        refine W.widen (k := 172) (n := 112431) (Nat.le_of_ble_eq_true rfl) (Nat.le_of_ble_eq_true rfl) ?_
        refine lv_istore (lv' := [(6, .int 0), (5, .int 1), (4, .int 0), (3, .ref q104), (2, .ref q102), (1, .ref q1), (0, .ref b)]) hx hb dL_law_863 hl (by decide) rfl (fun ls hl => ?_)
        refine lv_aload_n hx hb dL_law_865 rfl (lv_at hl 4 rfl) ?_
        have hPc := hP.sub (ws' := [(q102, .inr (23, [.int 1, .ref q103, .int 20, .int 60, .ref (g 34), .null, .int 0, .int 0, .int 0]))]) [3] rfl
        have hDc := hD.sub (ws' := [(q102, .inr (23, [.int 1, .ref q103, .int 20, .int 60, .ref (g 34), .null, .int 0, .int 0, .int 0]))]) [3] (by decide) rfl
        have hKc := hK.sub (tys' := []) [] rfl
        have hFc := va_free (wc := [(q102, .inr (23, [.int 1, .ref q103, .int 20, .int 60, .ref (g 34), .null, .int 0, .int 0, .int 0]))]) hD hS hA [3] rfl
        refine va_calli (va_runV (As := []) (rest := []) ⟨hx, hb, hml, hown, hts⟩ (kX16_thrown l dC dI g H.size q102 (.ref q103) (.int 20) (.int 60) (.ref (g 34)) .null (.int 0) (.int 0) (.int 0) ) (cwV 0 hts (ns_gq (List.forall_mem_cons.mpr ⟨wm414, (List.forall_mem_cons.mpr ⟨wm415, (List.forall_mem_cons.mpr ⟨wm416, (List.forall_mem_cons.mpr ⟨wm192, (fun _ h9 => nomatch h9)⟩)⟩)⟩)⟩) wm246) rfl rfl rfl (by decide +kernel) ⟨Nat.le_of_ble_eq_true rfl, Nat.le_of_ble_eq_true rfl⟩) ⟨fun a U gg mk q => by obtain ⟨q0, q1, qP, qK, qD, qF⟩ := q; exact ⟨q0, q1, qP, va_K.moved (u := U) (U := U.calling gg mk a) (Vm.Alike.refl U.vm) qK, qD, ns_same qF⟩, va_recv hK hP (ci := 23) (q0 := 3) rfl rfl, fun U hU hW => ⟨rfl, by rw [hU], by rw [hU]; exact hPc, va_K.moved hW.alike hKc, hDc.weaken (fun _ _ _ _ => trivial), ns_call hF hS hFc hU hW⟩⟩ rfl rfl hl.1 rfl (lv_room (Nat.le_of_ble_eq_true rfl)) dL_law_866 ⟨Nat.le_of_ble_eq_true rfl, Nat.le_of_ble_eq_true rfl⟩) hS (fun q _ h => hFc q h) hFc (fun r9 u t H1 locs ht hvm hw hB hz1 hk1 hS => ?_)
        obtain rfl := hw.symm
        obtain ⟨hP1, hK1, hD1⟩ := hB
        rw [ht] at hP1
        have hK1 := va_K.moved hvm.symm hK1
        obtain ⟨hP, hD⟩ := va_join (wr := [(q29, .inr (11, [.ref q30, .int 0])), (q30, .inl (cy31, 60, .inl (fun _ => 0))), (q104, .inr (17, [.long 0, .null]))]) (w1 := [(q102, .inr (23, [.int 1, .ref q103, .int 20, .int 60, .ref (g 34), .null, .int 0, .int 0, .int 0]))]) hP hD [3] [0, 1, 2] rfl rfl (by decide) (by decide) hk1 hFc hP1 hD1
        have hK := (hK.sub (tys' := [(cy31, .int), (cy34, .int)]) [0, 1] rfl).app hK1
        generalize H1 = H at hP hS ⊢
        have hP : va_P (dC, dI) vwCl [(q29, .inr (11, [.ref q30, .int 0])), (q30, .inl (cy31, 60, .inl (fun _ => 0))), (q104, .inr (17, [.long 0, .null])), (q102, .inr (23, [.int 1, .ref q103, .int 20, .int 60, .ref (g 34), .null, .int 0, .int 0, .int 0]))] H := hP
        have hD : va_D A [(q29, .inr (11, [.ref q30, .int 0])), (q30, .inl (cy31, 60, .inl (fun _ => 0))), (q104, .inr (17, [.long 0, .null])), (q102, .inr (23, [.int 1, .ref q103, .int 20, .int 60, .ref (g 34), .null, .int 0, .int 0, .int 0]))] := hD
        have hK : va_K (dC, dI) vwCl [(cy31, .int), (cy34, .int)] s := hK
        refine W.widen (k := 172) (n := 112431) (Nat.le_of_ble_eq_true rfl) (Nat.le_of_ble_eq_true rfl) ?_
        refine lv_iload hx hb dL_law_869 (lv_at hl 1 rfl) ?_
        refine lv_icmp_eq (tgt := 876) hx hb dL_law_871 (by decide) (fun c1223 => ?_) (fun c1223 => absurd (by decide) c1223)
        refine lv_iload hx hb dL_law_876 (lv_at hl 1 rfl) ?_
        refine lv_if_ne (tgt := 894) hx hb dL_law_878 (by decide) (fun c1224 => ?_) (fun c1224 => absurd c1224 (by decide))
        refine lv_goto (tgt := 2216) hx hb dL_law_894 (by decide) ?_
        exact law_tail C0 hA hAx hS (lv_sub hl [2, 6] rfl) (Nat.le_of_ble_eq_true rfl) (Nat.le_of_ble_eq_true rfl)
    · have _h9 := 0
      refine lv_aload_n hx hb dL_law_791 rfl (lv_at hl 4 rfl) ?_
      refine lv_iload hx hb dL_law_792 (lv_at hl 0 rfl) ?_
      refine lv_iconst (v := 3) hx hb dL_law_794 (by decide) ?_
      refine lv_iadd hx hb dL_law_795 ?_
      refine lv_topi (fun y1225 ey1225 => ?_)
      obtain rfl : y1225 = 3 := ey1225.trans (by decide)
      refine va_sld hx hb hX hbl hbA hS (vp_in_nI (n := 3) (by decide) (by decide)) dL_law_796 ?_
      refine lv_topi (fun z3 ez3 => ?_)
      have ez3 : z3 = xs 3 := ez3
      refine lv_aload_n hx hb dL_law_797 rfl (lv_at hl 4 rfl) ?_
      refine lv_iload hx hb dL_law_798 (lv_at hl 0 rfl) ?_
      refine lv_iconst (v := 4) hx hb dL_law_800 (by decide) ?_
      refine lv_iadd hx hb dL_law_801 ?_
      refine lv_topi (fun y1227 ey1227 => ?_)
      obtain rfl : y1227 = 4 := ey1227.trans (by decide)
      refine va_sld hx hb hX hbl hbA hS (vp_in_nI (n := 4) (by decide) (by decide)) dL_law_802 ?_
      refine lv_topi (fun z4 ez4 => ?_)
      have ez4 : z4 = xs 4 := ez4
      refine lv_aload_n hx hb dL_law_803 rfl (lv_at hl 4 rfl) ?_
      refine lv_iload hx hb dL_law_804 (lv_at hl 0 rfl) ?_
      refine lv_iconst (v := 5) hx hb dL_law_806 (by decide) ?_
      refine lv_iadd hx hb dL_law_807 ?_
      refine lv_topi (fun y1229 ey1229 => ?_)
      obtain rfl : y1229 = 5 := ey1229.trans (by decide)
      refine va_sld hx hb hX hbl hbA hS (vp_in_nI (n := 5) (by decide) (by decide)) dL_law_808 ?_
      refine lv_topi (fun z5 ez5 => ?_)
      have ez5 : z5 = xs 5 := ez5
      refine lv_aload_n hx hb dL_law_809 rfl (lv_at hl 4 rfl) ?_
      refine lv_iload hx hb dL_law_810 (lv_at hl 0 rfl) ?_
      refine lv_bipush (v := 6) hx hb dL_law_812 (by decide) ?_
      refine lv_iadd hx hb dL_law_814 ?_
      refine lv_topi (fun y1231 ey1231 => ?_)
      obtain rfl : y1231 = 6 := ey1231.trans (by decide)
      refine va_sld hx hb hX hbl hbA hS (vp_in_nI (n := 6) (by decide) (by decide)) dL_law_815 ?_
      refine lv_topi (fun z6 ez6 => ?_)
      have ez6 : z6 = xs 6 := ez6
      refine lv_aload_n hx hb dL_law_816 rfl (lv_at hl 1 rfl) ?_
      have hPc := hP.sub (ws' := [(q1, .inr (16, [.ref q2, .ref q29, .ref q32, .ref q35, .ref q42, .ref q57, .ref q58, .ref q59, .ref q61, .ref q64, .ref q83, .int 20, .int 60, .int 0, .int 0, .int 0])), (q32, .inr (11, [.ref q33, .int 0])), (q33, .inl (cy34, 6, .inl (fun _ => 0)))]) [0, 3, 4] rfl
      have hDc := hD.sub (ws' := [(q1, .inr (16, [.ref q2, .ref q29, .ref q32, .ref q35, .ref q42, .ref q57, .ref q58, .ref q59, .ref q61, .ref q64, .ref q83, .int 20, .int 60, .int 0, .int 0, .int 0])), (q32, .inr (11, [.ref q33, .int 0])), (q33, .inl (cy34, 6, .inl (fun _ => 0)))]) [0, 3, 4] (by decide) rfl
      have hKc := hK.sub (tys' := [(cy34, .int)]) [1] rfl
      have hFc := va_free (wc := [(q1, .inr (16, [.ref q2, .ref q29, .ref q32, .ref q35, .ref q42, .ref q57, .ref q58, .ref q59, .ref q61, .ref q64, .ref q83, .int 20, .int 60, .int 0, .int 0, .int 0])), (q32, .inr (11, [.ref q33, .int 0])), (q33, .inl (cy34, 6, .inl (fun _ => 0)))]) hD hS hA [0, 3, 4] rfl
      refine va_calli (vx_runSW (As := [.ref q1, .int z1, .int z2, .int z3, .int z4, .int z5, .int z6, .ref q104]) (rest := []) ⟨hx, hb, hml, hown, hts⟩ (kL_say_12 l dC dI g H.size q1 z1 z2 z3 z4 z5 z6 q104 q32 q33 (.ref q2) (.ref q29) (.ref q35) (.ref q42) (.ref q57) (.ref q58) (.ref q59) (.ref q61) (.ref q64) (.ref q83) (.int 20) (.int 60) (.int 0) (.int 0) (.int 0) (.int 0) cy34 ⟨by omega, by omega⟩ ⟨by omega, by omega⟩ hlt) (vx_cwSW 8 hts (ns_gq (List.forall_mem_cons.mpr ⟨wm657, (List.forall_mem_cons.mpr ⟨wm658, (List.forall_mem_cons.mpr ⟨wm408, (fun _ h9 => nomatch h9)⟩)⟩)⟩) wm563) rfl rfl rfl (by decide +kernel) ⟨Nat.le_of_ble_eq_true rfl, Nat.le_of_ble_eq_true rfl⟩) ⟨fun a U gg mk q => by obtain ⟨q0, q1, qP, qK, qD, qF⟩ := q; exact ⟨q0, q1, qP, va_K.moved (u := U) (U := U.calling gg mk a) (Vm.Alike.refl U.vm) qK, qD, ns_same qF⟩, fun U hU hW => ⟨rfl, by rw [hU], by rw [hU]; exact hPc, va_K.moved hW.alike hKc, hDc.weaken (fun _ _ _ _ => trivial), ns_call hF hS hFc hU hW⟩⟩ rfl rfl hl.1 rfl (lv_room (Nat.le_of_ble_eq_true rfl)) dL_law_817 ⟨Nat.le_of_ble_eq_true rfl, Nat.le_of_ble_eq_true rfl⟩) hS (fun q _ h => hFc q h) hFc (fun r9 u t H1 locs ht hvm hw hB hz1 hk1 hS => ?_)
      obtain rfl := hw.symm
      obtain ⟨hP1, hK1, hD1⟩ := hB
      rw [ht] at hP1
      have hK1 := va_K.moved hvm.symm hK1
      obtain ⟨hP, hD⟩ := va_join (wr := [(q29, .inr (11, [.ref q30, .int 0])), (q30, .inl (cy31, 60, .inl (fun _ => 0))), (q102, .inr (23, [.int 0, .ref q103, .int 20, .int 60, .ref (g 34), .null, .int 0, .int 0, .int 0])), (q104, .inr (17, [.long 0, .null]))]) (w1 := []) hP hD [0, 3, 4] [1, 2, 5, 6] rfl rfl (by decide) (by decide) hk1 hFc hP1 hD1
      have hK := (hK.sub (tys' := [(cy31, .int), (cy34, .int)]) [0, 1] rfl).app hK1
      generalize H1 = H at hP hS ⊢
      have hP : va_P (dC, dI) vwCl [(q29, .inr (11, [.ref q30, .int 0])), (q30, .inl (cy31, 60, .inl (fun _ => 0))), (q102, .inr (23, [.int 0, .ref q103, .int 20, .int 60, .ref (g 34), .null, .int 0, .int 0, .int 0])), (q104, .inr (17, [.long 0, .null]))] H := hP
      have hD : va_D A [(q29, .inr (11, [.ref q30, .int 0])), (q30, .inl (cy31, 60, .inl (fun _ => 0))), (q102, .inr (23, [.int 0, .ref q103, .int 20, .int 60, .ref (g 34), .null, .int 0, .int 0, .int 0])), (q104, .inr (17, [.long 0, .null]))] := hD
      have hK : va_K (dC, dI) vwCl [(cy31, .int), (cy34, .int)] s := hK
      refine W.widen (k := 171) (n := 112425) (Nat.le_of_ble_eq_true rfl) (Nat.le_of_ble_eq_true rfl) ?_
      refine lv_istore (lv' := [(5, .int 1), (4, .int 0), (3, .ref q104), (2, .ref q102), (1, .ref q1), (0, .ref b)]) hx hb dL_law_820 hl (by decide) rfl (fun ls hl => ?_)
      refine lv_aload_n hx hb dL_law_822 rfl (lv_at hl 3 rfl) ?_
      refine lv_aload_n hx hb dL_law_823 rfl (lv_at hl 5 rfl) ?_
      refine lv_iload hx hb dL_law_824 (lv_at hl 1 rfl) ?_
      refine lv_iconst (v := 1) hx hb dL_law_826 (by decide) ?_
      refine lv_iadd hx hb dL_law_827 ?_
      refine lv_topi (fun y1233 ey1233 => ?_)
      obtain rfl : y1233 = 1 := ey1233.trans (by decide)
      refine va_sld hx hb hX hbl hbA hS (vp_in_nI (n := 1) (by decide) (by decide)) dL_law_828 ?_
      refine lv_topi (fun z1234 ez1234 => ?_)
      obtain rfl : z1 = z1234 := (ez1234.trans ez1.symm).symm
      refine lv_aload_n hx hb dL_law_829 rfl (lv_at hl 5 rfl) ?_
      refine lv_iload hx hb dL_law_830 (lv_at hl 1 rfl) ?_
      refine lv_iconst (v := 2) hx hb dL_law_832 (by decide) ?_
      refine lv_iadd hx hb dL_law_833 ?_
      refine lv_topi (fun y1235 ey1235 => ?_)
      obtain rfl : y1235 = 2 := ey1235.trans (by decide)
      refine va_sld hx hb hX hbl hbA hS (vp_in_nI (n := 2) (by decide) (by decide)) dL_law_834 ?_
      refine lv_topi (fun z1236 ez1236 => ?_)
      obtain rfl : z2 = z1236 := (ez1236.trans ez2.symm).symm
      refine lv_aload_n hx hb dL_law_835 rfl (lv_at hl 5 rfl) ?_
      refine lv_iload hx hb dL_law_836 (lv_at hl 1 rfl) ?_
      refine lv_iconst (v := 3) hx hb dL_law_838 (by decide) ?_
      refine lv_iadd hx hb dL_law_839 ?_
      refine lv_topi (fun y1237 ey1237 => ?_)
      obtain rfl : y1237 = 3 := ey1237.trans (by decide)
      refine va_sld hx hb hX hbl hbA hS (vp_in_nI (n := 3) (by decide) (by decide)) dL_law_840 ?_
      refine lv_topi (fun z1238 ez1238 => ?_)
      obtain rfl : z3 = z1238 := (ez1238.trans ez3.symm).symm
      refine lv_aload_n hx hb dL_law_841 rfl (lv_at hl 5 rfl) ?_
      refine lv_iload hx hb dL_law_842 (lv_at hl 1 rfl) ?_
      refine lv_iconst (v := 4) hx hb dL_law_844 (by decide) ?_
      refine lv_iadd hx hb dL_law_845 ?_
      refine lv_topi (fun y1239 ey1239 => ?_)
      obtain rfl : y1239 = 4 := ey1239.trans (by decide)
      refine va_sld hx hb hX hbl hbA hS (vp_in_nI (n := 4) (by decide) (by decide)) dL_law_846 ?_
      refine lv_topi (fun z1240 ez1240 => ?_)
      obtain rfl : z4 = z1240 := (ez1240.trans ez4.symm).symm
      refine lv_aload_n hx hb dL_law_847 rfl (lv_at hl 5 rfl) ?_
      refine lv_iload hx hb dL_law_848 (lv_at hl 1 rfl) ?_
      refine lv_iconst (v := 5) hx hb dL_law_850 (by decide) ?_
      refine lv_iadd hx hb dL_law_851 ?_
      refine lv_topi (fun y1241 ey1241 => ?_)
      obtain rfl : y1241 = 5 := ey1241.trans (by decide)
      refine va_sld hx hb hX hbl hbA hS (vp_in_nI (n := 5) (by decide) (by decide)) dL_law_852 ?_
      refine lv_topi (fun z1242 ez1242 => ?_)
      obtain rfl : z5 = z1242 := (ez1242.trans ez5.symm).symm
      refine lv_aload_n hx hb dL_law_853 rfl (lv_at hl 5 rfl) ?_
      refine lv_iload hx hb dL_law_854 (lv_at hl 1 rfl) ?_
      refine lv_bipush (v := 6) hx hb dL_law_856 (by decide) ?_
      refine lv_iadd hx hb dL_law_858 ?_
      refine lv_topi (fun y1243 ey1243 => ?_)
      obtain rfl : y1243 = 6 := ey1243.trans (by decide)
      refine va_sld hx hb hX hbl hbA hS (vp_in_nI (n := 6) (by decide) (by decide)) dL_law_859 ?_
      refine lv_topi (fun z1244 ez1244 => ?_)
      obtain rfl : z6 = z1244 := (ez1244.trans ez6.symm).symm
      have hPc := hP.sub (ws' := [(q102, .inr (23, [.int 0, .ref q103, .int 20, .int 60, .ref (g 34), .null, .int 0, .int 0, .int 0]))]) [2] rfl
      have hDc := hD.sub (ws' := [(q102, .inr (23, [.int 0, .ref q103, .int 20, .int 60, .ref (g 34), .null, .int 0, .int 0, .int 0]))]) [2] (by decide) rfl
      have hKc := hK.sub (tys' := []) [] rfl
      have hFc := va_free (wc := [(q102, .inr (23, [.int 0, .ref q103, .int 20, .int 60, .ref (g 34), .null, .int 0, .int 0, .int 0]))]) hD hS hA [2] rfl
      refine va_calli (va_runV (As := [.int z1, .int z2, .int z3, .int z4, .int z5, .int z6]) (rest := []) ⟨hx, hb, hml, hown, hts⟩ (kX16_say_12 l dC dI g H.size q102 z1 z2 z3 z4 z5 z6 (.int 0) (.ref q103) (.int 20) (.int 60) (.ref (g 34)) .null (.int 0) (.int 0) (.int 0) ⟨by omega, by omega⟩ ⟨by omega, by omega⟩) (cwV 6 hts (ns_gq (List.forall_mem_cons.mpr ⟨wm659, (List.forall_mem_cons.mpr ⟨wm660, (List.forall_mem_cons.mpr ⟨wm661, (List.forall_mem_cons.mpr ⟨wm192, (fun _ h9 => nomatch h9)⟩)⟩)⟩)⟩) wm564) rfl rfl rfl (by decide +kernel) ⟨Nat.le_of_ble_eq_true rfl, Nat.le_of_ble_eq_true rfl⟩) ⟨fun a U gg mk q => by obtain ⟨q0, q1, qP, qK, qD, qF⟩ := q; exact ⟨q0, q1, qP, va_K.moved (u := U) (U := U.calling gg mk a) (Vm.Alike.refl U.vm) qK, qD, ns_same qF⟩, va_recv hK hP (ci := 23) (q0 := 2) rfl rfl, fun U hU hW => ⟨rfl, by rw [hU], by rw [hU]; exact hPc, va_K.moved hW.alike hKc, hDc.weaken (fun _ _ _ _ => trivial), ns_call hF hS hFc hU hW⟩⟩ rfl rfl hl.1 rfl (lv_room (Nat.le_of_ble_eq_true rfl)) dL_law_860 ⟨Nat.le_of_ble_eq_true rfl, Nat.le_of_ble_eq_true rfl⟩) hS (fun q _ h => hFc q h) hFc (fun r9 u t H1 locs ht hvm hw hB hz1 hk1 hS => ?_)
      obtain rfl := hw.symm
      obtain ⟨hP1, hK1, hD1⟩ := hB
      rw [ht] at hP1
      have hK1 := va_K.moved hvm.symm hK1
      obtain ⟨hP, hD⟩ := va_join (wr := [(q29, .inr (11, [.ref q30, .int 0])), (q30, .inl (cy31, 60, .inl (fun _ => 0))), (q104, .inr (17, [.long 0, .null]))]) (w1 := [(q102, .inr (23, [.int 1, .ref q103, .int 20, .int 60, .ref (g 34), .null, .int 0, .int 0, .int 0]))]) hP hD [2] [0, 1, 3] rfl rfl (by decide) (by decide) hk1 hFc hP1 hD1
      have hK := (hK.sub (tys' := [(cy31, .int), (cy34, .int)]) [0, 1] rfl).app hK1
      generalize H1 = H at hP hS ⊢
      have hP : va_P (dC, dI) vwCl [(q29, .inr (11, [.ref q30, .int 0])), (q30, .inl (cy31, 60, .inl (fun _ => 0))), (q104, .inr (17, [.long 0, .null])), (q102, .inr (23, [.int 1, .ref q103, .int 20, .int 60, .ref (g 34), .null, .int 0, .int 0, .int 0]))] H := hP
      have hD : va_D A [(q29, .inr (11, [.ref q30, .int 0])), (q30, .inl (cy31, 60, .inl (fun _ => 0))), (q104, .inr (17, [.long 0, .null])), (q102, .inr (23, [.int 1, .ref q103, .int 20, .int 60, .ref (g 34), .null, .int 0, .int 0, .int 0]))] := hD
      have hK : va_K (dC, dI) vwCl [(cy31, .int), (cy34, .int)] s := hK
      refine W.widen (k := 172) (n := 112431) (Nat.le_of_ble_eq_true rfl) (Nat.le_of_ble_eq_true rfl) ?_
      refine lv_istore (lv' := [(6, .int 0), (5, .int 1), (4, .int 0), (3, .ref q104), (2, .ref q102), (1, .ref q1), (0, .ref b)]) hx hb dL_law_863 hl (by decide) rfl (fun ls hl => ?_)
      refine lv_aload_n hx hb dL_law_865 rfl (lv_at hl 4 rfl) ?_
      have hPc := hP.sub (ws' := [(q102, .inr (23, [.int 1, .ref q103, .int 20, .int 60, .ref (g 34), .null, .int 0, .int 0, .int 0]))]) [3] rfl
      have hDc := hD.sub (ws' := [(q102, .inr (23, [.int 1, .ref q103, .int 20, .int 60, .ref (g 34), .null, .int 0, .int 0, .int 0]))]) [3] (by decide) rfl
      have hKc := hK.sub (tys' := []) [] rfl
      have hFc := va_free (wc := [(q102, .inr (23, [.int 1, .ref q103, .int 20, .int 60, .ref (g 34), .null, .int 0, .int 0, .int 0]))]) hD hS hA [3] rfl
      refine va_calli (va_runV (As := []) (rest := []) ⟨hx, hb, hml, hown, hts⟩ (kX16_thrown l dC dI g H.size q102 (.ref q103) (.int 20) (.int 60) (.ref (g 34)) .null (.int 0) (.int 0) (.int 0) ) (cwV 0 hts (ns_gq (List.forall_mem_cons.mpr ⟨wm414, (List.forall_mem_cons.mpr ⟨wm415, (List.forall_mem_cons.mpr ⟨wm416, (List.forall_mem_cons.mpr ⟨wm192, (fun _ h9 => nomatch h9)⟩)⟩)⟩)⟩) wm246) rfl rfl rfl (by decide +kernel) ⟨Nat.le_of_ble_eq_true rfl, Nat.le_of_ble_eq_true rfl⟩) ⟨fun a U gg mk q => by obtain ⟨q0, q1, qP, qK, qD, qF⟩ := q; exact ⟨q0, q1, qP, va_K.moved (u := U) (U := U.calling gg mk a) (Vm.Alike.refl U.vm) qK, qD, ns_same qF⟩, va_recv hK hP (ci := 23) (q0 := 3) rfl rfl, fun U hU hW => ⟨rfl, by rw [hU], by rw [hU]; exact hPc, va_K.moved hW.alike hKc, hDc.weaken (fun _ _ _ _ => trivial), ns_call hF hS hFc hU hW⟩⟩ rfl rfl hl.1 rfl (lv_room (Nat.le_of_ble_eq_true rfl)) dL_law_866 ⟨Nat.le_of_ble_eq_true rfl, Nat.le_of_ble_eq_true rfl⟩) hS (fun q _ h => hFc q h) hFc (fun r9 u t H1 locs ht hvm hw hB hz1 hk1 hS => ?_)
      obtain rfl := hw.symm
      obtain ⟨hP1, hK1, hD1⟩ := hB
      rw [ht] at hP1
      have hK1 := va_K.moved hvm.symm hK1
      obtain ⟨hP, hD⟩ := va_join (wr := [(q29, .inr (11, [.ref q30, .int 0])), (q30, .inl (cy31, 60, .inl (fun _ => 0))), (q104, .inr (17, [.long 0, .null]))]) (w1 := [(q102, .inr (23, [.int 1, .ref q103, .int 20, .int 60, .ref (g 34), .null, .int 0, .int 0, .int 0]))]) hP hD [3] [0, 1, 2] rfl rfl (by decide) (by decide) hk1 hFc hP1 hD1
      have hK := (hK.sub (tys' := [(cy31, .int), (cy34, .int)]) [0, 1] rfl).app hK1
      generalize H1 = H at hP hS ⊢
      have hP : va_P (dC, dI) vwCl [(q29, .inr (11, [.ref q30, .int 0])), (q30, .inl (cy31, 60, .inl (fun _ => 0))), (q104, .inr (17, [.long 0, .null])), (q102, .inr (23, [.int 1, .ref q103, .int 20, .int 60, .ref (g 34), .null, .int 0, .int 0, .int 0]))] H := hP
      have hD : va_D A [(q29, .inr (11, [.ref q30, .int 0])), (q30, .inl (cy31, 60, .inl (fun _ => 0))), (q104, .inr (17, [.long 0, .null])), (q102, .inr (23, [.int 1, .ref q103, .int 20, .int 60, .ref (g 34), .null, .int 0, .int 0, .int 0]))] := hD
      have hK : va_K (dC, dI) vwCl [(cy31, .int), (cy34, .int)] s := hK
      refine W.widen (k := 172) (n := 112431) (Nat.le_of_ble_eq_true rfl) (Nat.le_of_ble_eq_true rfl) ?_
      refine lv_iload hx hb dL_law_869 (lv_at hl 1 rfl) ?_
      refine lv_icmp_eq (tgt := 876) hx hb dL_law_871 (by decide) (fun c1245 => ?_) (fun c1245 => absurd (by decide) c1245)
      refine lv_iload hx hb dL_law_876 (lv_at hl 1 rfl) ?_
      refine lv_if_ne (tgt := 894) hx hb dL_law_878 (by decide) (fun c1246 => ?_) (fun c1246 => absurd c1246 (by decide))
      refine lv_goto (tgt := 2216) hx hb dL_law_894 (by decide) ?_
      exact law_tail C0 hA hAx hS (lv_sub hl [2, 6] rfl) (Nat.le_of_ble_eq_true rfl) (Nat.le_of_ble_eq_true rfl)
  · have _h9 := 0
    refine lv_aload_n hx hb dL_law_785 rfl (lv_at hl 4 rfl) ?_
    refine lv_iload hx hb dL_law_786 (lv_at hl 0 rfl) ?_
    refine lv_iconst (v := 2) hx hb dL_law_788 (by decide) ?_
    refine lv_iadd hx hb dL_law_789 ?_
    refine lv_topi (fun y1247 ey1247 => ?_)
    obtain rfl : y1247 = 2 := ey1247.trans (by decide)
    refine va_sld hx hb hX hbl hbA hS (vp_in_nI (n := 2) (by decide) (by decide)) dL_law_790 ?_
    refine lv_topi (fun z2 ez2 => ?_)
    have ez2 : z2 = xs 2 := ez2
    refine lv_aload_n hx hb dL_law_791 rfl (lv_at hl 4 rfl) ?_
    refine lv_iload hx hb dL_law_792 (lv_at hl 0 rfl) ?_
    refine lv_iconst (v := 3) hx hb dL_law_794 (by decide) ?_
    refine lv_iadd hx hb dL_law_795 ?_
    refine lv_topi (fun y1249 ey1249 => ?_)
    obtain rfl : y1249 = 3 := ey1249.trans (by decide)
    refine va_sld hx hb hX hbl hbA hS (vp_in_nI (n := 3) (by decide) (by decide)) dL_law_796 ?_
    refine lv_topi (fun z3 ez3 => ?_)
    have ez3 : z3 = xs 3 := ez3
    refine lv_aload_n hx hb dL_law_797 rfl (lv_at hl 4 rfl) ?_
    refine lv_iload hx hb dL_law_798 (lv_at hl 0 rfl) ?_
    refine lv_iconst (v := 4) hx hb dL_law_800 (by decide) ?_
    refine lv_iadd hx hb dL_law_801 ?_
    refine lv_topi (fun y1251 ey1251 => ?_)
    obtain rfl : y1251 = 4 := ey1251.trans (by decide)
    refine va_sld hx hb hX hbl hbA hS (vp_in_nI (n := 4) (by decide) (by decide)) dL_law_802 ?_
    refine lv_topi (fun z4 ez4 => ?_)
    have ez4 : z4 = xs 4 := ez4
    refine lv_aload_n hx hb dL_law_803 rfl (lv_at hl 4 rfl) ?_
    refine lv_iload hx hb dL_law_804 (lv_at hl 0 rfl) ?_
    refine lv_iconst (v := 5) hx hb dL_law_806 (by decide) ?_
    refine lv_iadd hx hb dL_law_807 ?_
    refine lv_topi (fun y1253 ey1253 => ?_)
    obtain rfl : y1253 = 5 := ey1253.trans (by decide)
    refine va_sld hx hb hX hbl hbA hS (vp_in_nI (n := 5) (by decide) (by decide)) dL_law_808 ?_
    refine lv_topi (fun z5 ez5 => ?_)
    have ez5 : z5 = xs 5 := ez5
    refine lv_aload_n hx hb dL_law_809 rfl (lv_at hl 4 rfl) ?_
    refine lv_iload hx hb dL_law_810 (lv_at hl 0 rfl) ?_
    refine lv_bipush (v := 6) hx hb dL_law_812 (by decide) ?_
    refine lv_iadd hx hb dL_law_814 ?_
    refine lv_topi (fun y1255 ey1255 => ?_)
    obtain rfl : y1255 = 6 := ey1255.trans (by decide)
    refine va_sld hx hb hX hbl hbA hS (vp_in_nI (n := 6) (by decide) (by decide)) dL_law_815 ?_
    refine lv_topi (fun z6 ez6 => ?_)
    have ez6 : z6 = xs 6 := ez6
    refine lv_aload_n hx hb dL_law_816 rfl (lv_at hl 1 rfl) ?_
    have hPc := hP.sub (ws' := [(q1, .inr (16, [.ref q2, .ref q29, .ref q32, .ref q35, .ref q42, .ref q57, .ref q58, .ref q59, .ref q61, .ref q64, .ref q83, .int 20, .int 60, .int 0, .int 0, .int 0])), (q32, .inr (11, [.ref q33, .int 0])), (q33, .inl (cy34, 6, .inl (fun _ => 0)))]) [0, 3, 4] rfl
    have hDc := hD.sub (ws' := [(q1, .inr (16, [.ref q2, .ref q29, .ref q32, .ref q35, .ref q42, .ref q57, .ref q58, .ref q59, .ref q61, .ref q64, .ref q83, .int 20, .int 60, .int 0, .int 0, .int 0])), (q32, .inr (11, [.ref q33, .int 0])), (q33, .inl (cy34, 6, .inl (fun _ => 0)))]) [0, 3, 4] (by decide) rfl
    have hKc := hK.sub (tys' := [(cy34, .int)]) [1] rfl
    have hFc := va_free (wc := [(q1, .inr (16, [.ref q2, .ref q29, .ref q32, .ref q35, .ref q42, .ref q57, .ref q58, .ref q59, .ref q61, .ref q64, .ref q83, .int 20, .int 60, .int 0, .int 0, .int 0])), (q32, .inr (11, [.ref q33, .int 0])), (q33, .inl (cy34, 6, .inl (fun _ => 0)))]) hD hS hA [0, 3, 4] rfl
    refine va_calli (vx_runSW (As := [.ref q1, .int z1, .int z2, .int z3, .int z4, .int z5, .int z6, .ref q104]) (rest := []) ⟨hx, hb, hml, hown, hts⟩ (kL_say_13 l dC dI g H.size q1 z1 z2 z3 z4 z5 z6 q104 q32 q33 (.ref q2) (.ref q29) (.ref q35) (.ref q42) (.ref q57) (.ref q58) (.ref q59) (.ref q61) (.ref q64) (.ref q83) (.int 20) (.int 60) (.int 0) (.int 0) (.int 0) (.int 0) cy34 ⟨by omega, by omega⟩ hlt) (vx_cwSW 8 hts (ns_gq (List.forall_mem_cons.mpr ⟨wm657, (List.forall_mem_cons.mpr ⟨wm658, (List.forall_mem_cons.mpr ⟨wm408, (fun _ h9 => nomatch h9)⟩)⟩)⟩) wm563) rfl rfl rfl (by decide +kernel) ⟨Nat.le_of_ble_eq_true rfl, Nat.le_of_ble_eq_true rfl⟩) ⟨fun a U gg mk q => by obtain ⟨q0, q1, qP, qK, qD, qF⟩ := q; exact ⟨q0, q1, qP, va_K.moved (u := U) (U := U.calling gg mk a) (Vm.Alike.refl U.vm) qK, qD, ns_same qF⟩, fun U hU hW => ⟨rfl, by rw [hU], by rw [hU]; exact hPc, va_K.moved hW.alike hKc, hDc.weaken (fun _ _ _ _ => trivial), ns_call hF hS hFc hU hW⟩⟩ rfl rfl hl.1 rfl (lv_room (Nat.le_of_ble_eq_true rfl)) dL_law_817 ⟨Nat.le_of_ble_eq_true rfl, Nat.le_of_ble_eq_true rfl⟩) hS (fun q _ h => hFc q h) hFc (fun r9 u t H1 locs ht hvm hw hB hz1 hk1 hS => ?_)
    obtain rfl := hw.symm
    obtain ⟨hP1, hK1, hD1⟩ := hB
    rw [ht] at hP1
    have hK1 := va_K.moved hvm.symm hK1
    obtain ⟨hP, hD⟩ := va_join (wr := [(q29, .inr (11, [.ref q30, .int 0])), (q30, .inl (cy31, 60, .inl (fun _ => 0))), (q102, .inr (23, [.int 0, .ref q103, .int 20, .int 60, .ref (g 34), .null, .int 0, .int 0, .int 0])), (q104, .inr (17, [.long 0, .null]))]) (w1 := []) hP hD [0, 3, 4] [1, 2, 5, 6] rfl rfl (by decide) (by decide) hk1 hFc hP1 hD1
    have hK := (hK.sub (tys' := [(cy31, .int), (cy34, .int)]) [0, 1] rfl).app hK1
    generalize H1 = H at hP hS ⊢
    have hP : va_P (dC, dI) vwCl [(q29, .inr (11, [.ref q30, .int 0])), (q30, .inl (cy31, 60, .inl (fun _ => 0))), (q102, .inr (23, [.int 0, .ref q103, .int 20, .int 60, .ref (g 34), .null, .int 0, .int 0, .int 0])), (q104, .inr (17, [.long 0, .null]))] H := hP
    have hD : va_D A [(q29, .inr (11, [.ref q30, .int 0])), (q30, .inl (cy31, 60, .inl (fun _ => 0))), (q102, .inr (23, [.int 0, .ref q103, .int 20, .int 60, .ref (g 34), .null, .int 0, .int 0, .int 0])), (q104, .inr (17, [.long 0, .null]))] := hD
    have hK : va_K (dC, dI) vwCl [(cy31, .int), (cy34, .int)] s := hK
    refine W.widen (k := 171) (n := 112425) (Nat.le_of_ble_eq_true rfl) (Nat.le_of_ble_eq_true rfl) ?_
    refine lv_istore (lv' := [(5, .int 1), (4, .int 0), (3, .ref q104), (2, .ref q102), (1, .ref q1), (0, .ref b)]) hx hb dL_law_820 hl (by decide) rfl (fun ls hl => ?_)
    refine lv_aload_n hx hb dL_law_822 rfl (lv_at hl 3 rfl) ?_
    refine lv_aload_n hx hb dL_law_823 rfl (lv_at hl 5 rfl) ?_
    refine lv_iload hx hb dL_law_824 (lv_at hl 1 rfl) ?_
    refine lv_iconst (v := 1) hx hb dL_law_826 (by decide) ?_
    refine lv_iadd hx hb dL_law_827 ?_
    refine lv_topi (fun y1257 ey1257 => ?_)
    obtain rfl : y1257 = 1 := ey1257.trans (by decide)
    refine va_sld hx hb hX hbl hbA hS (vp_in_nI (n := 1) (by decide) (by decide)) dL_law_828 ?_
    refine lv_topi (fun z1258 ez1258 => ?_)
    obtain rfl : z1 = z1258 := (ez1258.trans ez1.symm).symm
    refine lv_aload_n hx hb dL_law_829 rfl (lv_at hl 5 rfl) ?_
    refine lv_iload hx hb dL_law_830 (lv_at hl 1 rfl) ?_
    refine lv_iconst (v := 2) hx hb dL_law_832 (by decide) ?_
    refine lv_iadd hx hb dL_law_833 ?_
    refine lv_topi (fun y1259 ey1259 => ?_)
    obtain rfl : y1259 = 2 := ey1259.trans (by decide)
    refine va_sld hx hb hX hbl hbA hS (vp_in_nI (n := 2) (by decide) (by decide)) dL_law_834 ?_
    refine lv_topi (fun z1260 ez1260 => ?_)
    obtain rfl : z2 = z1260 := (ez1260.trans ez2.symm).symm
    refine lv_aload_n hx hb dL_law_835 rfl (lv_at hl 5 rfl) ?_
    refine lv_iload hx hb dL_law_836 (lv_at hl 1 rfl) ?_
    refine lv_iconst (v := 3) hx hb dL_law_838 (by decide) ?_
    refine lv_iadd hx hb dL_law_839 ?_
    refine lv_topi (fun y1261 ey1261 => ?_)
    obtain rfl : y1261 = 3 := ey1261.trans (by decide)
    refine va_sld hx hb hX hbl hbA hS (vp_in_nI (n := 3) (by decide) (by decide)) dL_law_840 ?_
    refine lv_topi (fun z1262 ez1262 => ?_)
    obtain rfl : z3 = z1262 := (ez1262.trans ez3.symm).symm
    refine lv_aload_n hx hb dL_law_841 rfl (lv_at hl 5 rfl) ?_
    refine lv_iload hx hb dL_law_842 (lv_at hl 1 rfl) ?_
    refine lv_iconst (v := 4) hx hb dL_law_844 (by decide) ?_
    refine lv_iadd hx hb dL_law_845 ?_
    refine lv_topi (fun y1263 ey1263 => ?_)
    obtain rfl : y1263 = 4 := ey1263.trans (by decide)
    refine va_sld hx hb hX hbl hbA hS (vp_in_nI (n := 4) (by decide) (by decide)) dL_law_846 ?_
    refine lv_topi (fun z1264 ez1264 => ?_)
    obtain rfl : z4 = z1264 := (ez1264.trans ez4.symm).symm
    refine lv_aload_n hx hb dL_law_847 rfl (lv_at hl 5 rfl) ?_
    refine lv_iload hx hb dL_law_848 (lv_at hl 1 rfl) ?_
    refine lv_iconst (v := 5) hx hb dL_law_850 (by decide) ?_
    refine lv_iadd hx hb dL_law_851 ?_
    refine lv_topi (fun y1265 ey1265 => ?_)
    obtain rfl : y1265 = 5 := ey1265.trans (by decide)
    refine va_sld hx hb hX hbl hbA hS (vp_in_nI (n := 5) (by decide) (by decide)) dL_law_852 ?_
    refine lv_topi (fun z1266 ez1266 => ?_)
    obtain rfl : z5 = z1266 := (ez1266.trans ez5.symm).symm
    refine lv_aload_n hx hb dL_law_853 rfl (lv_at hl 5 rfl) ?_
    refine lv_iload hx hb dL_law_854 (lv_at hl 1 rfl) ?_
    refine lv_bipush (v := 6) hx hb dL_law_856 (by decide) ?_
    refine lv_iadd hx hb dL_law_858 ?_
    refine lv_topi (fun y1267 ey1267 => ?_)
    obtain rfl : y1267 = 6 := ey1267.trans (by decide)
    refine va_sld hx hb hX hbl hbA hS (vp_in_nI (n := 6) (by decide) (by decide)) dL_law_859 ?_
    refine lv_topi (fun z1268 ez1268 => ?_)
    obtain rfl : z6 = z1268 := (ez1268.trans ez6.symm).symm
    have hPc := hP.sub (ws' := [(q102, .inr (23, [.int 0, .ref q103, .int 20, .int 60, .ref (g 34), .null, .int 0, .int 0, .int 0]))]) [2] rfl
    have hDc := hD.sub (ws' := [(q102, .inr (23, [.int 0, .ref q103, .int 20, .int 60, .ref (g 34), .null, .int 0, .int 0, .int 0]))]) [2] (by decide) rfl
    have hKc := hK.sub (tys' := []) [] rfl
    have hFc := va_free (wc := [(q102, .inr (23, [.int 0, .ref q103, .int 20, .int 60, .ref (g 34), .null, .int 0, .int 0, .int 0]))]) hD hS hA [2] rfl
    refine va_calli (va_runV (As := [.int z1, .int z2, .int z3, .int z4, .int z5, .int z6]) (rest := []) ⟨hx, hb, hml, hown, hts⟩ (kX16_say_13 l dC dI g H.size q102 z1 z2 z3 z4 z5 z6 (.int 0) (.ref q103) (.int 20) (.int 60) (.ref (g 34)) .null (.int 0) (.int 0) (.int 0) ⟨by omega, by omega⟩) (cwV 6 hts (ns_gq (List.forall_mem_cons.mpr ⟨wm659, (List.forall_mem_cons.mpr ⟨wm660, (List.forall_mem_cons.mpr ⟨wm661, (List.forall_mem_cons.mpr ⟨wm192, (fun _ h9 => nomatch h9)⟩)⟩)⟩)⟩) wm564) rfl rfl rfl (by decide +kernel) ⟨Nat.le_of_ble_eq_true rfl, Nat.le_of_ble_eq_true rfl⟩) ⟨fun a U gg mk q => by obtain ⟨q0, q1, qP, qK, qD, qF⟩ := q; exact ⟨q0, q1, qP, va_K.moved (u := U) (U := U.calling gg mk a) (Vm.Alike.refl U.vm) qK, qD, ns_same qF⟩, va_recv hK hP (ci := 23) (q0 := 2) rfl rfl, fun U hU hW => ⟨rfl, by rw [hU], by rw [hU]; exact hPc, va_K.moved hW.alike hKc, hDc.weaken (fun _ _ _ _ => trivial), ns_call hF hS hFc hU hW⟩⟩ rfl rfl hl.1 rfl (lv_room (Nat.le_of_ble_eq_true rfl)) dL_law_860 ⟨Nat.le_of_ble_eq_true rfl, Nat.le_of_ble_eq_true rfl⟩) hS (fun q _ h => hFc q h) hFc (fun r9 u t H1 locs ht hvm hw hB hz1 hk1 hS => ?_)
    obtain rfl := hw.symm
    obtain ⟨hP1, hK1, hD1⟩ := hB
    rw [ht] at hP1
    have hK1 := va_K.moved hvm.symm hK1
    obtain ⟨hP, hD⟩ := va_join (wr := [(q29, .inr (11, [.ref q30, .int 0])), (q30, .inl (cy31, 60, .inl (fun _ => 0))), (q104, .inr (17, [.long 0, .null]))]) (w1 := [(q102, .inr (23, [.int 1, .ref q103, .int 20, .int 60, .ref (g 34), .null, .int 0, .int 0, .int 0]))]) hP hD [2] [0, 1, 3] rfl rfl (by decide) (by decide) hk1 hFc hP1 hD1
    have hK := (hK.sub (tys' := [(cy31, .int), (cy34, .int)]) [0, 1] rfl).app hK1
    generalize H1 = H at hP hS ⊢
    have hP : va_P (dC, dI) vwCl [(q29, .inr (11, [.ref q30, .int 0])), (q30, .inl (cy31, 60, .inl (fun _ => 0))), (q104, .inr (17, [.long 0, .null])), (q102, .inr (23, [.int 1, .ref q103, .int 20, .int 60, .ref (g 34), .null, .int 0, .int 0, .int 0]))] H := hP
    have hD : va_D A [(q29, .inr (11, [.ref q30, .int 0])), (q30, .inl (cy31, 60, .inl (fun _ => 0))), (q104, .inr (17, [.long 0, .null])), (q102, .inr (23, [.int 1, .ref q103, .int 20, .int 60, .ref (g 34), .null, .int 0, .int 0, .int 0]))] := hD
    have hK : va_K (dC, dI) vwCl [(cy31, .int), (cy34, .int)] s := hK
    refine W.widen (k := 172) (n := 112431) (Nat.le_of_ble_eq_true rfl) (Nat.le_of_ble_eq_true rfl) ?_
    refine lv_istore (lv' := [(6, .int 0), (5, .int 1), (4, .int 0), (3, .ref q104), (2, .ref q102), (1, .ref q1), (0, .ref b)]) hx hb dL_law_863 hl (by decide) rfl (fun ls hl => ?_)
    refine lv_aload_n hx hb dL_law_865 rfl (lv_at hl 4 rfl) ?_
    have hPc := hP.sub (ws' := [(q102, .inr (23, [.int 1, .ref q103, .int 20, .int 60, .ref (g 34), .null, .int 0, .int 0, .int 0]))]) [3] rfl
    have hDc := hD.sub (ws' := [(q102, .inr (23, [.int 1, .ref q103, .int 20, .int 60, .ref (g 34), .null, .int 0, .int 0, .int 0]))]) [3] (by decide) rfl
    have hKc := hK.sub (tys' := []) [] rfl
    have hFc := va_free (wc := [(q102, .inr (23, [.int 1, .ref q103, .int 20, .int 60, .ref (g 34), .null, .int 0, .int 0, .int 0]))]) hD hS hA [3] rfl
    refine va_calli (va_runV (As := []) (rest := []) ⟨hx, hb, hml, hown, hts⟩ (kX16_thrown l dC dI g H.size q102 (.ref q103) (.int 20) (.int 60) (.ref (g 34)) .null (.int 0) (.int 0) (.int 0) ) (cwV 0 hts (ns_gq (List.forall_mem_cons.mpr ⟨wm414, (List.forall_mem_cons.mpr ⟨wm415, (List.forall_mem_cons.mpr ⟨wm416, (List.forall_mem_cons.mpr ⟨wm192, (fun _ h9 => nomatch h9)⟩)⟩)⟩)⟩) wm246) rfl rfl rfl (by decide +kernel) ⟨Nat.le_of_ble_eq_true rfl, Nat.le_of_ble_eq_true rfl⟩) ⟨fun a U gg mk q => by obtain ⟨q0, q1, qP, qK, qD, qF⟩ := q; exact ⟨q0, q1, qP, va_K.moved (u := U) (U := U.calling gg mk a) (Vm.Alike.refl U.vm) qK, qD, ns_same qF⟩, va_recv hK hP (ci := 23) (q0 := 3) rfl rfl, fun U hU hW => ⟨rfl, by rw [hU], by rw [hU]; exact hPc, va_K.moved hW.alike hKc, hDc.weaken (fun _ _ _ _ => trivial), ns_call hF hS hFc hU hW⟩⟩ rfl rfl hl.1 rfl (lv_room (Nat.le_of_ble_eq_true rfl)) dL_law_866 ⟨Nat.le_of_ble_eq_true rfl, Nat.le_of_ble_eq_true rfl⟩) hS (fun q _ h => hFc q h) hFc (fun r9 u t H1 locs ht hvm hw hB hz1 hk1 hS => ?_)
    obtain rfl := hw.symm
    obtain ⟨hP1, hK1, hD1⟩ := hB
    rw [ht] at hP1
    have hK1 := va_K.moved hvm.symm hK1
    obtain ⟨hP, hD⟩ := va_join (wr := [(q29, .inr (11, [.ref q30, .int 0])), (q30, .inl (cy31, 60, .inl (fun _ => 0))), (q104, .inr (17, [.long 0, .null]))]) (w1 := [(q102, .inr (23, [.int 1, .ref q103, .int 20, .int 60, .ref (g 34), .null, .int 0, .int 0, .int 0]))]) hP hD [3] [0, 1, 2] rfl rfl (by decide) (by decide) hk1 hFc hP1 hD1
    have hK := (hK.sub (tys' := [(cy31, .int), (cy34, .int)]) [0, 1] rfl).app hK1
    generalize H1 = H at hP hS ⊢
    have hP : va_P (dC, dI) vwCl [(q29, .inr (11, [.ref q30, .int 0])), (q30, .inl (cy31, 60, .inl (fun _ => 0))), (q104, .inr (17, [.long 0, .null])), (q102, .inr (23, [.int 1, .ref q103, .int 20, .int 60, .ref (g 34), .null, .int 0, .int 0, .int 0]))] H := hP
    have hD : va_D A [(q29, .inr (11, [.ref q30, .int 0])), (q30, .inl (cy31, 60, .inl (fun _ => 0))), (q104, .inr (17, [.long 0, .null])), (q102, .inr (23, [.int 1, .ref q103, .int 20, .int 60, .ref (g 34), .null, .int 0, .int 0, .int 0]))] := hD
    have hK : va_K (dC, dI) vwCl [(cy31, .int), (cy34, .int)] s := hK
    refine W.widen (k := 172) (n := 112431) (Nat.le_of_ble_eq_true rfl) (Nat.le_of_ble_eq_true rfl) ?_
    refine lv_iload hx hb dL_law_869 (lv_at hl 1 rfl) ?_
    refine lv_icmp_eq (tgt := 876) hx hb dL_law_871 (by decide) (fun c1269 => ?_) (fun c1269 => absurd (by decide) c1269)
    refine lv_iload hx hb dL_law_876 (lv_at hl 1 rfl) ?_
    refine lv_if_ne (tgt := 894) hx hb dL_law_878 (by decide) (fun c1270 => ?_) (fun c1270 => absurd c1270 (by decide))
    refine lv_goto (tgt := 2216) hx hb dL_law_894 (by decide) ?_
    exact law_tail C0 hA hAx hS (lv_sub hl [2, 6] rfl) (Nat.le_of_ble_eq_true rfl) (Nat.le_of_ble_eq_true rfl)

set_option maxHeartbeats 4000000 in
set_option maxRecDepth 100000 in
theorem law_case11 {p : Program} {l : Launch} {e : Env} {s : State} {m : MethodId} {below : List Frame} {meth : Method} {c : Code} {b : Nat} {xs : Nat → Int32} {dC : Nat → ClassId} {dI : Nat → Nat → Nat} {g : Nat → Nat} {A : Nat → Prop} {q1 : Nat} {q2 : Nat} {q3 : Nat} {q4 : Nat} {cy5 : ClassId} {q6 : Nat} {q7 : Nat} {cy8 : ClassId} {q9 : Nat} {q10 : Nat} {cy11 : ClassId} {q12 : Nat} {q13 : Nat} {cy14 : ClassId} {q15 : Nat} {q16 : Nat} {cy17 : ClassId} {q18 : Nat} {q19 : Nat} {cy20 : ClassId} {q21 : Nat} {q22 : Nat} {cy23 : ClassId} {q24 : Nat} {q25 : Nat} {q26 : Nat} {q27 : Nat} {cy28 : ClassId} {q29 : Nat} {q30 : Nat} {cy31 : ClassId} {q32 : Nat} {q33 : Nat} {cy34 : ClassId} {q35 : Nat} {q36 : Nat} {q37 : Nat} {q38 : Nat} {q39 : Nat} {q40 : Nat} {q41 : Nat} {q42 : Nat} {q43 : Nat} {q44 : Nat} {q45 : Nat} {q46 : Nat} {q47 : Nat} {q48 : Nat} {q49 : Nat} {q50 : Nat} {q51 : Nat} {q52 : Nat} {q53 : Nat} {q54 : Nat} {q55 : Nat} {q56 : Nat} {q57 : Nat} {q58 : Nat} {q59 : Nat} {q60 : Nat} {q61 : Nat} {q62 : Nat} {cy63 : ClassId} {q64 : Nat} {q65 : Nat} {q66 : Nat} {q67 : Nat} {q68 : Nat} {q69 : Nat} {q70 : Nat} {q71 : Nat} {q72 : Nat} {q73 : Nat} {q74 : Nat} {q75 : Nat} {q76 : Nat} {q77 : Nat} {q78 : Nat} {q79 : Nat} {q80 : Nat} {q81 : Nat} {q82 : Nat} {q83 : Nat} {q84 : Nat} {q85 : Nat} {q86 : Nat} {q87 : Nat} {q88 : Nat} {q89 : Nat} {q90 : Nat} {q91 : Nat} {q92 : Nat} {q93 : Nat} {q94 : Nat} {q95 : Nat} {q96 : Nat} {q97 : Nat} {q98 : Nat} {q99 : Nat} {q100 : Nat} {q101 : Nat} {q102 : Nat} {q103 : Nat} {q104 : Nat} {H : Heap} {locs : List Loc} {ls : Array Slot} (hlt : l.stackTraces = false) (C0 : lw_At p s m meth c b 7 xs) (hA : ∀ q : Nat, s.heap.size ≤ q → A q) (hAx : ∀ q : Nat, A q → s.heap.size ≤ q) (hF : ns_F g A s s.heap) (hK : va_K (dC, dI) vwCl [(cy5, .int), (cy8, .int), (cy11, .int), (cy14, .int), (cy17, .int), (cy20, .int), (cy23, .int), (cy28, .int), (cy31, .int), (cy34, .int), (cy63, .byte)] s) (hP : va_P (dC, dI) vwCl [(q1, .inr (16, [.ref q2, .ref q29, .ref q32, .ref q35, .ref q42, .ref q57, .ref q58, .ref q59, .ref q61, .ref q64, .ref q83, .int 20, .int 60, .int 0, .int 0, .int 0])), (q3, .inr (11, [.ref q4, .int 0])), (q4, .inl (cy5, 80, .inl (fun _ => 0))), (q6, .inr (11, [.ref q7, .int 0])), (q7, .inl (cy8, 4960, .inl (fun _ => 0))), (q9, .inr (11, [.ref q10, .int 0])), (q10, .inl (cy11, 4960, .inl (fun _ => 0))), (q12, .inr (11, [.ref q13, .int 0])), (q13, .inl (cy14, 4960, .inl (fun _ => 0))), (q15, .inr (11, [.ref q16, .int 0])), (q16, .inl (cy17, 4960, .inl (fun _ => 0))), (q18, .inr (11, [.ref q19, .int 0])), (q19, .inl (cy20, 4960, .inl (fun _ => 0))), (q21, .inr (11, [.ref q22, .int 0])), (q22, .inl (cy23, 4960, .inl (fun _ => 0))), (q24, .inr (11, [.ref q25, .int 0])), (q26, .inr (11, [.ref q27, .int 0])), (q27, .inl (cy28, 4960, .inl (fun _ => 0))), (q29, .inr (11, [.ref q30, .int 0])), (q30, .inl (cy31, 60, .inl (fun _ => 0))), (q32, .inr (11, [.ref q33, .int 0])), (q33, .inl (cy34, 6, .inl (fun _ => 0))), (q35, .inr (8, [.ref q36, .ref q38, .ref q40])), (q36, .inr (11, [.ref q37, .int 0])), (q38, .inr (11, [.ref q39, .int 0])), (q40, .inr (11, [.ref q41, .int 0])), (q42, .inr (7, [.ref q43, .ref q45, .ref q47, .ref q49, .ref q51, .ref q53, .ref q55, .int 0, .int 0, .int 0, .int 0])), (q43, .inr (11, [.ref q44, .int 0])), (q45, .inr (11, [.ref q46, .int 0])), (q47, .inr (11, [.ref q48, .int 0])), (q49, .inr (11, [.ref q50, .int 0])), (q51, .inr (11, [.ref q52, .int 0])), (q53, .inr (11, [.ref q54, .int 0])), (q55, .inr (11, [.ref q56, .int 0])), (q2, .inr (10, [.ref q3, .ref q6, .ref q9, .ref q12, .ref q15, .ref q18, .ref q21, .ref q24, .ref q26])), (q59, .inr (13, [.ref q2, .ref q42, .ref q57, .ref q58, .ref q60])), (q61, .inr (1, [.ref q62, .int 0, .int 0, .int 0])), (q62, .inl (cy63, 16, .inl (fun _ => 0))), (q64, .inr (14, [.ref q65, .ref q67, .ref q69, .ref q71, .ref q73, .ref q75, .ref q77, .ref q79, .ref q81, .int (-1)])), (q65, .inr (11, [.ref q66, .int 0])), (q67, .inr (11, [.ref q68, .int 0])), (q69, .inr (11, [.ref q70, .int 0])), (q71, .inr (11, [.ref q72, .int 0])), (q73, .inr (11, [.ref q74, .int 0])), (q75, .inr (11, [.ref q76, .int 0])), (q77, .inr (11, [.ref q78, .int 0])), (q79, .inr (11, [.ref q80, .int 0])), (q81, .inr (11, [.ref q82, .int 0])), (q83, .inr (14, [.ref q84, .ref q86, .ref q88, .ref q90, .ref q92, .ref q94, .ref q96, .ref q98, .ref q100, .int (-1)])), (q84, .inr (11, [.ref q85, .int 0])), (q86, .inr (11, [.ref q87, .int 0])), (q88, .inr (11, [.ref q89, .int 0])), (q90, .inr (11, [.ref q91, .int 0])), (q92, .inr (11, [.ref q93, .int 0])), (q94, .inr (11, [.ref q95, .int 0])), (q96, .inr (11, [.ref q97, .int 0])), (q98, .inr (11, [.ref q99, .int 0])), (q100, .inr (11, [.ref q101, .int 0])), (q102, .inr (23, [.int 0, .ref q103, .int 20, .int 60, .ref (g 34), .null, .int 0, .int 0, .int 0])), (q103, .inr (6, [.int 0, .ref (g 0), .int 0])), (q104, .inr (17, [.long 0, .null]))] H) (hD : va_D A [(q1, .inr (16, [.ref q2, .ref q29, .ref q32, .ref q35, .ref q42, .ref q57, .ref q58, .ref q59, .ref q61, .ref q64, .ref q83, .int 20, .int 60, .int 0, .int 0, .int 0])), (q3, .inr (11, [.ref q4, .int 0])), (q4, .inl (cy5, 80, .inl (fun _ => 0))), (q6, .inr (11, [.ref q7, .int 0])), (q7, .inl (cy8, 4960, .inl (fun _ => 0))), (q9, .inr (11, [.ref q10, .int 0])), (q10, .inl (cy11, 4960, .inl (fun _ => 0))), (q12, .inr (11, [.ref q13, .int 0])), (q13, .inl (cy14, 4960, .inl (fun _ => 0))), (q15, .inr (11, [.ref q16, .int 0])), (q16, .inl (cy17, 4960, .inl (fun _ => 0))), (q18, .inr (11, [.ref q19, .int 0])), (q19, .inl (cy20, 4960, .inl (fun _ => 0))), (q21, .inr (11, [.ref q22, .int 0])), (q22, .inl (cy23, 4960, .inl (fun _ => 0))), (q24, .inr (11, [.ref q25, .int 0])), (q26, .inr (11, [.ref q27, .int 0])), (q27, .inl (cy28, 4960, .inl (fun _ => 0))), (q29, .inr (11, [.ref q30, .int 0])), (q30, .inl (cy31, 60, .inl (fun _ => 0))), (q32, .inr (11, [.ref q33, .int 0])), (q33, .inl (cy34, 6, .inl (fun _ => 0))), (q35, .inr (8, [.ref q36, .ref q38, .ref q40])), (q36, .inr (11, [.ref q37, .int 0])), (q38, .inr (11, [.ref q39, .int 0])), (q40, .inr (11, [.ref q41, .int 0])), (q42, .inr (7, [.ref q43, .ref q45, .ref q47, .ref q49, .ref q51, .ref q53, .ref q55, .int 0, .int 0, .int 0, .int 0])), (q43, .inr (11, [.ref q44, .int 0])), (q45, .inr (11, [.ref q46, .int 0])), (q47, .inr (11, [.ref q48, .int 0])), (q49, .inr (11, [.ref q50, .int 0])), (q51, .inr (11, [.ref q52, .int 0])), (q53, .inr (11, [.ref q54, .int 0])), (q55, .inr (11, [.ref q56, .int 0])), (q2, .inr (10, [.ref q3, .ref q6, .ref q9, .ref q12, .ref q15, .ref q18, .ref q21, .ref q24, .ref q26])), (q59, .inr (13, [.ref q2, .ref q42, .ref q57, .ref q58, .ref q60])), (q61, .inr (1, [.ref q62, .int 0, .int 0, .int 0])), (q62, .inl (cy63, 16, .inl (fun _ => 0))), (q64, .inr (14, [.ref q65, .ref q67, .ref q69, .ref q71, .ref q73, .ref q75, .ref q77, .ref q79, .ref q81, .int (-1)])), (q65, .inr (11, [.ref q66, .int 0])), (q67, .inr (11, [.ref q68, .int 0])), (q69, .inr (11, [.ref q70, .int 0])), (q71, .inr (11, [.ref q72, .int 0])), (q73, .inr (11, [.ref q74, .int 0])), (q75, .inr (11, [.ref q76, .int 0])), (q77, .inr (11, [.ref q78, .int 0])), (q79, .inr (11, [.ref q80, .int 0])), (q81, .inr (11, [.ref q82, .int 0])), (q83, .inr (14, [.ref q84, .ref q86, .ref q88, .ref q90, .ref q92, .ref q94, .ref q96, .ref q98, .ref q100, .int (-1)])), (q84, .inr (11, [.ref q85, .int 0])), (q86, .inr (11, [.ref q87, .int 0])), (q88, .inr (11, [.ref q89, .int 0])), (q90, .inr (11, [.ref q91, .int 0])), (q92, .inr (11, [.ref q93, .int 0])), (q94, .inr (11, [.ref q95, .int 0])), (q96, .inr (11, [.ref q97, .int 0])), (q98, .inr (11, [.ref q99, .int 0])), (q100, .inr (11, [.ref q101, .int 0])), (q102, .inr (23, [.int 0, .ref q103, .int 20, .int 60, .ref (g 34), .null, .int 0, .int 0, .int 0])), (q103, .inr (6, [.int 0, .ref (g 0), .int 0])), (q104, .inr (17, [.long 0, .null]))]) (hS : va_S A s.heap H locs) (hl : lv_has ls 7 [(4, .int 0), (3, .ref q104), (2, .ref q102), (1, .ref q1), (0, .ref b)]) : W p l e room_1 s m #[Value.ref b] below meth c H locs 170 112419 (lw_Z below #[Value.ref b] s) (F0 m 897 ls []) := by
  obtain ⟨hx, hb, hr, hml, hown, hts0, hX, hbl, hlocks, hgv⟩ := id C0
  have hta : ∀ w ∈ wsALL, w.before #[Value.ref b] s = true := fun w h => hts0 w (wa_in w h)
  have hts := hta
  have hbA : ¬ A b := fun h => absurd (hAx b h) (Nat.not_le.mpr hbl)
  have hP := hP.sub (ws' := [(q1, .inr (16, [.ref q2, .ref q29, .ref q32, .ref q35, .ref q42, .ref q57, .ref q58, .ref q59, .ref q61, .ref q64, .ref q83, .int 20, .int 60, .int 0, .int 0, .int 0])), (q3, .inr (11, [.ref q4, .int 0])), (q4, .inl (cy5, 80, .inl (fun _ => 0))), (q6, .inr (11, [.ref q7, .int 0])), (q7, .inl (cy8, 4960, .inl (fun _ => 0))), (q9, .inr (11, [.ref q10, .int 0])), (q10, .inl (cy11, 4960, .inl (fun _ => 0))), (q12, .inr (11, [.ref q13, .int 0])), (q13, .inl (cy14, 4960, .inl (fun _ => 0))), (q15, .inr (11, [.ref q16, .int 0])), (q16, .inl (cy17, 4960, .inl (fun _ => 0))), (q18, .inr (11, [.ref q19, .int 0])), (q19, .inl (cy20, 4960, .inl (fun _ => 0))), (q21, .inr (11, [.ref q22, .int 0])), (q22, .inl (cy23, 4960, .inl (fun _ => 0))), (q26, .inr (11, [.ref q27, .int 0])), (q29, .inr (11, [.ref q30, .int 0])), (q35, .inr (8, [.ref q36, .ref q38, .ref q40])), (q36, .inr (11, [.ref q37, .int 0])), (q38, .inr (11, [.ref q39, .int 0])), (q40, .inr (11, [.ref q41, .int 0])), (q2, .inr (10, [.ref q3, .ref q6, .ref q9, .ref q12, .ref q15, .ref q18, .ref q21, .ref q24, .ref q26])), (q102, .inr (23, [.int 0, .ref q103, .int 20, .int 60, .ref (g 34), .null, .int 0, .int 0, .int 0])), (q103, .inr (6, [.int 0, .ref (g 0), .int 0])), (q104, .inr (17, [.long 0, .null]))]) [0, 1, 2, 3, 4, 5, 6, 7, 8, 9, 10, 11, 12, 13, 14, 16, 18, 22, 23, 24, 25, 34, 58, 59, 60] rfl
  have hD := hD.sub (ws' := [(q1, .inr (16, [.ref q2, .ref q29, .ref q32, .ref q35, .ref q42, .ref q57, .ref q58, .ref q59, .ref q61, .ref q64, .ref q83, .int 20, .int 60, .int 0, .int 0, .int 0])), (q3, .inr (11, [.ref q4, .int 0])), (q4, .inl (cy5, 80, .inl (fun _ => 0))), (q6, .inr (11, [.ref q7, .int 0])), (q7, .inl (cy8, 4960, .inl (fun _ => 0))), (q9, .inr (11, [.ref q10, .int 0])), (q10, .inl (cy11, 4960, .inl (fun _ => 0))), (q12, .inr (11, [.ref q13, .int 0])), (q13, .inl (cy14, 4960, .inl (fun _ => 0))), (q15, .inr (11, [.ref q16, .int 0])), (q16, .inl (cy17, 4960, .inl (fun _ => 0))), (q18, .inr (11, [.ref q19, .int 0])), (q19, .inl (cy20, 4960, .inl (fun _ => 0))), (q21, .inr (11, [.ref q22, .int 0])), (q22, .inl (cy23, 4960, .inl (fun _ => 0))), (q26, .inr (11, [.ref q27, .int 0])), (q29, .inr (11, [.ref q30, .int 0])), (q35, .inr (8, [.ref q36, .ref q38, .ref q40])), (q36, .inr (11, [.ref q37, .int 0])), (q38, .inr (11, [.ref q39, .int 0])), (q40, .inr (11, [.ref q41, .int 0])), (q2, .inr (10, [.ref q3, .ref q6, .ref q9, .ref q12, .ref q15, .ref q18, .ref q21, .ref q24, .ref q26])), (q102, .inr (23, [.int 0, .ref q103, .int 20, .int 60, .ref (g 34), .null, .int 0, .int 0, .int 0])), (q103, .inr (6, [.int 0, .ref (g 0), .int 0])), (q104, .inr (17, [.long 0, .null]))]) [0, 1, 2, 3, 4, 5, 6, 7, 8, 9, 10, 11, 12, 13, 14, 16, 18, 22, 23, 24, 25, 34, 58, 59, 60] (by decide) rfl
  have hK := hK.sub (tys' := [(cy5, .int), (cy8, .int), (cy11, .int), (cy14, .int), (cy17, .int), (cy20, .int), (cy23, .int)]) [0, 1, 2, 3, 4, 5, 6] rfl
  refine lv_aload_n hx hb dL_law_897 rfl (lv_at hl 3 rfl) ?_
  refine lv_aload_n hx hb dL_law_898 rfl (lv_at hl 1 rfl) ?_
  have hPc := hP.sub (ws' := [(q1, .inr (16, [.ref q2, .ref q29, .ref q32, .ref q35, .ref q42, .ref q57, .ref q58, .ref q59, .ref q61, .ref q64, .ref q83, .int 20, .int 60, .int 0, .int 0, .int 0])), (q2, .inr (10, [.ref q3, .ref q6, .ref q9, .ref q12, .ref q15, .ref q18, .ref q21, .ref q24, .ref q26])), (q3, .inr (11, [.ref q4, .int 0])), (q35, .inr (8, [.ref q36, .ref q38, .ref q40])), (q36, .inr (11, [.ref q37, .int 0])), (q29, .inr (11, [.ref q30, .int 0])), (q38, .inr (11, [.ref q39, .int 0])), (q40, .inr (11, [.ref q41, .int 0])), (q26, .inr (11, [.ref q27, .int 0])), (q6, .inr (11, [.ref q7, .int 0])), (q7, .inl (cy8, 4960, .inl (fun _ => 0))), (q9, .inr (11, [.ref q10, .int 0])), (q10, .inl (cy11, 4960, .inl (fun _ => 0))), (q12, .inr (11, [.ref q13, .int 0])), (q13, .inl (cy14, 4960, .inl (fun _ => 0))), (q15, .inr (11, [.ref q16, .int 0])), (q16, .inl (cy17, 4960, .inl (fun _ => 0))), (q18, .inr (11, [.ref q19, .int 0])), (q19, .inl (cy20, 4960, .inl (fun _ => 0))), (q21, .inr (11, [.ref q22, .int 0])), (q22, .inl (cy23, 4960, .inl (fun _ => 0))), (q4, .inl (cy5, 80, .inl (fun _ => 0))), (q104, .inr (17, [.long 0, .null]))]) [0, 21, 1, 17, 18, 16, 19, 20, 15, 3, 4, 5, 6, 7, 8, 9, 10, 11, 12, 13, 14, 2, 24] rfl
  have hDc := hD.sub (ws' := [(q1, .inr (16, [.ref q2, .ref q29, .ref q32, .ref q35, .ref q42, .ref q57, .ref q58, .ref q59, .ref q61, .ref q64, .ref q83, .int 20, .int 60, .int 0, .int 0, .int 0])), (q2, .inr (10, [.ref q3, .ref q6, .ref q9, .ref q12, .ref q15, .ref q18, .ref q21, .ref q24, .ref q26])), (q3, .inr (11, [.ref q4, .int 0])), (q35, .inr (8, [.ref q36, .ref q38, .ref q40])), (q36, .inr (11, [.ref q37, .int 0])), (q29, .inr (11, [.ref q30, .int 0])), (q38, .inr (11, [.ref q39, .int 0])), (q40, .inr (11, [.ref q41, .int 0])), (q26, .inr (11, [.ref q27, .int 0])), (q6, .inr (11, [.ref q7, .int 0])), (q7, .inl (cy8, 4960, .inl (fun _ => 0))), (q9, .inr (11, [.ref q10, .int 0])), (q10, .inl (cy11, 4960, .inl (fun _ => 0))), (q12, .inr (11, [.ref q13, .int 0])), (q13, .inl (cy14, 4960, .inl (fun _ => 0))), (q15, .inr (11, [.ref q16, .int 0])), (q16, .inl (cy17, 4960, .inl (fun _ => 0))), (q18, .inr (11, [.ref q19, .int 0])), (q19, .inl (cy20, 4960, .inl (fun _ => 0))), (q21, .inr (11, [.ref q22, .int 0])), (q22, .inl (cy23, 4960, .inl (fun _ => 0))), (q4, .inl (cy5, 80, .inl (fun _ => 0))), (q104, .inr (17, [.long 0, .null]))]) [0, 21, 1, 17, 18, 16, 19, 20, 15, 3, 4, 5, 6, 7, 8, 9, 10, 11, 12, 13, 14, 2, 24] (by decide) rfl
  have hKc := hK.sub (tys' := [(cy8, .int), (cy11, .int), (cy14, .int), (cy17, .int), (cy20, .int), (cy23, .int), (cy5, .int)]) [1, 2, 3, 4, 5, 6, 0] rfl
  have hFc := va_free (wc := [(q1, .inr (16, [.ref q2, .ref q29, .ref q32, .ref q35, .ref q42, .ref q57, .ref q58, .ref q59, .ref q61, .ref q64, .ref q83, .int 20, .int 60, .int 0, .int 0, .int 0])), (q2, .inr (10, [.ref q3, .ref q6, .ref q9, .ref q12, .ref q15, .ref q18, .ref q21, .ref q24, .ref q26])), (q3, .inr (11, [.ref q4, .int 0])), (q35, .inr (8, [.ref q36, .ref q38, .ref q40])), (q36, .inr (11, [.ref q37, .int 0])), (q29, .inr (11, [.ref q30, .int 0])), (q38, .inr (11, [.ref q39, .int 0])), (q40, .inr (11, [.ref q41, .int 0])), (q26, .inr (11, [.ref q27, .int 0])), (q6, .inr (11, [.ref q7, .int 0])), (q7, .inl (cy8, 4960, .inl (fun _ => 0))), (q9, .inr (11, [.ref q10, .int 0])), (q10, .inl (cy11, 4960, .inl (fun _ => 0))), (q12, .inr (11, [.ref q13, .int 0])), (q13, .inl (cy14, 4960, .inl (fun _ => 0))), (q15, .inr (11, [.ref q16, .int 0])), (q16, .inl (cy17, 4960, .inl (fun _ => 0))), (q18, .inr (11, [.ref q19, .int 0])), (q19, .inl (cy20, 4960, .inl (fun _ => 0))), (q21, .inr (11, [.ref q22, .int 0])), (q22, .inl (cy23, 4960, .inl (fun _ => 0))), (q4, .inl (cy5, 80, .inl (fun _ => 0))), (q104, .inr (17, [.long 0, .null]))]) hD hS hA [0, 21, 1, 17, 18, 16, 19, 20, 15, 3, 4, 5, 6, 7, 8, 9, 10, 11, 12, 13, 14, 2, 24] rfl
  refine va_calli (vx_runSW (As := [.ref q1, .ref q104]) (rest := []) ⟨hx, hb, hml, hown, hts⟩ (kL_read l dC dI g H.size q1 q104 q2 q3 q35 q36 q29 q38 q40 q26 q6 q7 q9 q10 q12 q13 q15 q16 q18 q19 q21 q22 q4 (.ref q32) (.ref q42) (.ref q57) (.ref q58) (.ref q59) (.ref q61) (.ref q64) (.ref q83) (.int 20) (.int 60) (.int 0) (.int 0) (.ref q24) (.ref q37) (.int 0) (.ref q30) (.ref q39) (.int 0) (.ref q41) (.int 0) (.ref q27) cy8 (fun _ => 0) cy11 (fun _ => 0) cy14 (fun _ => 0) cy17 (fun _ => 0) cy20 (fun _ => 0) cy23 (fun _ => 0) cy5 (fun _ => 0) (.long 0) .null ) (vx_cwSW 2 hts (ns_gq (List.forall_mem_cons.mpr ⟨wm743, (List.forall_mem_cons.mpr ⟨wm744, (List.forall_mem_cons.mpr ⟨wm408, (fun _ h9 => nomatch h9)⟩)⟩)⟩) wm681) rfl rfl rfl (by decide +kernel) ⟨Nat.le_of_ble_eq_true rfl, Nat.le_of_ble_eq_true rfl⟩) ⟨fun a U gg mk q => by obtain ⟨q0, q1, qP, qK, qD, qF⟩ := q; exact ⟨q0, q1, qP, va_K.moved (u := U) (U := U.calling gg mk a) (Vm.Alike.refl U.vm) qK, qD, ns_same qF⟩, fun U hU hW => ⟨rfl, by rw [hU], by rw [hU]; exact hPc, va_K.moved hW.alike hKc, hDc.weaken (fun _ _ _ _ => trivial), ns_call hF hS hFc hU hW⟩⟩ rfl rfl hl.1 rfl (lv_room (Nat.le_of_ble_eq_true rfl)) dL_law_899 ⟨Nat.le_of_ble_eq_true rfl, Nat.le_of_ble_eq_true rfl⟩) hS (fun q _ h => hFc q h) hFc (fun r9 u t H1 locs ht hvm hw hB hz1 hk1 hS => ?_)
  obtain rfl := hw.symm
  obtain ⟨hP1, hK1, hD1⟩ := hB
  rw [ht] at hP1
  have hK1 := va_K.moved hvm.symm hK1
  obtain ⟨hP, hD⟩ := va_join (wr := [(q102, .inr (23, [.int 0, .ref q103, .int 20, .int 60, .ref (g 34), .null, .int 0, .int 0, .int 0])), (q103, .inr (6, [.int 0, .ref (g 0), .int 0]))]) (w1 := [(q104, .inr (17, [.long 0, .null])), (q36, .inr (11, [.ref q37, .int 0])), (q38, .inr (11, [.ref q39, .int 0])), (q29, .inr (11, [.ref q30, .int 0])), (q35, .inr (8, [.ref q36, .ref q38, .ref q40])), (q40, .inr (11, [.ref q41, .int 0])), (q26, .inr (11, [.ref q27, .int 0])), (q7, .inl (cy8, 4960, .inl (upd ((fun _ => 0)) 0 0))), (q9, .inr (11, [.ref q10, .int 1])), (q10, .inl (cy11, 4960, .inl (upd ((fun _ => 0)) 0 0))), (q12, .inr (11, [.ref q13, .int 1])), (q13, .inl (cy14, 4960, .inl (upd ((fun _ => 0)) 0 0))), (q15, .inr (11, [.ref q16, .int 1])), (q16, .inl (cy17, 4960, .inl (upd ((fun _ => 0)) 0 0))), (q18, .inr (11, [.ref q19, .int 1])), (q19, .inl (cy20, 4960, .inl (upd ((fun _ => 0)) 0 1))), (q21, .inr (11, [.ref q22, .int 1])), (q22, .inl (cy23, 4960, .inl (upd ((fun _ => 0)) 0 1))), (q6, .inr (11, [.ref q7, .int 1])), (q1, .inr (16, [.ref q2, .ref q29, .ref q32, .ref q35, .ref q42, .ref q57, .ref q58, .ref q59, .ref q61, .ref q64, .ref q83, .int 20, .int 60, .int 0, .int 0, .int 1])), (q2, .inr (10, [.ref q3, .ref q6, .ref q9, .ref q12, .ref q15, .ref q18, .ref q21, .ref q24, .ref q26])), (q4, .inl (cy5, 80, .inl (upd ((fun _ => 0)) 0 0))), (q3, .inr (11, [.ref q4, .int 1]))]) hP hD [0, 21, 1, 17, 18, 16, 19, 20, 15, 3, 4, 5, 6, 7, 8, 9, 10, 11, 12, 13, 14, 2, 24] [22, 23] rfl rfl (by decide) (by decide) hk1 hFc hP1 hD1
  have hK := (hK.sub (tys' := []) [] rfl).app hK1
  generalize H1 = H at hP hS ⊢
  have hP : va_P (dC, dI) vwCl [(q102, .inr (23, [.int 0, .ref q103, .int 20, .int 60, .ref (g 34), .null, .int 0, .int 0, .int 0])), (q103, .inr (6, [.int 0, .ref (g 0), .int 0])), (q104, .inr (17, [.long 0, .null])), (q36, .inr (11, [.ref q37, .int 0])), (q38, .inr (11, [.ref q39, .int 0])), (q29, .inr (11, [.ref q30, .int 0])), (q35, .inr (8, [.ref q36, .ref q38, .ref q40])), (q40, .inr (11, [.ref q41, .int 0])), (q26, .inr (11, [.ref q27, .int 0])), (q7, .inl (cy8, 4960, .inl (upd ((fun _ => 0)) 0 0))), (q9, .inr (11, [.ref q10, .int 1])), (q10, .inl (cy11, 4960, .inl (upd ((fun _ => 0)) 0 0))), (q12, .inr (11, [.ref q13, .int 1])), (q13, .inl (cy14, 4960, .inl (upd ((fun _ => 0)) 0 0))), (q15, .inr (11, [.ref q16, .int 1])), (q16, .inl (cy17, 4960, .inl (upd ((fun _ => 0)) 0 0))), (q18, .inr (11, [.ref q19, .int 1])), (q19, .inl (cy20, 4960, .inl (upd ((fun _ => 0)) 0 1))), (q21, .inr (11, [.ref q22, .int 1])), (q22, .inl (cy23, 4960, .inl (upd ((fun _ => 0)) 0 1))), (q6, .inr (11, [.ref q7, .int 1])), (q1, .inr (16, [.ref q2, .ref q29, .ref q32, .ref q35, .ref q42, .ref q57, .ref q58, .ref q59, .ref q61, .ref q64, .ref q83, .int 20, .int 60, .int 0, .int 0, .int 1])), (q2, .inr (10, [.ref q3, .ref q6, .ref q9, .ref q12, .ref q15, .ref q18, .ref q21, .ref q24, .ref q26])), (q4, .inl (cy5, 80, .inl (upd ((fun _ => 0)) 0 0))), (q3, .inr (11, [.ref q4, .int 1]))] H := hP
  have hD : va_D A [(q102, .inr (23, [.int 0, .ref q103, .int 20, .int 60, .ref (g 34), .null, .int 0, .int 0, .int 0])), (q103, .inr (6, [.int 0, .ref (g 0), .int 0])), (q104, .inr (17, [.long 0, .null])), (q36, .inr (11, [.ref q37, .int 0])), (q38, .inr (11, [.ref q39, .int 0])), (q29, .inr (11, [.ref q30, .int 0])), (q35, .inr (8, [.ref q36, .ref q38, .ref q40])), (q40, .inr (11, [.ref q41, .int 0])), (q26, .inr (11, [.ref q27, .int 0])), (q7, .inl (cy8, 4960, .inl (upd ((fun _ => 0)) 0 0))), (q9, .inr (11, [.ref q10, .int 1])), (q10, .inl (cy11, 4960, .inl (upd ((fun _ => 0)) 0 0))), (q12, .inr (11, [.ref q13, .int 1])), (q13, .inl (cy14, 4960, .inl (upd ((fun _ => 0)) 0 0))), (q15, .inr (11, [.ref q16, .int 1])), (q16, .inl (cy17, 4960, .inl (upd ((fun _ => 0)) 0 0))), (q18, .inr (11, [.ref q19, .int 1])), (q19, .inl (cy20, 4960, .inl (upd ((fun _ => 0)) 0 1))), (q21, .inr (11, [.ref q22, .int 1])), (q22, .inl (cy23, 4960, .inl (upd ((fun _ => 0)) 0 1))), (q6, .inr (11, [.ref q7, .int 1])), (q1, .inr (16, [.ref q2, .ref q29, .ref q32, .ref q35, .ref q42, .ref q57, .ref q58, .ref q59, .ref q61, .ref q64, .ref q83, .int 20, .int 60, .int 0, .int 0, .int 1])), (q2, .inr (10, [.ref q3, .ref q6, .ref q9, .ref q12, .ref q15, .ref q18, .ref q21, .ref q24, .ref q26])), (q4, .inl (cy5, 80, .inl (upd ((fun _ => 0)) 0 0))), (q3, .inr (11, [.ref q4, .int 1]))] := hD
  have hK : va_K (dC, dI) vwCl [(cy8, .int), (cy11, .int), (cy14, .int), (cy17, .int), (cy20, .int), (cy23, .int), (cy5, .int)] s := hK
  refine W.widen (k := 170) (n := 112419) (Nat.le_of_ble_eq_true rfl) (Nat.le_of_ble_eq_true rfl) ?_
  refine lv_istore (lv' := [(5, .int 0), (4, .int 0), (3, .ref q104), (2, .ref q102), (1, .ref q1), (0, .ref b)]) hx hb dL_law_902 hl (by decide) rfl (fun ls hl => ?_)
  refine lv_aload_n hx hb dL_law_904 rfl (lv_at hl 3 rfl) ?_
  have hPc := hP.sub (ws' := [(q102, .inr (23, [.int 0, .ref q103, .int 20, .int 60, .ref (g 34), .null, .int 0, .int 0, .int 0])), (q103, .inr (6, [.int 0, .ref (g 0), .int 0]))]) [0, 1] rfl
  have hDc := hD.sub (ws' := [(q102, .inr (23, [.int 0, .ref q103, .int 20, .int 60, .ref (g 34), .null, .int 0, .int 0, .int 0])), (q103, .inr (6, [.int 0, .ref (g 0), .int 0]))]) [0, 1] (by decide) rfl
  have hKc := hK.sub (tys' := []) [] rfl
  have hFc := va_free (wc := [(q102, .inr (23, [.int 0, .ref q103, .int 20, .int 60, .ref (g 34), .null, .int 0, .int 0, .int 0])), (q103, .inr (6, [.int 0, .ref (g 0), .int 0]))]) hD hS hA [0, 1] rfl
  refine va_calli (va_runV (As := []) (rest := []) ⟨hx, hb, hml, hown, hts⟩ (kX16_read l dC dI g H.size q102 q103 (.int 0) (.int 20) (.int 60) .null (.int 0) (.int 0) ) (cwV 0 hts (ns_gq (List.forall_mem_cons.mpr ⟨wm745, (List.forall_mem_cons.mpr ⟨wm746, (List.forall_mem_cons.mpr ⟨wm747, (List.forall_mem_cons.mpr ⟨wm192, (fun _ h9 => nomatch h9)⟩)⟩)⟩)⟩) wm742) rfl rfl rfl (by decide +kernel) ⟨Nat.le_of_ble_eq_true rfl, Nat.le_of_ble_eq_true rfl⟩) ⟨fun a U gg mk q => by obtain ⟨q0, q1, qP, qK, qD, qF⟩ := q; exact ⟨q0, q1, qP, va_K.moved (u := U) (U := U.calling gg mk a) (Vm.Alike.refl U.vm) qK, qD, ns_same qF⟩, va_recv hK hP (ci := 23) (q0 := 0) rfl rfl, fun U hU hW => ⟨rfl, by rw [hU], by rw [hU]; exact hPc, va_K.moved hW.alike hKc, hDc.weaken (fun _ _ _ _ => trivial), ns_call hF hS hFc hU hW⟩⟩ rfl rfl hl.1 rfl (lv_room (Nat.le_of_ble_eq_true rfl)) dL_law_905 ⟨Nat.le_of_ble_eq_true rfl, Nat.le_of_ble_eq_true rfl⟩) hS (fun q _ h => hFc q h) hFc (fun r9 u t H1 locs ht hvm hw hB hz1 hk1 hS => ?_)
  obtain rfl := hw.symm
  obtain ⟨q1001, q1002, q1003, q1004, q1005, q1006, q1007, cy1008, hP1, hK1, hD1⟩ := hB
  rw [ht] at hP1
  have hK1 := va_K.moved hvm.symm hK1
  obtain ⟨hP, hD⟩ := va_join (wr := [(q104, .inr (17, [.long 0, .null])), (q36, .inr (11, [.ref q37, .int 0])), (q38, .inr (11, [.ref q39, .int 0])), (q29, .inr (11, [.ref q30, .int 0])), (q35, .inr (8, [.ref q36, .ref q38, .ref q40])), (q40, .inr (11, [.ref q41, .int 0])), (q26, .inr (11, [.ref q27, .int 0])), (q7, .inl (cy8, 4960, .inl (upd ((fun _ => 0)) 0 0))), (q9, .inr (11, [.ref q10, .int 1])), (q10, .inl (cy11, 4960, .inl (upd ((fun _ => 0)) 0 0))), (q12, .inr (11, [.ref q13, .int 1])), (q13, .inl (cy14, 4960, .inl (upd ((fun _ => 0)) 0 0))), (q15, .inr (11, [.ref q16, .int 1])), (q16, .inl (cy17, 4960, .inl (upd ((fun _ => 0)) 0 0))), (q18, .inr (11, [.ref q19, .int 1])), (q19, .inl (cy20, 4960, .inl (upd ((fun _ => 0)) 0 1))), (q21, .inr (11, [.ref q22, .int 1])), (q22, .inl (cy23, 4960, .inl (upd ((fun _ => 0)) 0 1))), (q6, .inr (11, [.ref q7, .int 1])), (q1, .inr (16, [.ref q2, .ref q29, .ref q32, .ref q35, .ref q42, .ref q57, .ref q58, .ref q59, .ref q61, .ref q64, .ref q83, .int 20, .int 60, .int 0, .int 0, .int 1])), (q2, .inr (10, [.ref q3, .ref q6, .ref q9, .ref q12, .ref q15, .ref q18, .ref q21, .ref q24, .ref q26])), (q4, .inl (cy5, 80, .inl (upd ((fun _ => 0)) 0 0))), (q3, .inr (11, [.ref q4, .int 1]))]) (w1 := [(q1001, .inr (20, [.ref (g 34), .int 0])), (q1002, .inr (6, [.int 0, .ref (g 0), .int 0])), (q1005, .inr (5, [.int 0, .int (-1), .int 0, .ref q1004])), (q1006, .inr (5, [.int 0, .int (-1), .int 0, .ref q1004])), (q1004, .inr (6, [.int 0, .ref (g 0), .int 0])), (q102, .inr (23, [.int 0, .ref q103, .int 20, .int 60, .ref (g 34), .null, .int 0, .int 0, .int 1])), (q1003, .inr (18, [.int 0, .ref (g 34), .int 0, .ref q1004])), (q1007, .inl (cy1008, 10, .inr (.inr (.inr (.inr (va_up (fun _ => none) 0 (some q1003))))))), (q103, .inr (6, [.int 1, .ref q1007, .int 1]))]) hP hD [0, 1] [2, 3, 4, 5, 6, 7, 8, 9, 10, 11, 12, 13, 14, 15, 16, 17, 18, 19, 20, 21, 22, 23, 24] rfl rfl (by decide) (by decide) hk1 hFc hP1 hD1
  have hK := (hK.sub (tys' := [(cy8, .int), (cy11, .int), (cy14, .int), (cy17, .int), (cy20, .int), (cy23, .int), (cy5, .int)]) [0, 1, 2, 3, 4, 5, 6] rfl).app hK1
  generalize H1 = H at hP hS ⊢
  have hP : va_P (dC, dI) vwCl [(q104, .inr (17, [.long 0, .null])), (q36, .inr (11, [.ref q37, .int 0])), (q38, .inr (11, [.ref q39, .int 0])), (q29, .inr (11, [.ref q30, .int 0])), (q35, .inr (8, [.ref q36, .ref q38, .ref q40])), (q40, .inr (11, [.ref q41, .int 0])), (q26, .inr (11, [.ref q27, .int 0])), (q7, .inl (cy8, 4960, .inl (upd ((fun _ => 0)) 0 0))), (q9, .inr (11, [.ref q10, .int 1])), (q10, .inl (cy11, 4960, .inl (upd ((fun _ => 0)) 0 0))), (q12, .inr (11, [.ref q13, .int 1])), (q13, .inl (cy14, 4960, .inl (upd ((fun _ => 0)) 0 0))), (q15, .inr (11, [.ref q16, .int 1])), (q16, .inl (cy17, 4960, .inl (upd ((fun _ => 0)) 0 0))), (q18, .inr (11, [.ref q19, .int 1])), (q19, .inl (cy20, 4960, .inl (upd ((fun _ => 0)) 0 1))), (q21, .inr (11, [.ref q22, .int 1])), (q22, .inl (cy23, 4960, .inl (upd ((fun _ => 0)) 0 1))), (q6, .inr (11, [.ref q7, .int 1])), (q1, .inr (16, [.ref q2, .ref q29, .ref q32, .ref q35, .ref q42, .ref q57, .ref q58, .ref q59, .ref q61, .ref q64, .ref q83, .int 20, .int 60, .int 0, .int 0, .int 1])), (q2, .inr (10, [.ref q3, .ref q6, .ref q9, .ref q12, .ref q15, .ref q18, .ref q21, .ref q24, .ref q26])), (q4, .inl (cy5, 80, .inl (upd ((fun _ => 0)) 0 0))), (q3, .inr (11, [.ref q4, .int 1])), (q1001, .inr (20, [.ref (g 34), .int 0])), (q1002, .inr (6, [.int 0, .ref (g 0), .int 0])), (q1005, .inr (5, [.int 0, .int (-1), .int 0, .ref q1004])), (q1006, .inr (5, [.int 0, .int (-1), .int 0, .ref q1004])), (q1004, .inr (6, [.int 0, .ref (g 0), .int 0])), (q102, .inr (23, [.int 0, .ref q103, .int 20, .int 60, .ref (g 34), .null, .int 0, .int 0, .int 1])), (q1003, .inr (18, [.int 0, .ref (g 34), .int 0, .ref q1004])), (q1007, .inl (cy1008, 10, .inr (.inr (.inr (.inr (va_up (fun _ => none) 0 (some q1003))))))), (q103, .inr (6, [.int 1, .ref q1007, .int 1]))] H := hP
  have hD : va_D A [(q104, .inr (17, [.long 0, .null])), (q36, .inr (11, [.ref q37, .int 0])), (q38, .inr (11, [.ref q39, .int 0])), (q29, .inr (11, [.ref q30, .int 0])), (q35, .inr (8, [.ref q36, .ref q38, .ref q40])), (q40, .inr (11, [.ref q41, .int 0])), (q26, .inr (11, [.ref q27, .int 0])), (q7, .inl (cy8, 4960, .inl (upd ((fun _ => 0)) 0 0))), (q9, .inr (11, [.ref q10, .int 1])), (q10, .inl (cy11, 4960, .inl (upd ((fun _ => 0)) 0 0))), (q12, .inr (11, [.ref q13, .int 1])), (q13, .inl (cy14, 4960, .inl (upd ((fun _ => 0)) 0 0))), (q15, .inr (11, [.ref q16, .int 1])), (q16, .inl (cy17, 4960, .inl (upd ((fun _ => 0)) 0 0))), (q18, .inr (11, [.ref q19, .int 1])), (q19, .inl (cy20, 4960, .inl (upd ((fun _ => 0)) 0 1))), (q21, .inr (11, [.ref q22, .int 1])), (q22, .inl (cy23, 4960, .inl (upd ((fun _ => 0)) 0 1))), (q6, .inr (11, [.ref q7, .int 1])), (q1, .inr (16, [.ref q2, .ref q29, .ref q32, .ref q35, .ref q42, .ref q57, .ref q58, .ref q59, .ref q61, .ref q64, .ref q83, .int 20, .int 60, .int 0, .int 0, .int 1])), (q2, .inr (10, [.ref q3, .ref q6, .ref q9, .ref q12, .ref q15, .ref q18, .ref q21, .ref q24, .ref q26])), (q4, .inl (cy5, 80, .inl (upd ((fun _ => 0)) 0 0))), (q3, .inr (11, [.ref q4, .int 1])), (q1001, .inr (20, [.ref (g 34), .int 0])), (q1002, .inr (6, [.int 0, .ref (g 0), .int 0])), (q1005, .inr (5, [.int 0, .int (-1), .int 0, .ref q1004])), (q1006, .inr (5, [.int 0, .int (-1), .int 0, .ref q1004])), (q1004, .inr (6, [.int 0, .ref (g 0), .int 0])), (q102, .inr (23, [.int 0, .ref q103, .int 20, .int 60, .ref (g 34), .null, .int 0, .int 0, .int 1])), (q1003, .inr (18, [.int 0, .ref (g 34), .int 0, .ref q1004])), (q1007, .inl (cy1008, 10, .inr (.inr (.inr (.inr (va_up (fun _ => none) 0 (some q1003))))))), (q103, .inr (6, [.int 1, .ref q1007, .int 1]))] := hD
  have hK : va_K (dC, dI) vwCl [(cy8, .int), (cy11, .int), (cy14, .int), (cy17, .int), (cy20, .int), (cy23, .int), (cy5, .int), (cy1008, .object "java/lang/Object")] s := hK
  refine W.widen (k := 177) (n := 112449) (Nat.le_of_ble_eq_true rfl) (Nat.le_of_ble_eq_true rfl) ?_
  refine lv_istore (lv' := [(6, .int 0), (5, .int 0), (4, .int 0), (3, .ref q104), (2, .ref q102), (1, .ref q1), (0, .ref b)]) hx hb dL_law_908 hl (by decide) rfl (fun ls hl => ?_)
  refine lv_aload_n hx hb dL_law_910 rfl (lv_at hl 4 rfl) ?_
  have hPc := hP.sub (ws' := [(q102, .inr (23, [.int 0, .ref q103, .int 20, .int 60, .ref (g 34), .null, .int 0, .int 0, .int 1]))]) [28] rfl
  have hDc := hD.sub (ws' := [(q102, .inr (23, [.int 0, .ref q103, .int 20, .int 60, .ref (g 34), .null, .int 0, .int 0, .int 1]))]) [28] (by decide) rfl
  have hKc := hK.sub (tys' := []) [] rfl
  have hFc := va_free (wc := [(q102, .inr (23, [.int 0, .ref q103, .int 20, .int 60, .ref (g 34), .null, .int 0, .int 0, .int 1]))]) hD hS hA [28] rfl
  refine va_calli (va_runV (As := []) (rest := []) ⟨hx, hb, hml, hown, hts⟩ (kX16_thrown_2 l dC dI g H.size q102 (.ref q103) (.int 20) (.int 60) (.ref (g 34)) .null (.int 0) (.int 0) (.int 1) ) (cwV 0 hts (ns_gq (List.forall_mem_cons.mpr ⟨wm414, (List.forall_mem_cons.mpr ⟨wm415, (List.forall_mem_cons.mpr ⟨wm416, (List.forall_mem_cons.mpr ⟨wm192, (fun _ h9 => nomatch h9)⟩)⟩)⟩)⟩) wm246) rfl rfl rfl (by decide +kernel) ⟨Nat.le_of_ble_eq_true rfl, Nat.le_of_ble_eq_true rfl⟩) ⟨fun a U gg mk q => by obtain ⟨q0, q1, qP, qK, qD, qF⟩ := q; exact ⟨q0, q1, qP, va_K.moved (u := U) (U := U.calling gg mk a) (Vm.Alike.refl U.vm) qK, qD, ns_same qF⟩, va_recv hK hP (ci := 23) (q0 := 28) rfl rfl, fun U hU hW => ⟨rfl, by rw [hU], by rw [hU]; exact hPc, va_K.moved hW.alike hKc, hDc.weaken (fun _ _ _ _ => trivial), ns_call hF hS hFc hU hW⟩⟩ rfl rfl hl.1 rfl (lv_room (Nat.le_of_ble_eq_true rfl)) dL_law_911 ⟨Nat.le_of_ble_eq_true rfl, Nat.le_of_ble_eq_true rfl⟩) hS (fun q _ h => hFc q h) hFc (fun r9 u t H1 locs ht hvm hw hB hz1 hk1 hS => ?_)
  obtain rfl := hw.symm
  obtain ⟨hP1, hK1, hD1⟩ := hB
  rw [ht] at hP1
  have hK1 := va_K.moved hvm.symm hK1
  obtain ⟨hP, hD⟩ := va_join (wr := [(q104, .inr (17, [.long 0, .null])), (q36, .inr (11, [.ref q37, .int 0])), (q38, .inr (11, [.ref q39, .int 0])), (q29, .inr (11, [.ref q30, .int 0])), (q35, .inr (8, [.ref q36, .ref q38, .ref q40])), (q40, .inr (11, [.ref q41, .int 0])), (q26, .inr (11, [.ref q27, .int 0])), (q7, .inl (cy8, 4960, .inl (upd ((fun _ => 0)) 0 0))), (q9, .inr (11, [.ref q10, .int 1])), (q10, .inl (cy11, 4960, .inl (upd ((fun _ => 0)) 0 0))), (q12, .inr (11, [.ref q13, .int 1])), (q13, .inl (cy14, 4960, .inl (upd ((fun _ => 0)) 0 0))), (q15, .inr (11, [.ref q16, .int 1])), (q16, .inl (cy17, 4960, .inl (upd ((fun _ => 0)) 0 0))), (q18, .inr (11, [.ref q19, .int 1])), (q19, .inl (cy20, 4960, .inl (upd ((fun _ => 0)) 0 1))), (q21, .inr (11, [.ref q22, .int 1])), (q22, .inl (cy23, 4960, .inl (upd ((fun _ => 0)) 0 1))), (q6, .inr (11, [.ref q7, .int 1])), (q1, .inr (16, [.ref q2, .ref q29, .ref q32, .ref q35, .ref q42, .ref q57, .ref q58, .ref q59, .ref q61, .ref q64, .ref q83, .int 20, .int 60, .int 0, .int 0, .int 1])), (q2, .inr (10, [.ref q3, .ref q6, .ref q9, .ref q12, .ref q15, .ref q18, .ref q21, .ref q24, .ref q26])), (q4, .inl (cy5, 80, .inl (upd ((fun _ => 0)) 0 0))), (q3, .inr (11, [.ref q4, .int 1])), (q1001, .inr (20, [.ref (g 34), .int 0])), (q1002, .inr (6, [.int 0, .ref (g 0), .int 0])), (q1005, .inr (5, [.int 0, .int (-1), .int 0, .ref q1004])), (q1006, .inr (5, [.int 0, .int (-1), .int 0, .ref q1004])), (q1004, .inr (6, [.int 0, .ref (g 0), .int 0])), (q1003, .inr (18, [.int 0, .ref (g 34), .int 0, .ref q1004])), (q1007, .inl (cy1008, 10, .inr (.inr (.inr (.inr (va_up (fun _ => none) 0 (some q1003))))))), (q103, .inr (6, [.int 1, .ref q1007, .int 1]))]) (w1 := [(q102, .inr (23, [.int 0, .ref q103, .int 20, .int 60, .ref (g 34), .null, .int 0, .int 0, .int 1]))]) hP hD [28] [0, 1, 2, 3, 4, 5, 6, 7, 8, 9, 10, 11, 12, 13, 14, 15, 16, 17, 18, 19, 20, 21, 22, 23, 24, 25, 26, 27, 29, 30, 31] rfl rfl (by decide) (by decide) hk1 hFc hP1 hD1
  have hK := (hK.sub (tys' := [(cy8, .int), (cy11, .int), (cy14, .int), (cy17, .int), (cy20, .int), (cy23, .int), (cy5, .int), (cy1008, .object "java/lang/Object")]) [0, 1, 2, 3, 4, 5, 6, 7] rfl).app hK1
  generalize H1 = H at hP hS ⊢
  have hP : va_P (dC, dI) vwCl [(q104, .inr (17, [.long 0, .null])), (q36, .inr (11, [.ref q37, .int 0])), (q38, .inr (11, [.ref q39, .int 0])), (q29, .inr (11, [.ref q30, .int 0])), (q35, .inr (8, [.ref q36, .ref q38, .ref q40])), (q40, .inr (11, [.ref q41, .int 0])), (q26, .inr (11, [.ref q27, .int 0])), (q7, .inl (cy8, 4960, .inl (upd ((fun _ => 0)) 0 0))), (q9, .inr (11, [.ref q10, .int 1])), (q10, .inl (cy11, 4960, .inl (upd ((fun _ => 0)) 0 0))), (q12, .inr (11, [.ref q13, .int 1])), (q13, .inl (cy14, 4960, .inl (upd ((fun _ => 0)) 0 0))), (q15, .inr (11, [.ref q16, .int 1])), (q16, .inl (cy17, 4960, .inl (upd ((fun _ => 0)) 0 0))), (q18, .inr (11, [.ref q19, .int 1])), (q19, .inl (cy20, 4960, .inl (upd ((fun _ => 0)) 0 1))), (q21, .inr (11, [.ref q22, .int 1])), (q22, .inl (cy23, 4960, .inl (upd ((fun _ => 0)) 0 1))), (q6, .inr (11, [.ref q7, .int 1])), (q1, .inr (16, [.ref q2, .ref q29, .ref q32, .ref q35, .ref q42, .ref q57, .ref q58, .ref q59, .ref q61, .ref q64, .ref q83, .int 20, .int 60, .int 0, .int 0, .int 1])), (q2, .inr (10, [.ref q3, .ref q6, .ref q9, .ref q12, .ref q15, .ref q18, .ref q21, .ref q24, .ref q26])), (q4, .inl (cy5, 80, .inl (upd ((fun _ => 0)) 0 0))), (q3, .inr (11, [.ref q4, .int 1])), (q1001, .inr (20, [.ref (g 34), .int 0])), (q1002, .inr (6, [.int 0, .ref (g 0), .int 0])), (q1005, .inr (5, [.int 0, .int (-1), .int 0, .ref q1004])), (q1006, .inr (5, [.int 0, .int (-1), .int 0, .ref q1004])), (q1004, .inr (6, [.int 0, .ref (g 0), .int 0])), (q1003, .inr (18, [.int 0, .ref (g 34), .int 0, .ref q1004])), (q1007, .inl (cy1008, 10, .inr (.inr (.inr (.inr (va_up (fun _ => none) 0 (some q1003))))))), (q103, .inr (6, [.int 1, .ref q1007, .int 1])), (q102, .inr (23, [.int 0, .ref q103, .int 20, .int 60, .ref (g 34), .null, .int 0, .int 0, .int 1]))] H := hP
  have hD : va_D A [(q104, .inr (17, [.long 0, .null])), (q36, .inr (11, [.ref q37, .int 0])), (q38, .inr (11, [.ref q39, .int 0])), (q29, .inr (11, [.ref q30, .int 0])), (q35, .inr (8, [.ref q36, .ref q38, .ref q40])), (q40, .inr (11, [.ref q41, .int 0])), (q26, .inr (11, [.ref q27, .int 0])), (q7, .inl (cy8, 4960, .inl (upd ((fun _ => 0)) 0 0))), (q9, .inr (11, [.ref q10, .int 1])), (q10, .inl (cy11, 4960, .inl (upd ((fun _ => 0)) 0 0))), (q12, .inr (11, [.ref q13, .int 1])), (q13, .inl (cy14, 4960, .inl (upd ((fun _ => 0)) 0 0))), (q15, .inr (11, [.ref q16, .int 1])), (q16, .inl (cy17, 4960, .inl (upd ((fun _ => 0)) 0 0))), (q18, .inr (11, [.ref q19, .int 1])), (q19, .inl (cy20, 4960, .inl (upd ((fun _ => 0)) 0 1))), (q21, .inr (11, [.ref q22, .int 1])), (q22, .inl (cy23, 4960, .inl (upd ((fun _ => 0)) 0 1))), (q6, .inr (11, [.ref q7, .int 1])), (q1, .inr (16, [.ref q2, .ref q29, .ref q32, .ref q35, .ref q42, .ref q57, .ref q58, .ref q59, .ref q61, .ref q64, .ref q83, .int 20, .int 60, .int 0, .int 0, .int 1])), (q2, .inr (10, [.ref q3, .ref q6, .ref q9, .ref q12, .ref q15, .ref q18, .ref q21, .ref q24, .ref q26])), (q4, .inl (cy5, 80, .inl (upd ((fun _ => 0)) 0 0))), (q3, .inr (11, [.ref q4, .int 1])), (q1001, .inr (20, [.ref (g 34), .int 0])), (q1002, .inr (6, [.int 0, .ref (g 0), .int 0])), (q1005, .inr (5, [.int 0, .int (-1), .int 0, .ref q1004])), (q1006, .inr (5, [.int 0, .int (-1), .int 0, .ref q1004])), (q1004, .inr (6, [.int 0, .ref (g 0), .int 0])), (q1003, .inr (18, [.int 0, .ref (g 34), .int 0, .ref q1004])), (q1007, .inl (cy1008, 10, .inr (.inr (.inr (.inr (va_up (fun _ => none) 0 (some q1003))))))), (q103, .inr (6, [.int 1, .ref q1007, .int 1])), (q102, .inr (23, [.int 0, .ref q103, .int 20, .int 60, .ref (g 34), .null, .int 0, .int 0, .int 1]))] := hD
  have hK : va_K (dC, dI) vwCl [(cy8, .int), (cy11, .int), (cy14, .int), (cy17, .int), (cy20, .int), (cy23, .int), (cy5, .int), (cy1008, .object "java/lang/Object")] s := hK
  refine W.widen (k := 177) (n := 112449) (Nat.le_of_ble_eq_true rfl) (Nat.le_of_ble_eq_true rfl) ?_
  refine lv_iload hx hb dL_law_914 (lv_at hl 1 rfl) ?_
  refine lv_icmp_eq (tgt := 921) hx hb dL_law_916 (by decide) (fun c1009 => ?_) (fun c1009 => absurd (by decide) c1009)
  refine lv_iload hx hb dL_law_921 (lv_at hl 1 rfl) ?_
  refine lv_if_ne (tgt := 939) hx hb dL_law_923 (by decide) (fun c1010 => absurd (by decide) c1010) (fun c1010 => ?_)
  refine lv_aload_n hx hb dL_law_926 rfl (lv_at hl 3 rfl) ?_
  refine va_getN (D := (dC, dI)) (ci := 17) (v := .long 0) (C := RX10) (T := TX10) (N := 2) hx hb hta naX10 hown hK hP 0 rfl rfl 0 (by decide) (va_Nw.use rfl (ns_f7 hF)) (fun _ h9 => h9) rfl dL_law_927 ?_
  refine lv_iload hx hb dL_law_930 (lv_at hl 0 rfl) ?_
  refine lv_i2l (v := 0) hx hb dL_law_932 (by decide) ?_
  refine W.lcmp hx hb dL_law_933 ?_
  refine lv_topi (fun y1011 ey1011 => ?_)
  obtain rfl : y1011 = 0 := ey1011.trans (by decide)
  refine lv_if_eq (tgt := 939) hx hb dL_law_934 (by decide) (fun c1012 => ?_) (fun c1012 => absurd (by decide) c1012)
  refine lv_goto (tgt := 2216) hx hb dL_law_939 (by decide) ?_
  exact law_tail C0 hA hAx hS (lv_sub hl [2, 6] rfl) (Nat.le_of_ble_eq_true rfl) (Nat.le_of_ble_eq_true rfl)

set_option maxHeartbeats 4000000 in
set_option maxRecDepth 100000 in
theorem law_case12 {p : Program} {l : Launch} {e : Env} {s : State} {m : MethodId} {below : List Frame} {meth : Method} {c : Code} {b : Nat} {xs : Nat → Int32} {dC : Nat → ClassId} {dI : Nat → Nat → Nat} {g : Nat → Nat} {A : Nat → Prop} {q1 : Nat} {q2 : Nat} {q3 : Nat} {q4 : Nat} {cy5 : ClassId} {q6 : Nat} {q7 : Nat} {cy8 : ClassId} {q9 : Nat} {q10 : Nat} {cy11 : ClassId} {q12 : Nat} {q13 : Nat} {cy14 : ClassId} {q15 : Nat} {q16 : Nat} {cy17 : ClassId} {q18 : Nat} {q19 : Nat} {cy20 : ClassId} {q21 : Nat} {q22 : Nat} {cy23 : ClassId} {q24 : Nat} {q25 : Nat} {q26 : Nat} {q27 : Nat} {cy28 : ClassId} {q29 : Nat} {q30 : Nat} {cy31 : ClassId} {q32 : Nat} {q33 : Nat} {cy34 : ClassId} {q35 : Nat} {q36 : Nat} {q37 : Nat} {q38 : Nat} {q39 : Nat} {q40 : Nat} {q41 : Nat} {q42 : Nat} {q43 : Nat} {q44 : Nat} {q45 : Nat} {q46 : Nat} {q47 : Nat} {q48 : Nat} {q49 : Nat} {q50 : Nat} {q51 : Nat} {q52 : Nat} {q53 : Nat} {q54 : Nat} {q55 : Nat} {q56 : Nat} {q57 : Nat} {q58 : Nat} {q59 : Nat} {q60 : Nat} {q61 : Nat} {q62 : Nat} {cy63 : ClassId} {q64 : Nat} {q65 : Nat} {q66 : Nat} {q67 : Nat} {q68 : Nat} {q69 : Nat} {q70 : Nat} {q71 : Nat} {q72 : Nat} {q73 : Nat} {q74 : Nat} {q75 : Nat} {q76 : Nat} {q77 : Nat} {q78 : Nat} {q79 : Nat} {q80 : Nat} {q81 : Nat} {q82 : Nat} {q83 : Nat} {q84 : Nat} {q85 : Nat} {q86 : Nat} {q87 : Nat} {q88 : Nat} {q89 : Nat} {q90 : Nat} {q91 : Nat} {q92 : Nat} {q93 : Nat} {q94 : Nat} {q95 : Nat} {q96 : Nat} {q97 : Nat} {q98 : Nat} {q99 : Nat} {q100 : Nat} {q101 : Nat} {q102 : Nat} {q103 : Nat} {q104 : Nat} {H : Heap} {locs : List Loc} {ls : Array Slot} (hlt : l.stackTraces = false) (C0 : lw_At p s m meth c b 7 xs) (hA : ∀ q : Nat, s.heap.size ≤ q → A q) (hAx : ∀ q : Nat, A q → s.heap.size ≤ q) (hF : ns_F g A s s.heap) (hK : va_K (dC, dI) vwCl [(cy5, .int), (cy8, .int), (cy11, .int), (cy14, .int), (cy17, .int), (cy20, .int), (cy23, .int), (cy28, .int), (cy31, .int), (cy34, .int), (cy63, .byte)] s) (hP : va_P (dC, dI) vwCl [(q1, .inr (16, [.ref q2, .ref q29, .ref q32, .ref q35, .ref q42, .ref q57, .ref q58, .ref q59, .ref q61, .ref q64, .ref q83, .int 20, .int 60, .int 0, .int 0, .int 0])), (q3, .inr (11, [.ref q4, .int 0])), (q4, .inl (cy5, 80, .inl (fun _ => 0))), (q6, .inr (11, [.ref q7, .int 0])), (q7, .inl (cy8, 4960, .inl (fun _ => 0))), (q9, .inr (11, [.ref q10, .int 0])), (q10, .inl (cy11, 4960, .inl (fun _ => 0))), (q12, .inr (11, [.ref q13, .int 0])), (q13, .inl (cy14, 4960, .inl (fun _ => 0))), (q15, .inr (11, [.ref q16, .int 0])), (q16, .inl (cy17, 4960, .inl (fun _ => 0))), (q18, .inr (11, [.ref q19, .int 0])), (q19, .inl (cy20, 4960, .inl (fun _ => 0))), (q21, .inr (11, [.ref q22, .int 0])), (q22, .inl (cy23, 4960, .inl (fun _ => 0))), (q24, .inr (11, [.ref q25, .int 0])), (q26, .inr (11, [.ref q27, .int 0])), (q27, .inl (cy28, 4960, .inl (fun _ => 0))), (q29, .inr (11, [.ref q30, .int 0])), (q30, .inl (cy31, 60, .inl (fun _ => 0))), (q32, .inr (11, [.ref q33, .int 0])), (q33, .inl (cy34, 6, .inl (fun _ => 0))), (q35, .inr (8, [.ref q36, .ref q38, .ref q40])), (q36, .inr (11, [.ref q37, .int 0])), (q38, .inr (11, [.ref q39, .int 0])), (q40, .inr (11, [.ref q41, .int 0])), (q42, .inr (7, [.ref q43, .ref q45, .ref q47, .ref q49, .ref q51, .ref q53, .ref q55, .int 0, .int 0, .int 0, .int 0])), (q43, .inr (11, [.ref q44, .int 0])), (q45, .inr (11, [.ref q46, .int 0])), (q47, .inr (11, [.ref q48, .int 0])), (q49, .inr (11, [.ref q50, .int 0])), (q51, .inr (11, [.ref q52, .int 0])), (q53, .inr (11, [.ref q54, .int 0])), (q55, .inr (11, [.ref q56, .int 0])), (q2, .inr (10, [.ref q3, .ref q6, .ref q9, .ref q12, .ref q15, .ref q18, .ref q21, .ref q24, .ref q26])), (q59, .inr (13, [.ref q2, .ref q42, .ref q57, .ref q58, .ref q60])), (q61, .inr (1, [.ref q62, .int 0, .int 0, .int 0])), (q62, .inl (cy63, 16, .inl (fun _ => 0))), (q64, .inr (14, [.ref q65, .ref q67, .ref q69, .ref q71, .ref q73, .ref q75, .ref q77, .ref q79, .ref q81, .int (-1)])), (q65, .inr (11, [.ref q66, .int 0])), (q67, .inr (11, [.ref q68, .int 0])), (q69, .inr (11, [.ref q70, .int 0])), (q71, .inr (11, [.ref q72, .int 0])), (q73, .inr (11, [.ref q74, .int 0])), (q75, .inr (11, [.ref q76, .int 0])), (q77, .inr (11, [.ref q78, .int 0])), (q79, .inr (11, [.ref q80, .int 0])), (q81, .inr (11, [.ref q82, .int 0])), (q83, .inr (14, [.ref q84, .ref q86, .ref q88, .ref q90, .ref q92, .ref q94, .ref q96, .ref q98, .ref q100, .int (-1)])), (q84, .inr (11, [.ref q85, .int 0])), (q86, .inr (11, [.ref q87, .int 0])), (q88, .inr (11, [.ref q89, .int 0])), (q90, .inr (11, [.ref q91, .int 0])), (q92, .inr (11, [.ref q93, .int 0])), (q94, .inr (11, [.ref q95, .int 0])), (q96, .inr (11, [.ref q97, .int 0])), (q98, .inr (11, [.ref q99, .int 0])), (q100, .inr (11, [.ref q101, .int 0])), (q102, .inr (23, [.int 0, .ref q103, .int 20, .int 60, .ref (g 34), .null, .int 0, .int 0, .int 0])), (q103, .inr (6, [.int 0, .ref (g 0), .int 0])), (q104, .inr (17, [.long 0, .null]))] H) (hD : va_D A [(q1, .inr (16, [.ref q2, .ref q29, .ref q32, .ref q35, .ref q42, .ref q57, .ref q58, .ref q59, .ref q61, .ref q64, .ref q83, .int 20, .int 60, .int 0, .int 0, .int 0])), (q3, .inr (11, [.ref q4, .int 0])), (q4, .inl (cy5, 80, .inl (fun _ => 0))), (q6, .inr (11, [.ref q7, .int 0])), (q7, .inl (cy8, 4960, .inl (fun _ => 0))), (q9, .inr (11, [.ref q10, .int 0])), (q10, .inl (cy11, 4960, .inl (fun _ => 0))), (q12, .inr (11, [.ref q13, .int 0])), (q13, .inl (cy14, 4960, .inl (fun _ => 0))), (q15, .inr (11, [.ref q16, .int 0])), (q16, .inl (cy17, 4960, .inl (fun _ => 0))), (q18, .inr (11, [.ref q19, .int 0])), (q19, .inl (cy20, 4960, .inl (fun _ => 0))), (q21, .inr (11, [.ref q22, .int 0])), (q22, .inl (cy23, 4960, .inl (fun _ => 0))), (q24, .inr (11, [.ref q25, .int 0])), (q26, .inr (11, [.ref q27, .int 0])), (q27, .inl (cy28, 4960, .inl (fun _ => 0))), (q29, .inr (11, [.ref q30, .int 0])), (q30, .inl (cy31, 60, .inl (fun _ => 0))), (q32, .inr (11, [.ref q33, .int 0])), (q33, .inl (cy34, 6, .inl (fun _ => 0))), (q35, .inr (8, [.ref q36, .ref q38, .ref q40])), (q36, .inr (11, [.ref q37, .int 0])), (q38, .inr (11, [.ref q39, .int 0])), (q40, .inr (11, [.ref q41, .int 0])), (q42, .inr (7, [.ref q43, .ref q45, .ref q47, .ref q49, .ref q51, .ref q53, .ref q55, .int 0, .int 0, .int 0, .int 0])), (q43, .inr (11, [.ref q44, .int 0])), (q45, .inr (11, [.ref q46, .int 0])), (q47, .inr (11, [.ref q48, .int 0])), (q49, .inr (11, [.ref q50, .int 0])), (q51, .inr (11, [.ref q52, .int 0])), (q53, .inr (11, [.ref q54, .int 0])), (q55, .inr (11, [.ref q56, .int 0])), (q2, .inr (10, [.ref q3, .ref q6, .ref q9, .ref q12, .ref q15, .ref q18, .ref q21, .ref q24, .ref q26])), (q59, .inr (13, [.ref q2, .ref q42, .ref q57, .ref q58, .ref q60])), (q61, .inr (1, [.ref q62, .int 0, .int 0, .int 0])), (q62, .inl (cy63, 16, .inl (fun _ => 0))), (q64, .inr (14, [.ref q65, .ref q67, .ref q69, .ref q71, .ref q73, .ref q75, .ref q77, .ref q79, .ref q81, .int (-1)])), (q65, .inr (11, [.ref q66, .int 0])), (q67, .inr (11, [.ref q68, .int 0])), (q69, .inr (11, [.ref q70, .int 0])), (q71, .inr (11, [.ref q72, .int 0])), (q73, .inr (11, [.ref q74, .int 0])), (q75, .inr (11, [.ref q76, .int 0])), (q77, .inr (11, [.ref q78, .int 0])), (q79, .inr (11, [.ref q80, .int 0])), (q81, .inr (11, [.ref q82, .int 0])), (q83, .inr (14, [.ref q84, .ref q86, .ref q88, .ref q90, .ref q92, .ref q94, .ref q96, .ref q98, .ref q100, .int (-1)])), (q84, .inr (11, [.ref q85, .int 0])), (q86, .inr (11, [.ref q87, .int 0])), (q88, .inr (11, [.ref q89, .int 0])), (q90, .inr (11, [.ref q91, .int 0])), (q92, .inr (11, [.ref q93, .int 0])), (q94, .inr (11, [.ref q95, .int 0])), (q96, .inr (11, [.ref q97, .int 0])), (q98, .inr (11, [.ref q99, .int 0])), (q100, .inr (11, [.ref q101, .int 0])), (q102, .inr (23, [.int 0, .ref q103, .int 20, .int 60, .ref (g 34), .null, .int 0, .int 0, .int 0])), (q103, .inr (6, [.int 0, .ref (g 0), .int 0])), (q104, .inr (17, [.long 0, .null]))]) (hS : va_S A s.heap H locs) (hl : lv_has ls 7 [(4, .int 0), (3, .ref q104), (2, .ref q102), (1, .ref q1), (0, .ref b)]) : W p l e room_1 s m #[Value.ref b] below meth c H locs 170 112419 (lw_Z below #[Value.ref b] s) (F0 m 942 ls []) := by
  obtain ⟨hx, hb, hr, hml, hown, hts0, hX, hbl, hlocks, hgv⟩ := id C0
  have hta : ∀ w ∈ wsALL, w.before #[Value.ref b] s = true := fun w h => hts0 w (wa_in w h)
  have hts := hta
  have hbA : ¬ A b := fun h => absurd (hAx b h) (Nat.not_le.mpr hbl)
  have hP := hP.sub (ws' := [(q1, .inr (16, [.ref q2, .ref q29, .ref q32, .ref q35, .ref q42, .ref q57, .ref q58, .ref q59, .ref q61, .ref q64, .ref q83, .int 20, .int 60, .int 0, .int 0, .int 0])), (q29, .inr (11, [.ref q30, .int 0])), (q42, .inr (7, [.ref q43, .ref q45, .ref q47, .ref q49, .ref q51, .ref q53, .ref q55, .int 0, .int 0, .int 0, .int 0])), (q43, .inr (11, [.ref q44, .int 0])), (q45, .inr (11, [.ref q46, .int 0])), (q47, .inr (11, [.ref q48, .int 0])), (q49, .inr (11, [.ref q50, .int 0])), (q51, .inr (11, [.ref q52, .int 0])), (q53, .inr (11, [.ref q54, .int 0])), (q55, .inr (11, [.ref q56, .int 0])), (q83, .inr (14, [.ref q84, .ref q86, .ref q88, .ref q90, .ref q92, .ref q94, .ref q96, .ref q98, .ref q100, .int (-1)])), (q84, .inr (11, [.ref q85, .int 0])), (q86, .inr (11, [.ref q87, .int 0])), (q88, .inr (11, [.ref q89, .int 0])), (q90, .inr (11, [.ref q91, .int 0])), (q92, .inr (11, [.ref q93, .int 0])), (q94, .inr (11, [.ref q95, .int 0])), (q96, .inr (11, [.ref q97, .int 0])), (q98, .inr (11, [.ref q99, .int 0])), (q100, .inr (11, [.ref q101, .int 0])), (q102, .inr (23, [.int 0, .ref q103, .int 20, .int 60, .ref (g 34), .null, .int 0, .int 0, .int 0]))]) [0, 18, 26, 27, 28, 29, 30, 31, 32, 33, 48, 49, 50, 51, 52, 53, 54, 55, 56, 57, 58] rfl
  have hD := hD.sub (ws' := [(q1, .inr (16, [.ref q2, .ref q29, .ref q32, .ref q35, .ref q42, .ref q57, .ref q58, .ref q59, .ref q61, .ref q64, .ref q83, .int 20, .int 60, .int 0, .int 0, .int 0])), (q29, .inr (11, [.ref q30, .int 0])), (q42, .inr (7, [.ref q43, .ref q45, .ref q47, .ref q49, .ref q51, .ref q53, .ref q55, .int 0, .int 0, .int 0, .int 0])), (q43, .inr (11, [.ref q44, .int 0])), (q45, .inr (11, [.ref q46, .int 0])), (q47, .inr (11, [.ref q48, .int 0])), (q49, .inr (11, [.ref q50, .int 0])), (q51, .inr (11, [.ref q52, .int 0])), (q53, .inr (11, [.ref q54, .int 0])), (q55, .inr (11, [.ref q56, .int 0])), (q83, .inr (14, [.ref q84, .ref q86, .ref q88, .ref q90, .ref q92, .ref q94, .ref q96, .ref q98, .ref q100, .int (-1)])), (q84, .inr (11, [.ref q85, .int 0])), (q86, .inr (11, [.ref q87, .int 0])), (q88, .inr (11, [.ref q89, .int 0])), (q90, .inr (11, [.ref q91, .int 0])), (q92, .inr (11, [.ref q93, .int 0])), (q94, .inr (11, [.ref q95, .int 0])), (q96, .inr (11, [.ref q97, .int 0])), (q98, .inr (11, [.ref q99, .int 0])), (q100, .inr (11, [.ref q101, .int 0])), (q102, .inr (23, [.int 0, .ref q103, .int 20, .int 60, .ref (g 34), .null, .int 0, .int 0, .int 0]))]) [0, 18, 26, 27, 28, 29, 30, 31, 32, 33, 48, 49, 50, 51, 52, 53, 54, 55, 56, 57, 58] (by decide) rfl
  have hK := hK.sub (tys' := []) [] rfl
  refine lv_aload_n hx hb dL_law_942 rfl (lv_at hl 3 rfl) ?_
  have hPc := hP.sub (ws' := [(q1, .inr (16, [.ref q2, .ref q29, .ref q32, .ref q35, .ref q42, .ref q57, .ref q58, .ref q59, .ref q61, .ref q64, .ref q83, .int 20, .int 60, .int 0, .int 0, .int 0])), (q42, .inr (7, [.ref q43, .ref q45, .ref q47, .ref q49, .ref q51, .ref q53, .ref q55, .int 0, .int 0, .int 0, .int 0])), (q83, .inr (14, [.ref q84, .ref q86, .ref q88, .ref q90, .ref q92, .ref q94, .ref q96, .ref q98, .ref q100, .int (-1)])), (q84, .inr (11, [.ref q85, .int 0])), (q86, .inr (11, [.ref q87, .int 0])), (q88, .inr (11, [.ref q89, .int 0])), (q90, .inr (11, [.ref q91, .int 0])), (q92, .inr (11, [.ref q93, .int 0])), (q94, .inr (11, [.ref q95, .int 0])), (q96, .inr (11, [.ref q97, .int 0])), (q98, .inr (11, [.ref q99, .int 0])), (q29, .inr (11, [.ref q30, .int 0])), (q100, .inr (11, [.ref q101, .int 0])), (q43, .inr (11, [.ref q44, .int 0])), (q45, .inr (11, [.ref q46, .int 0])), (q47, .inr (11, [.ref q48, .int 0])), (q49, .inr (11, [.ref q50, .int 0])), (q51, .inr (11, [.ref q52, .int 0])), (q53, .inr (11, [.ref q54, .int 0])), (q55, .inr (11, [.ref q56, .int 0]))]) [0, 2, 10, 11, 12, 13, 14, 15, 16, 17, 18, 1, 19, 3, 4, 5, 6, 7, 8, 9] rfl
  have hDc := hD.sub (ws' := [(q1, .inr (16, [.ref q2, .ref q29, .ref q32, .ref q35, .ref q42, .ref q57, .ref q58, .ref q59, .ref q61, .ref q64, .ref q83, .int 20, .int 60, .int 0, .int 0, .int 0])), (q42, .inr (7, [.ref q43, .ref q45, .ref q47, .ref q49, .ref q51, .ref q53, .ref q55, .int 0, .int 0, .int 0, .int 0])), (q83, .inr (14, [.ref q84, .ref q86, .ref q88, .ref q90, .ref q92, .ref q94, .ref q96, .ref q98, .ref q100, .int (-1)])), (q84, .inr (11, [.ref q85, .int 0])), (q86, .inr (11, [.ref q87, .int 0])), (q88, .inr (11, [.ref q89, .int 0])), (q90, .inr (11, [.ref q91, .int 0])), (q92, .inr (11, [.ref q93, .int 0])), (q94, .inr (11, [.ref q95, .int 0])), (q96, .inr (11, [.ref q97, .int 0])), (q98, .inr (11, [.ref q99, .int 0])), (q29, .inr (11, [.ref q30, .int 0])), (q100, .inr (11, [.ref q101, .int 0])), (q43, .inr (11, [.ref q44, .int 0])), (q45, .inr (11, [.ref q46, .int 0])), (q47, .inr (11, [.ref q48, .int 0])), (q49, .inr (11, [.ref q50, .int 0])), (q51, .inr (11, [.ref q52, .int 0])), (q53, .inr (11, [.ref q54, .int 0])), (q55, .inr (11, [.ref q56, .int 0]))]) [0, 2, 10, 11, 12, 13, 14, 15, 16, 17, 18, 1, 19, 3, 4, 5, 6, 7, 8, 9] (by decide) rfl
  have hKc := hK.sub (tys' := []) [] rfl
  have hFc := va_free (wc := [(q1, .inr (16, [.ref q2, .ref q29, .ref q32, .ref q35, .ref q42, .ref q57, .ref q58, .ref q59, .ref q61, .ref q64, .ref q83, .int 20, .int 60, .int 0, .int 0, .int 0])), (q42, .inr (7, [.ref q43, .ref q45, .ref q47, .ref q49, .ref q51, .ref q53, .ref q55, .int 0, .int 0, .int 0, .int 0])), (q83, .inr (14, [.ref q84, .ref q86, .ref q88, .ref q90, .ref q92, .ref q94, .ref q96, .ref q98, .ref q100, .int (-1)])), (q84, .inr (11, [.ref q85, .int 0])), (q86, .inr (11, [.ref q87, .int 0])), (q88, .inr (11, [.ref q89, .int 0])), (q90, .inr (11, [.ref q91, .int 0])), (q92, .inr (11, [.ref q93, .int 0])), (q94, .inr (11, [.ref q95, .int 0])), (q96, .inr (11, [.ref q97, .int 0])), (q98, .inr (11, [.ref q99, .int 0])), (q29, .inr (11, [.ref q30, .int 0])), (q100, .inr (11, [.ref q101, .int 0])), (q43, .inr (11, [.ref q44, .int 0])), (q45, .inr (11, [.ref q46, .int 0])), (q47, .inr (11, [.ref q48, .int 0])), (q49, .inr (11, [.ref q50, .int 0])), (q51, .inr (11, [.ref q52, .int 0])), (q53, .inr (11, [.ref q54, .int 0])), (q55, .inr (11, [.ref q56, .int 0]))]) hD hS hA [0, 2, 10, 11, 12, 13, 14, 15, 16, 17, 18, 1, 19, 3, 4, 5, 6, 7, 8, 9] rfl
  refine va_calli (va_runV (As := []) (rest := []) ⟨hx, hb, hml, hown, hts⟩ (kX9_code l dC dI g H.size q1 q42 q83 q84 q86 q88 q90 q92 q94 q96 q98 q29 q100 q43 q45 q47 q49 q51 q53 q55 (.ref q2) (.ref q32) (.ref q35) (.ref q57) (.ref q58) (.ref q59) (.ref q61) (.ref q64) (.int 20) (.int 60) (.int 0) (.int 0) (.int 0) (.int 0) (.int 0) (.int 0) (.int 0) (.int (-1)) (.ref q85) (.int 0) (.ref q87) (.int 0) (.ref q89) (.int 0) (.ref q91) (.int 0) (.ref q93) (.int 0) (.ref q95) (.int 0) (.ref q97) (.int 0) (.ref q99) (.int 0) (.ref q30) (.ref q101) (.int 0) (.ref q44) (.int 0) (.ref q46) (.int 0) (.ref q48) (.int 0) (.ref q50) (.int 0) (.ref q52) (.int 0) (.ref q54) (.int 0) (.ref q56) (.int 0) ) (cwV 0 hts (ns_gq (List.forall_mem_cons.mpr ⟨wm784, (List.forall_mem_cons.mpr ⟨wm785, (List.forall_mem_cons.mpr ⟨wm786, (List.forall_mem_cons.mpr ⟨wm2, (fun _ h9 => nomatch h9)⟩)⟩)⟩)⟩) wm775) rfl rfl rfl (by decide +kernel) ⟨Nat.le_of_ble_eq_true rfl, Nat.le_of_ble_eq_true rfl⟩) ⟨fun a U gg mk q => by obtain ⟨q0, q1, qP, qK, qD, qF⟩ := q; exact ⟨q0, q1, qP, va_K.moved (u := U) (U := U.calling gg mk a) (Vm.Alike.refl U.vm) qK, qD, ns_same qF⟩, va_recv hK hP (ci := 16) (q0 := 0) rfl rfl, fun U hU hW => ⟨rfl, by rw [hU], by rw [hU]; exact hPc, va_K.moved hW.alike hKc, hDc.weaken (fun _ _ _ _ => trivial), ns_call hF hS hFc hU hW⟩⟩ rfl rfl hl.1 rfl (lv_room (Nat.le_of_ble_eq_true rfl)) dL_law_943 ⟨Nat.le_of_ble_eq_true rfl, Nat.le_of_ble_eq_true rfl⟩) hS (fun q _ h => hFc q h) hFc (fun r9 u t H1 locs ht hvm hw hB hz1 hk1 hS => ?_)
  obtain rfl := hw.symm
  obtain ⟨hP1, hK1, hD1⟩ := hB
  rw [ht] at hP1
  have hK1 := va_K.moved hvm.symm hK1
  obtain ⟨hP, hD⟩ := va_join (wr := [(q102, .inr (23, [.int 0, .ref q103, .int 20, .int 60, .ref (g 34), .null, .int 0, .int 0, .int 0]))]) (w1 := [(q1, .inr (16, [.ref q2, .ref q29, .ref q32, .ref q35, .ref q42, .ref q57, .ref q58, .ref q59, .ref q61, .ref q64, .ref q83, .int 20, .int 60, .int 0, .int 0, .int 0])), (q83, .inr (14, [.ref q84, .ref q86, .ref q88, .ref q90, .ref q92, .ref q94, .ref q96, .ref q98, .ref q100, .int (-1)])), (q84, .inr (11, [.ref q85, .int 0])), (q86, .inr (11, [.ref q87, .int 0])), (q88, .inr (11, [.ref q89, .int 0])), (q90, .inr (11, [.ref q91, .int 0])), (q92, .inr (11, [.ref q93, .int 0])), (q94, .inr (11, [.ref q95, .int 0])), (q96, .inr (11, [.ref q97, .int 0])), (q98, .inr (11, [.ref q99, .int 0])), (q100, .inr (11, [.ref q101, .int 0])), (q45, .inr (11, [.ref q46, .int 0])), (q47, .inr (11, [.ref q48, .int 0])), (q49, .inr (11, [.ref q50, .int 0])), (q51, .inr (11, [.ref q52, .int 0])), (q53, .inr (11, [.ref q54, .int 0])), (q55, .inr (11, [.ref q56, .int 0])), (q43, .inr (11, [.ref q44, .int 0])), (q42, .inr (7, [.ref q43, .ref q45, .ref q47, .ref q49, .ref q51, .ref q53, .ref q55, .int 0, .int 0, .int 0, .int 0])), (q29, .inr (11, [.ref q30, .int 0]))]) hP hD [0, 2, 10, 11, 12, 13, 14, 15, 16, 17, 18, 1, 19, 3, 4, 5, 6, 7, 8, 9] [20] rfl rfl (by decide) (by decide) hk1 hFc hP1 hD1
  have hK := (hK.sub (tys' := []) [] rfl).app hK1
  generalize H1 = H at hP hS ⊢
  have hP : va_P (dC, dI) vwCl [(q102, .inr (23, [.int 0, .ref q103, .int 20, .int 60, .ref (g 34), .null, .int 0, .int 0, .int 0])), (q1, .inr (16, [.ref q2, .ref q29, .ref q32, .ref q35, .ref q42, .ref q57, .ref q58, .ref q59, .ref q61, .ref q64, .ref q83, .int 20, .int 60, .int 0, .int 0, .int 0])), (q83, .inr (14, [.ref q84, .ref q86, .ref q88, .ref q90, .ref q92, .ref q94, .ref q96, .ref q98, .ref q100, .int (-1)])), (q84, .inr (11, [.ref q85, .int 0])), (q86, .inr (11, [.ref q87, .int 0])), (q88, .inr (11, [.ref q89, .int 0])), (q90, .inr (11, [.ref q91, .int 0])), (q92, .inr (11, [.ref q93, .int 0])), (q94, .inr (11, [.ref q95, .int 0])), (q96, .inr (11, [.ref q97, .int 0])), (q98, .inr (11, [.ref q99, .int 0])), (q100, .inr (11, [.ref q101, .int 0])), (q45, .inr (11, [.ref q46, .int 0])), (q47, .inr (11, [.ref q48, .int 0])), (q49, .inr (11, [.ref q50, .int 0])), (q51, .inr (11, [.ref q52, .int 0])), (q53, .inr (11, [.ref q54, .int 0])), (q55, .inr (11, [.ref q56, .int 0])), (q43, .inr (11, [.ref q44, .int 0])), (q42, .inr (7, [.ref q43, .ref q45, .ref q47, .ref q49, .ref q51, .ref q53, .ref q55, .int 0, .int 0, .int 0, .int 0])), (q29, .inr (11, [.ref q30, .int 0]))] H := hP
  have hD : va_D A [(q102, .inr (23, [.int 0, .ref q103, .int 20, .int 60, .ref (g 34), .null, .int 0, .int 0, .int 0])), (q1, .inr (16, [.ref q2, .ref q29, .ref q32, .ref q35, .ref q42, .ref q57, .ref q58, .ref q59, .ref q61, .ref q64, .ref q83, .int 20, .int 60, .int 0, .int 0, .int 0])), (q83, .inr (14, [.ref q84, .ref q86, .ref q88, .ref q90, .ref q92, .ref q94, .ref q96, .ref q98, .ref q100, .int (-1)])), (q84, .inr (11, [.ref q85, .int 0])), (q86, .inr (11, [.ref q87, .int 0])), (q88, .inr (11, [.ref q89, .int 0])), (q90, .inr (11, [.ref q91, .int 0])), (q92, .inr (11, [.ref q93, .int 0])), (q94, .inr (11, [.ref q95, .int 0])), (q96, .inr (11, [.ref q97, .int 0])), (q98, .inr (11, [.ref q99, .int 0])), (q100, .inr (11, [.ref q101, .int 0])), (q45, .inr (11, [.ref q46, .int 0])), (q47, .inr (11, [.ref q48, .int 0])), (q49, .inr (11, [.ref q50, .int 0])), (q51, .inr (11, [.ref q52, .int 0])), (q53, .inr (11, [.ref q54, .int 0])), (q55, .inr (11, [.ref q56, .int 0])), (q43, .inr (11, [.ref q44, .int 0])), (q42, .inr (7, [.ref q43, .ref q45, .ref q47, .ref q49, .ref q51, .ref q53, .ref q55, .int 0, .int 0, .int 0, .int 0])), (q29, .inr (11, [.ref q30, .int 0]))] := hD
  have hK : va_K (dC, dI) vwCl [] s := hK
  refine W.widen (k := 170) (n := 112419) (Nat.le_of_ble_eq_true rfl) (Nat.le_of_ble_eq_true rfl) ?_
  refine lv_aload_n hx hb dL_law_946 rfl (lv_at hl 2 rfl) ?_
  have hPc := hP.sub (ws' := [(q102, .inr (23, [.int 0, .ref q103, .int 20, .int 60, .ref (g 34), .null, .int 0, .int 0, .int 0]))]) [0] rfl
  have hDc := hD.sub (ws' := [(q102, .inr (23, [.int 0, .ref q103, .int 20, .int 60, .ref (g 34), .null, .int 0, .int 0, .int 0]))]) [0] (by decide) rfl
  have hKc := hK.sub (tys' := []) [] rfl
  have hFc := va_free (wc := [(q102, .inr (23, [.int 0, .ref q103, .int 20, .int 60, .ref (g 34), .null, .int 0, .int 0, .int 0]))]) hD hS hA [0] rfl
  refine va_calli (va_runV (As := []) (rest := [.int (-1)]) ⟨hx, hb, hml, hown, hts⟩ (kX16_code l dC dI g H.size q102 (.int 0) (.ref q103) (.int 20) (.int 60) .null (.int 0) (.int 0) (.int 0) ) (cwV 0 hts (ns_gq (List.forall_mem_cons.mpr ⟨wm787, (List.forall_mem_cons.mpr ⟨wm788, (List.forall_mem_cons.mpr ⟨wm789, (List.forall_mem_cons.mpr ⟨wm192, (fun _ h9 => nomatch h9)⟩)⟩)⟩)⟩) wm783) rfl rfl rfl (by decide +kernel) ⟨Nat.le_of_ble_eq_true rfl, Nat.le_of_ble_eq_true rfl⟩) ⟨fun a U gg mk q => by obtain ⟨q0, q1, qP, qK, qD, qF⟩ := q; exact ⟨q0, q1, qP, va_K.moved (u := U) (U := U.calling gg mk a) (Vm.Alike.refl U.vm) qK, qD, ns_same qF⟩, va_recv hK hP (ci := 23) (q0 := 0) rfl rfl, fun U hU hW => ⟨rfl, by rw [hU], by rw [hU]; exact hPc, va_K.moved hW.alike hKc, hDc.weaken (fun _ _ _ _ => trivial), ns_call hF hS hFc hU hW⟩⟩ rfl rfl hl.1 rfl (lv_room (Nat.le_of_ble_eq_true rfl)) dL_law_947 ⟨Nat.le_of_ble_eq_true rfl, Nat.le_of_ble_eq_true rfl⟩) hS (fun q _ h => hFc q h) hFc (fun r9 u t H1 locs ht hvm hw hB hz1 hk1 hS => ?_)
  obtain rfl := hw.symm
  obtain ⟨hP1, hK1, hD1⟩ := hB
  rw [ht] at hP1
  have hK1 := va_K.moved hvm.symm hK1
  obtain ⟨hP, hD⟩ := va_join (wr := [(q1, .inr (16, [.ref q2, .ref q29, .ref q32, .ref q35, .ref q42, .ref q57, .ref q58, .ref q59, .ref q61, .ref q64, .ref q83, .int 20, .int 60, .int 0, .int 0, .int 0])), (q83, .inr (14, [.ref q84, .ref q86, .ref q88, .ref q90, .ref q92, .ref q94, .ref q96, .ref q98, .ref q100, .int (-1)])), (q84, .inr (11, [.ref q85, .int 0])), (q86, .inr (11, [.ref q87, .int 0])), (q88, .inr (11, [.ref q89, .int 0])), (q90, .inr (11, [.ref q91, .int 0])), (q92, .inr (11, [.ref q93, .int 0])), (q94, .inr (11, [.ref q95, .int 0])), (q96, .inr (11, [.ref q97, .int 0])), (q98, .inr (11, [.ref q99, .int 0])), (q100, .inr (11, [.ref q101, .int 0])), (q45, .inr (11, [.ref q46, .int 0])), (q47, .inr (11, [.ref q48, .int 0])), (q49, .inr (11, [.ref q50, .int 0])), (q51, .inr (11, [.ref q52, .int 0])), (q53, .inr (11, [.ref q54, .int 0])), (q55, .inr (11, [.ref q56, .int 0])), (q43, .inr (11, [.ref q44, .int 0])), (q42, .inr (7, [.ref q43, .ref q45, .ref q47, .ref q49, .ref q51, .ref q53, .ref q55, .int 0, .int 0, .int 0, .int 0])), (q29, .inr (11, [.ref q30, .int 0]))]) (w1 := [(q102, .inr (23, [.int 0, .ref q103, .int 20, .int 60, .ref (g 34), .null, .int 0, .int 0, .int 0]))]) hP hD [0] [1, 2, 3, 4, 5, 6, 7, 8, 9, 10, 11, 12, 13, 14, 15, 16, 17, 18, 19, 20] rfl rfl (by decide) (by decide) hk1 hFc hP1 hD1
  have hK := (hK.sub (tys' := []) [] rfl).app hK1
  generalize H1 = H at hP hS ⊢
  have hP : va_P (dC, dI) vwCl [(q1, .inr (16, [.ref q2, .ref q29, .ref q32, .ref q35, .ref q42, .ref q57, .ref q58, .ref q59, .ref q61, .ref q64, .ref q83, .int 20, .int 60, .int 0, .int 0, .int 0])), (q83, .inr (14, [.ref q84, .ref q86, .ref q88, .ref q90, .ref q92, .ref q94, .ref q96, .ref q98, .ref q100, .int (-1)])), (q84, .inr (11, [.ref q85, .int 0])), (q86, .inr (11, [.ref q87, .int 0])), (q88, .inr (11, [.ref q89, .int 0])), (q90, .inr (11, [.ref q91, .int 0])), (q92, .inr (11, [.ref q93, .int 0])), (q94, .inr (11, [.ref q95, .int 0])), (q96, .inr (11, [.ref q97, .int 0])), (q98, .inr (11, [.ref q99, .int 0])), (q100, .inr (11, [.ref q101, .int 0])), (q45, .inr (11, [.ref q46, .int 0])), (q47, .inr (11, [.ref q48, .int 0])), (q49, .inr (11, [.ref q50, .int 0])), (q51, .inr (11, [.ref q52, .int 0])), (q53, .inr (11, [.ref q54, .int 0])), (q55, .inr (11, [.ref q56, .int 0])), (q43, .inr (11, [.ref q44, .int 0])), (q42, .inr (7, [.ref q43, .ref q45, .ref q47, .ref q49, .ref q51, .ref q53, .ref q55, .int 0, .int 0, .int 0, .int 0])), (q29, .inr (11, [.ref q30, .int 0])), (q102, .inr (23, [.int 0, .ref q103, .int 20, .int 60, .ref (g 34), .null, .int 0, .int 0, .int 0]))] H := hP
  have hD : va_D A [(q1, .inr (16, [.ref q2, .ref q29, .ref q32, .ref q35, .ref q42, .ref q57, .ref q58, .ref q59, .ref q61, .ref q64, .ref q83, .int 20, .int 60, .int 0, .int 0, .int 0])), (q83, .inr (14, [.ref q84, .ref q86, .ref q88, .ref q90, .ref q92, .ref q94, .ref q96, .ref q98, .ref q100, .int (-1)])), (q84, .inr (11, [.ref q85, .int 0])), (q86, .inr (11, [.ref q87, .int 0])), (q88, .inr (11, [.ref q89, .int 0])), (q90, .inr (11, [.ref q91, .int 0])), (q92, .inr (11, [.ref q93, .int 0])), (q94, .inr (11, [.ref q95, .int 0])), (q96, .inr (11, [.ref q97, .int 0])), (q98, .inr (11, [.ref q99, .int 0])), (q100, .inr (11, [.ref q101, .int 0])), (q45, .inr (11, [.ref q46, .int 0])), (q47, .inr (11, [.ref q48, .int 0])), (q49, .inr (11, [.ref q50, .int 0])), (q51, .inr (11, [.ref q52, .int 0])), (q53, .inr (11, [.ref q54, .int 0])), (q55, .inr (11, [.ref q56, .int 0])), (q43, .inr (11, [.ref q44, .int 0])), (q42, .inr (7, [.ref q43, .ref q45, .ref q47, .ref q49, .ref q51, .ref q53, .ref q55, .int 0, .int 0, .int 0, .int 0])), (q29, .inr (11, [.ref q30, .int 0])), (q102, .inr (23, [.int 0, .ref q103, .int 20, .int 60, .ref (g 34), .null, .int 0, .int 0, .int 0]))] := hD
  have hK : va_K (dC, dI) vwCl [] s := hK
  refine W.widen (k := 170) (n := 112419) (Nat.le_of_ble_eq_true rfl) (Nat.le_of_ble_eq_true rfl) ?_
  refine lv_icmp_eq (tgt := 2216) hx hb dL_law_950 (by decide) (fun c1001 => ?_) (fun c1001 => absurd (by decide) c1001)
  exact law_tail C0 hA hAx hS (lv_sub hl [0, 4] rfl) (Nat.le_of_ble_eq_true rfl) (Nat.le_of_ble_eq_true rfl)

set_option maxHeartbeats 4000000 in
set_option maxRecDepth 100000 in
theorem law_case13 {p : Program} {l : Launch} {e : Env} {s : State} {m : MethodId} {below : List Frame} {meth : Method} {c : Code} {b : Nat} {xs : Nat → Int32} {dC : Nat → ClassId} {dI : Nat → Nat → Nat} {g : Nat → Nat} {A : Nat → Prop} {q1 : Nat} {q2 : Nat} {q3 : Nat} {q4 : Nat} {cy5 : ClassId} {q6 : Nat} {q7 : Nat} {cy8 : ClassId} {q9 : Nat} {q10 : Nat} {cy11 : ClassId} {q12 : Nat} {q13 : Nat} {cy14 : ClassId} {q15 : Nat} {q16 : Nat} {cy17 : ClassId} {q18 : Nat} {q19 : Nat} {cy20 : ClassId} {q21 : Nat} {q22 : Nat} {cy23 : ClassId} {q24 : Nat} {q25 : Nat} {q26 : Nat} {q27 : Nat} {cy28 : ClassId} {q29 : Nat} {q30 : Nat} {cy31 : ClassId} {q32 : Nat} {q33 : Nat} {cy34 : ClassId} {q35 : Nat} {q36 : Nat} {q37 : Nat} {q38 : Nat} {q39 : Nat} {q40 : Nat} {q41 : Nat} {q42 : Nat} {q43 : Nat} {q44 : Nat} {q45 : Nat} {q46 : Nat} {q47 : Nat} {q48 : Nat} {q49 : Nat} {q50 : Nat} {q51 : Nat} {q52 : Nat} {q53 : Nat} {q54 : Nat} {q55 : Nat} {q56 : Nat} {q57 : Nat} {q58 : Nat} {q59 : Nat} {q60 : Nat} {q61 : Nat} {q62 : Nat} {cy63 : ClassId} {q64 : Nat} {q65 : Nat} {q66 : Nat} {q67 : Nat} {q68 : Nat} {q69 : Nat} {q70 : Nat} {q71 : Nat} {q72 : Nat} {q73 : Nat} {q74 : Nat} {q75 : Nat} {q76 : Nat} {q77 : Nat} {q78 : Nat} {q79 : Nat} {q80 : Nat} {q81 : Nat} {q82 : Nat} {q83 : Nat} {q84 : Nat} {q85 : Nat} {q86 : Nat} {q87 : Nat} {q88 : Nat} {q89 : Nat} {q90 : Nat} {q91 : Nat} {q92 : Nat} {q93 : Nat} {q94 : Nat} {q95 : Nat} {q96 : Nat} {q97 : Nat} {q98 : Nat} {q99 : Nat} {q100 : Nat} {q101 : Nat} {q102 : Nat} {q103 : Nat} {q104 : Nat} {H : Heap} {locs : List Loc} {ls : Array Slot} (hlt : l.stackTraces = false) (C0 : lw_At p s m meth c b 7 xs) (hA : ∀ q : Nat, s.heap.size ≤ q → A q) (hAx : ∀ q : Nat, A q → s.heap.size ≤ q) (hF : ns_F g A s s.heap) (hK : va_K (dC, dI) vwCl [(cy5, .int), (cy8, .int), (cy11, .int), (cy14, .int), (cy17, .int), (cy20, .int), (cy23, .int), (cy28, .int), (cy31, .int), (cy34, .int), (cy63, .byte)] s) (hP : va_P (dC, dI) vwCl [(q1, .inr (16, [.ref q2, .ref q29, .ref q32, .ref q35, .ref q42, .ref q57, .ref q58, .ref q59, .ref q61, .ref q64, .ref q83, .int 20, .int 60, .int 0, .int 0, .int 0])), (q3, .inr (11, [.ref q4, .int 0])), (q4, .inl (cy5, 80, .inl (fun _ => 0))), (q6, .inr (11, [.ref q7, .int 0])), (q7, .inl (cy8, 4960, .inl (fun _ => 0))), (q9, .inr (11, [.ref q10, .int 0])), (q10, .inl (cy11, 4960, .inl (fun _ => 0))), (q12, .inr (11, [.ref q13, .int 0])), (q13, .inl (cy14, 4960, .inl (fun _ => 0))), (q15, .inr (11, [.ref q16, .int 0])), (q16, .inl (cy17, 4960, .inl (fun _ => 0))), (q18, .inr (11, [.ref q19, .int 0])), (q19, .inl (cy20, 4960, .inl (fun _ => 0))), (q21, .inr (11, [.ref q22, .int 0])), (q22, .inl (cy23, 4960, .inl (fun _ => 0))), (q24, .inr (11, [.ref q25, .int 0])), (q26, .inr (11, [.ref q27, .int 0])), (q27, .inl (cy28, 4960, .inl (fun _ => 0))), (q29, .inr (11, [.ref q30, .int 0])), (q30, .inl (cy31, 60, .inl (fun _ => 0))), (q32, .inr (11, [.ref q33, .int 0])), (q33, .inl (cy34, 6, .inl (fun _ => 0))), (q35, .inr (8, [.ref q36, .ref q38, .ref q40])), (q36, .inr (11, [.ref q37, .int 0])), (q38, .inr (11, [.ref q39, .int 0])), (q40, .inr (11, [.ref q41, .int 0])), (q42, .inr (7, [.ref q43, .ref q45, .ref q47, .ref q49, .ref q51, .ref q53, .ref q55, .int 0, .int 0, .int 0, .int 0])), (q43, .inr (11, [.ref q44, .int 0])), (q45, .inr (11, [.ref q46, .int 0])), (q47, .inr (11, [.ref q48, .int 0])), (q49, .inr (11, [.ref q50, .int 0])), (q51, .inr (11, [.ref q52, .int 0])), (q53, .inr (11, [.ref q54, .int 0])), (q55, .inr (11, [.ref q56, .int 0])), (q2, .inr (10, [.ref q3, .ref q6, .ref q9, .ref q12, .ref q15, .ref q18, .ref q21, .ref q24, .ref q26])), (q59, .inr (13, [.ref q2, .ref q42, .ref q57, .ref q58, .ref q60])), (q61, .inr (1, [.ref q62, .int 0, .int 0, .int 0])), (q62, .inl (cy63, 16, .inl (fun _ => 0))), (q64, .inr (14, [.ref q65, .ref q67, .ref q69, .ref q71, .ref q73, .ref q75, .ref q77, .ref q79, .ref q81, .int (-1)])), (q65, .inr (11, [.ref q66, .int 0])), (q67, .inr (11, [.ref q68, .int 0])), (q69, .inr (11, [.ref q70, .int 0])), (q71, .inr (11, [.ref q72, .int 0])), (q73, .inr (11, [.ref q74, .int 0])), (q75, .inr (11, [.ref q76, .int 0])), (q77, .inr (11, [.ref q78, .int 0])), (q79, .inr (11, [.ref q80, .int 0])), (q81, .inr (11, [.ref q82, .int 0])), (q83, .inr (14, [.ref q84, .ref q86, .ref q88, .ref q90, .ref q92, .ref q94, .ref q96, .ref q98, .ref q100, .int (-1)])), (q84, .inr (11, [.ref q85, .int 0])), (q86, .inr (11, [.ref q87, .int 0])), (q88, .inr (11, [.ref q89, .int 0])), (q90, .inr (11, [.ref q91, .int 0])), (q92, .inr (11, [.ref q93, .int 0])), (q94, .inr (11, [.ref q95, .int 0])), (q96, .inr (11, [.ref q97, .int 0])), (q98, .inr (11, [.ref q99, .int 0])), (q100, .inr (11, [.ref q101, .int 0])), (q102, .inr (23, [.int 0, .ref q103, .int 20, .int 60, .ref (g 34), .null, .int 0, .int 0, .int 0])), (q103, .inr (6, [.int 0, .ref (g 0), .int 0])), (q104, .inr (17, [.long 0, .null]))] H) (hD : va_D A [(q1, .inr (16, [.ref q2, .ref q29, .ref q32, .ref q35, .ref q42, .ref q57, .ref q58, .ref q59, .ref q61, .ref q64, .ref q83, .int 20, .int 60, .int 0, .int 0, .int 0])), (q3, .inr (11, [.ref q4, .int 0])), (q4, .inl (cy5, 80, .inl (fun _ => 0))), (q6, .inr (11, [.ref q7, .int 0])), (q7, .inl (cy8, 4960, .inl (fun _ => 0))), (q9, .inr (11, [.ref q10, .int 0])), (q10, .inl (cy11, 4960, .inl (fun _ => 0))), (q12, .inr (11, [.ref q13, .int 0])), (q13, .inl (cy14, 4960, .inl (fun _ => 0))), (q15, .inr (11, [.ref q16, .int 0])), (q16, .inl (cy17, 4960, .inl (fun _ => 0))), (q18, .inr (11, [.ref q19, .int 0])), (q19, .inl (cy20, 4960, .inl (fun _ => 0))), (q21, .inr (11, [.ref q22, .int 0])), (q22, .inl (cy23, 4960, .inl (fun _ => 0))), (q24, .inr (11, [.ref q25, .int 0])), (q26, .inr (11, [.ref q27, .int 0])), (q27, .inl (cy28, 4960, .inl (fun _ => 0))), (q29, .inr (11, [.ref q30, .int 0])), (q30, .inl (cy31, 60, .inl (fun _ => 0))), (q32, .inr (11, [.ref q33, .int 0])), (q33, .inl (cy34, 6, .inl (fun _ => 0))), (q35, .inr (8, [.ref q36, .ref q38, .ref q40])), (q36, .inr (11, [.ref q37, .int 0])), (q38, .inr (11, [.ref q39, .int 0])), (q40, .inr (11, [.ref q41, .int 0])), (q42, .inr (7, [.ref q43, .ref q45, .ref q47, .ref q49, .ref q51, .ref q53, .ref q55, .int 0, .int 0, .int 0, .int 0])), (q43, .inr (11, [.ref q44, .int 0])), (q45, .inr (11, [.ref q46, .int 0])), (q47, .inr (11, [.ref q48, .int 0])), (q49, .inr (11, [.ref q50, .int 0])), (q51, .inr (11, [.ref q52, .int 0])), (q53, .inr (11, [.ref q54, .int 0])), (q55, .inr (11, [.ref q56, .int 0])), (q2, .inr (10, [.ref q3, .ref q6, .ref q9, .ref q12, .ref q15, .ref q18, .ref q21, .ref q24, .ref q26])), (q59, .inr (13, [.ref q2, .ref q42, .ref q57, .ref q58, .ref q60])), (q61, .inr (1, [.ref q62, .int 0, .int 0, .int 0])), (q62, .inl (cy63, 16, .inl (fun _ => 0))), (q64, .inr (14, [.ref q65, .ref q67, .ref q69, .ref q71, .ref q73, .ref q75, .ref q77, .ref q79, .ref q81, .int (-1)])), (q65, .inr (11, [.ref q66, .int 0])), (q67, .inr (11, [.ref q68, .int 0])), (q69, .inr (11, [.ref q70, .int 0])), (q71, .inr (11, [.ref q72, .int 0])), (q73, .inr (11, [.ref q74, .int 0])), (q75, .inr (11, [.ref q76, .int 0])), (q77, .inr (11, [.ref q78, .int 0])), (q79, .inr (11, [.ref q80, .int 0])), (q81, .inr (11, [.ref q82, .int 0])), (q83, .inr (14, [.ref q84, .ref q86, .ref q88, .ref q90, .ref q92, .ref q94, .ref q96, .ref q98, .ref q100, .int (-1)])), (q84, .inr (11, [.ref q85, .int 0])), (q86, .inr (11, [.ref q87, .int 0])), (q88, .inr (11, [.ref q89, .int 0])), (q90, .inr (11, [.ref q91, .int 0])), (q92, .inr (11, [.ref q93, .int 0])), (q94, .inr (11, [.ref q95, .int 0])), (q96, .inr (11, [.ref q97, .int 0])), (q98, .inr (11, [.ref q99, .int 0])), (q100, .inr (11, [.ref q101, .int 0])), (q102, .inr (23, [.int 0, .ref q103, .int 20, .int 60, .ref (g 34), .null, .int 0, .int 0, .int 0])), (q103, .inr (6, [.int 0, .ref (g 0), .int 0])), (q104, .inr (17, [.long 0, .null]))]) (hS : va_S A s.heap H locs) (hl : lv_has ls 7 [(4, .int 0), (3, .ref q104), (2, .ref q102), (1, .ref q1), (0, .ref b)]) : W p l e room_1 s m #[Value.ref b] below meth c H locs 170 112419 (lw_Z below #[Value.ref b] s) (F0 m 955 ls []) := by
  obtain ⟨hx, hb, hr, hml, hown, hts0, hX, hbl, hlocks, hgv⟩ := id C0
  have hta : ∀ w ∈ wsALL, w.before #[Value.ref b] s = true := fun w h => hts0 w (wa_in w h)
  have hts := hta
  have hbA : ¬ A b := fun h => absurd (hAx b h) (Nat.not_le.mpr hbl)
  have hP := hP.sub (ws' := [(q1, .inr (16, [.ref q2, .ref q29, .ref q32, .ref q35, .ref q42, .ref q57, .ref q58, .ref q59, .ref q61, .ref q64, .ref q83, .int 20, .int 60, .int 0, .int 0, .int 0])), (q102, .inr (23, [.int 0, .ref q103, .int 20, .int 60, .ref (g 34), .null, .int 0, .int 0, .int 0]))]) [0, 58] rfl
  have hD := hD.sub (ws' := [(q1, .inr (16, [.ref q2, .ref q29, .ref q32, .ref q35, .ref q42, .ref q57, .ref q58, .ref q59, .ref q61, .ref q64, .ref q83, .int 20, .int 60, .int 0, .int 0, .int 0])), (q102, .inr (23, [.int 0, .ref q103, .int 20, .int 60, .ref (g 34), .null, .int 0, .int 0, .int 0]))]) [0, 58] (by decide) rfl
  have hK := hK.sub (tys' := []) [] rfl
  refine lv_aload_n hx hb dL_law_955 rfl (lv_at hl 3 rfl) ?_
  have hPc := hP.sub (ws' := [(q1, .inr (16, [.ref q2, .ref q29, .ref q32, .ref q35, .ref q42, .ref q57, .ref q58, .ref q59, .ref q61, .ref q64, .ref q83, .int 20, .int 60, .int 0, .int 0, .int 0]))]) [0] rfl
  have hDc := hD.sub (ws' := [(q1, .inr (16, [.ref q2, .ref q29, .ref q32, .ref q35, .ref q42, .ref q57, .ref q58, .ref q59, .ref q61, .ref q64, .ref q83, .int 20, .int 60, .int 0, .int 0, .int 0]))]) [0] (by decide) rfl
  have hKc := hK.sub (tys' := []) [] rfl
  have hFc := va_free (wc := [(q1, .inr (16, [.ref q2, .ref q29, .ref q32, .ref q35, .ref q42, .ref q57, .ref q58, .ref q59, .ref q61, .ref q64, .ref q83, .int 20, .int 60, .int 0, .int 0, .int 0]))]) hD hS hA [0] rfl
  refine va_calli (va_runV (As := []) (rest := []) ⟨hx, hb, hml, hown, hts⟩ (kX9_blank l dC dI g H.size q1 (.ref q2) (.ref q29) (.ref q32) (.ref q35) (.ref q42) (.ref q57) (.ref q58) (.ref q59) (.ref q61) (.ref q64) (.ref q83) (.int 20) (.int 60) (.int 0) (.int 0) ) (cwV 0 hts (ns_gq (List.forall_mem_cons.mpr ⟨wm793, (List.forall_mem_cons.mpr ⟨wm794, (List.forall_mem_cons.mpr ⟨wm795, (List.forall_mem_cons.mpr ⟨wm2, (fun _ h9 => nomatch h9)⟩)⟩)⟩)⟩) wm790) rfl rfl rfl (by decide +kernel) ⟨Nat.le_of_ble_eq_true rfl, Nat.le_of_ble_eq_true rfl⟩) ⟨fun a U gg mk q => by obtain ⟨q0, q1, qP, qK, qD, qF⟩ := q; exact ⟨q0, q1, qP, va_K.moved (u := U) (U := U.calling gg mk a) (Vm.Alike.refl U.vm) qK, qD, ns_same qF⟩, va_recv hK hP (ci := 16) (q0 := 0) rfl rfl, fun U hU hW => ⟨rfl, by rw [hU], by rw [hU]; exact hPc, va_K.moved hW.alike hKc, hDc.weaken (fun _ _ _ _ => trivial), ns_call hF hS hFc hU hW⟩⟩ rfl rfl hl.1 rfl (lv_room (Nat.le_of_ble_eq_true rfl)) dL_law_956 ⟨Nat.le_of_ble_eq_true rfl, Nat.le_of_ble_eq_true rfl⟩) hS (fun q _ h => hFc q h) hFc (fun r9 u t H1 locs ht hvm hw hB hz1 hk1 hS => ?_)
  obtain rfl := hw.symm
  obtain ⟨hP1, hK1, hD1⟩ := hB
  rw [ht] at hP1
  have hK1 := va_K.moved hvm.symm hK1
  obtain ⟨hP, hD⟩ := va_join (wr := [(q102, .inr (23, [.int 0, .ref q103, .int 20, .int 60, .ref (g 34), .null, .int 0, .int 0, .int 0]))]) (w1 := [(q1, .inr (16, [.ref q2, .ref q29, .ref q32, .ref q35, .ref q42, .ref q57, .ref q58, .ref q59, .ref q61, .ref q64, .ref q83, .int 20, .int 60, .int 1, .int 0, .int 0]))]) hP hD [0] [1] rfl rfl (by decide) (by decide) hk1 hFc hP1 hD1
  have hK := (hK.sub (tys' := []) [] rfl).app hK1
  generalize H1 = H at hP hS ⊢
  have hP : va_P (dC, dI) vwCl [(q102, .inr (23, [.int 0, .ref q103, .int 20, .int 60, .ref (g 34), .null, .int 0, .int 0, .int 0])), (q1, .inr (16, [.ref q2, .ref q29, .ref q32, .ref q35, .ref q42, .ref q57, .ref q58, .ref q59, .ref q61, .ref q64, .ref q83, .int 20, .int 60, .int 1, .int 0, .int 0]))] H := hP
  have hD : va_D A [(q102, .inr (23, [.int 0, .ref q103, .int 20, .int 60, .ref (g 34), .null, .int 0, .int 0, .int 0])), (q1, .inr (16, [.ref q2, .ref q29, .ref q32, .ref q35, .ref q42, .ref q57, .ref q58, .ref q59, .ref q61, .ref q64, .ref q83, .int 20, .int 60, .int 1, .int 0, .int 0]))] := hD
  have hK : va_K (dC, dI) vwCl [] s := hK
  refine W.widen (k := 170) (n := 112419) (Nat.le_of_ble_eq_true rfl) (Nat.le_of_ble_eq_true rfl) ?_
  refine lv_aload_n hx hb dL_law_959 rfl (lv_at hl 2 rfl) ?_
  have hPc := hP.sub (ws' := [(q102, .inr (23, [.int 0, .ref q103, .int 20, .int 60, .ref (g 34), .null, .int 0, .int 0, .int 0]))]) [0] rfl
  have hDc := hD.sub (ws' := [(q102, .inr (23, [.int 0, .ref q103, .int 20, .int 60, .ref (g 34), .null, .int 0, .int 0, .int 0]))]) [0] (by decide) rfl
  have hKc := hK.sub (tys' := []) [] rfl
  have hFc := va_free (wc := [(q102, .inr (23, [.int 0, .ref q103, .int 20, .int 60, .ref (g 34), .null, .int 0, .int 0, .int 0]))]) hD hS hA [0] rfl
  refine va_calli (va_runV (As := []) (rest := [.int (-9)]) ⟨hx, hb, hml, hown, hts⟩ (kX16_blank l dC dI g H.size q102 (.int 0) (.ref q103) (.int 20) (.int 60) (.ref (g 34)) .null (.int 0) (.int 0) ) (cwV 0 hts (ns_gq (List.forall_mem_cons.mpr ⟨wm796, (List.forall_mem_cons.mpr ⟨wm797, (List.forall_mem_cons.mpr ⟨wm798, (List.forall_mem_cons.mpr ⟨wm192, (fun _ h9 => nomatch h9)⟩)⟩)⟩)⟩) wm792) rfl rfl rfl (by decide +kernel) ⟨Nat.le_of_ble_eq_true rfl, Nat.le_of_ble_eq_true rfl⟩) ⟨fun a U gg mk q => by obtain ⟨q0, q1, qP, qK, qD, qF⟩ := q; exact ⟨q0, q1, qP, va_K.moved (u := U) (U := U.calling gg mk a) (Vm.Alike.refl U.vm) qK, qD, ns_same qF⟩, va_recv hK hP (ci := 23) (q0 := 0) rfl rfl, fun U hU hW => ⟨rfl, by rw [hU], by rw [hU]; exact hPc, va_K.moved hW.alike hKc, hDc.weaken (fun _ _ _ _ => trivial), ns_call hF hS hFc hU hW⟩⟩ rfl rfl hl.1 rfl (lv_room (Nat.le_of_ble_eq_true rfl)) dL_law_960 ⟨Nat.le_of_ble_eq_true rfl, Nat.le_of_ble_eq_true rfl⟩) hS (fun q _ h => hFc q h) hFc (fun r9 u t H1 locs ht hvm hw hB hz1 hk1 hS => ?_)
  obtain rfl := hw.symm
  obtain ⟨hP1, hK1, hD1⟩ := hB
  rw [ht] at hP1
  have hK1 := va_K.moved hvm.symm hK1
  obtain ⟨hP, hD⟩ := va_join (wr := [(q1, .inr (16, [.ref q2, .ref q29, .ref q32, .ref q35, .ref q42, .ref q57, .ref q58, .ref q59, .ref q61, .ref q64, .ref q83, .int 20, .int 60, .int 1, .int 0, .int 0]))]) (w1 := [(q102, .inr (23, [.int 0, .ref q103, .int 20, .int 60, .ref (g 34), .null, .int 1, .int 0, .int 0]))]) hP hD [0] [1] rfl rfl (by decide) (by decide) hk1 hFc hP1 hD1
  have hK := (hK.sub (tys' := []) [] rfl).app hK1
  generalize H1 = H at hP hS ⊢
  have hP : va_P (dC, dI) vwCl [(q1, .inr (16, [.ref q2, .ref q29, .ref q32, .ref q35, .ref q42, .ref q57, .ref q58, .ref q59, .ref q61, .ref q64, .ref q83, .int 20, .int 60, .int 1, .int 0, .int 0])), (q102, .inr (23, [.int 0, .ref q103, .int 20, .int 60, .ref (g 34), .null, .int 1, .int 0, .int 0]))] H := hP
  have hD : va_D A [(q1, .inr (16, [.ref q2, .ref q29, .ref q32, .ref q35, .ref q42, .ref q57, .ref q58, .ref q59, .ref q61, .ref q64, .ref q83, .int 20, .int 60, .int 1, .int 0, .int 0])), (q102, .inr (23, [.int 0, .ref q103, .int 20, .int 60, .ref (g 34), .null, .int 1, .int 0, .int 0]))] := hD
  have hK : va_K (dC, dI) vwCl [] s := hK
  refine W.widen (k := 170) (n := 112419) (Nat.le_of_ble_eq_true rfl) (Nat.le_of_ble_eq_true rfl) ?_
  refine lv_icmp_eq (tgt := 2216) hx hb dL_law_963 (by decide) (fun c1001 => ?_) (fun c1001 => absurd (by decide) c1001)
  exact law_tail C0 hA hAx hS (lv_sub hl [0, 4] rfl) (Nat.le_of_ble_eq_true rfl) (Nat.le_of_ble_eq_true rfl)

set_option maxHeartbeats 4000000 in
set_option maxRecDepth 100000 in
theorem law_case14 {p : Program} {l : Launch} {e : Env} {s : State} {m : MethodId} {below : List Frame} {meth : Method} {c : Code} {b : Nat} {xs : Nat → Int32} {dC : Nat → ClassId} {dI : Nat → Nat → Nat} {g : Nat → Nat} {A : Nat → Prop} {q1 : Nat} {q2 : Nat} {q3 : Nat} {q4 : Nat} {cy5 : ClassId} {q6 : Nat} {q7 : Nat} {cy8 : ClassId} {q9 : Nat} {q10 : Nat} {cy11 : ClassId} {q12 : Nat} {q13 : Nat} {cy14 : ClassId} {q15 : Nat} {q16 : Nat} {cy17 : ClassId} {q18 : Nat} {q19 : Nat} {cy20 : ClassId} {q21 : Nat} {q22 : Nat} {cy23 : ClassId} {q24 : Nat} {q25 : Nat} {q26 : Nat} {q27 : Nat} {cy28 : ClassId} {q29 : Nat} {q30 : Nat} {cy31 : ClassId} {q32 : Nat} {q33 : Nat} {cy34 : ClassId} {q35 : Nat} {q36 : Nat} {q37 : Nat} {q38 : Nat} {q39 : Nat} {q40 : Nat} {q41 : Nat} {q42 : Nat} {q43 : Nat} {q44 : Nat} {q45 : Nat} {q46 : Nat} {q47 : Nat} {q48 : Nat} {q49 : Nat} {q50 : Nat} {q51 : Nat} {q52 : Nat} {q53 : Nat} {q54 : Nat} {q55 : Nat} {q56 : Nat} {q57 : Nat} {q58 : Nat} {q59 : Nat} {q60 : Nat} {q61 : Nat} {q62 : Nat} {cy63 : ClassId} {q64 : Nat} {q65 : Nat} {q66 : Nat} {q67 : Nat} {q68 : Nat} {q69 : Nat} {q70 : Nat} {q71 : Nat} {q72 : Nat} {q73 : Nat} {q74 : Nat} {q75 : Nat} {q76 : Nat} {q77 : Nat} {q78 : Nat} {q79 : Nat} {q80 : Nat} {q81 : Nat} {q82 : Nat} {q83 : Nat} {q84 : Nat} {q85 : Nat} {q86 : Nat} {q87 : Nat} {q88 : Nat} {q89 : Nat} {q90 : Nat} {q91 : Nat} {q92 : Nat} {q93 : Nat} {q94 : Nat} {q95 : Nat} {q96 : Nat} {q97 : Nat} {q98 : Nat} {q99 : Nat} {q100 : Nat} {q101 : Nat} {q102 : Nat} {q103 : Nat} {q104 : Nat} {H : Heap} {locs : List Loc} {ls : Array Slot} (hlt : l.stackTraces = false) (C0 : lw_At p s m meth c b 7 xs) (hA : ∀ q : Nat, s.heap.size ≤ q → A q) (hAx : ∀ q : Nat, A q → s.heap.size ≤ q) (hF : ns_F g A s s.heap) (hK : va_K (dC, dI) vwCl [(cy5, .int), (cy8, .int), (cy11, .int), (cy14, .int), (cy17, .int), (cy20, .int), (cy23, .int), (cy28, .int), (cy31, .int), (cy34, .int), (cy63, .byte)] s) (hP : va_P (dC, dI) vwCl [(q1, .inr (16, [.ref q2, .ref q29, .ref q32, .ref q35, .ref q42, .ref q57, .ref q58, .ref q59, .ref q61, .ref q64, .ref q83, .int 20, .int 60, .int 0, .int 0, .int 0])), (q3, .inr (11, [.ref q4, .int 0])), (q4, .inl (cy5, 80, .inl (fun _ => 0))), (q6, .inr (11, [.ref q7, .int 0])), (q7, .inl (cy8, 4960, .inl (fun _ => 0))), (q9, .inr (11, [.ref q10, .int 0])), (q10, .inl (cy11, 4960, .inl (fun _ => 0))), (q12, .inr (11, [.ref q13, .int 0])), (q13, .inl (cy14, 4960, .inl (fun _ => 0))), (q15, .inr (11, [.ref q16, .int 0])), (q16, .inl (cy17, 4960, .inl (fun _ => 0))), (q18, .inr (11, [.ref q19, .int 0])), (q19, .inl (cy20, 4960, .inl (fun _ => 0))), (q21, .inr (11, [.ref q22, .int 0])), (q22, .inl (cy23, 4960, .inl (fun _ => 0))), (q24, .inr (11, [.ref q25, .int 0])), (q26, .inr (11, [.ref q27, .int 0])), (q27, .inl (cy28, 4960, .inl (fun _ => 0))), (q29, .inr (11, [.ref q30, .int 0])), (q30, .inl (cy31, 60, .inl (fun _ => 0))), (q32, .inr (11, [.ref q33, .int 0])), (q33, .inl (cy34, 6, .inl (fun _ => 0))), (q35, .inr (8, [.ref q36, .ref q38, .ref q40])), (q36, .inr (11, [.ref q37, .int 0])), (q38, .inr (11, [.ref q39, .int 0])), (q40, .inr (11, [.ref q41, .int 0])), (q42, .inr (7, [.ref q43, .ref q45, .ref q47, .ref q49, .ref q51, .ref q53, .ref q55, .int 0, .int 0, .int 0, .int 0])), (q43, .inr (11, [.ref q44, .int 0])), (q45, .inr (11, [.ref q46, .int 0])), (q47, .inr (11, [.ref q48, .int 0])), (q49, .inr (11, [.ref q50, .int 0])), (q51, .inr (11, [.ref q52, .int 0])), (q53, .inr (11, [.ref q54, .int 0])), (q55, .inr (11, [.ref q56, .int 0])), (q2, .inr (10, [.ref q3, .ref q6, .ref q9, .ref q12, .ref q15, .ref q18, .ref q21, .ref q24, .ref q26])), (q59, .inr (13, [.ref q2, .ref q42, .ref q57, .ref q58, .ref q60])), (q61, .inr (1, [.ref q62, .int 0, .int 0, .int 0])), (q62, .inl (cy63, 16, .inl (fun _ => 0))), (q64, .inr (14, [.ref q65, .ref q67, .ref q69, .ref q71, .ref q73, .ref q75, .ref q77, .ref q79, .ref q81, .int (-1)])), (q65, .inr (11, [.ref q66, .int 0])), (q67, .inr (11, [.ref q68, .int 0])), (q69, .inr (11, [.ref q70, .int 0])), (q71, .inr (11, [.ref q72, .int 0])), (q73, .inr (11, [.ref q74, .int 0])), (q75, .inr (11, [.ref q76, .int 0])), (q77, .inr (11, [.ref q78, .int 0])), (q79, .inr (11, [.ref q80, .int 0])), (q81, .inr (11, [.ref q82, .int 0])), (q83, .inr (14, [.ref q84, .ref q86, .ref q88, .ref q90, .ref q92, .ref q94, .ref q96, .ref q98, .ref q100, .int (-1)])), (q84, .inr (11, [.ref q85, .int 0])), (q86, .inr (11, [.ref q87, .int 0])), (q88, .inr (11, [.ref q89, .int 0])), (q90, .inr (11, [.ref q91, .int 0])), (q92, .inr (11, [.ref q93, .int 0])), (q94, .inr (11, [.ref q95, .int 0])), (q96, .inr (11, [.ref q97, .int 0])), (q98, .inr (11, [.ref q99, .int 0])), (q100, .inr (11, [.ref q101, .int 0])), (q102, .inr (23, [.int 0, .ref q103, .int 20, .int 60, .ref (g 34), .null, .int 0, .int 0, .int 0])), (q103, .inr (6, [.int 0, .ref (g 0), .int 0])), (q104, .inr (17, [.long 0, .null]))] H) (hD : va_D A [(q1, .inr (16, [.ref q2, .ref q29, .ref q32, .ref q35, .ref q42, .ref q57, .ref q58, .ref q59, .ref q61, .ref q64, .ref q83, .int 20, .int 60, .int 0, .int 0, .int 0])), (q3, .inr (11, [.ref q4, .int 0])), (q4, .inl (cy5, 80, .inl (fun _ => 0))), (q6, .inr (11, [.ref q7, .int 0])), (q7, .inl (cy8, 4960, .inl (fun _ => 0))), (q9, .inr (11, [.ref q10, .int 0])), (q10, .inl (cy11, 4960, .inl (fun _ => 0))), (q12, .inr (11, [.ref q13, .int 0])), (q13, .inl (cy14, 4960, .inl (fun _ => 0))), (q15, .inr (11, [.ref q16, .int 0])), (q16, .inl (cy17, 4960, .inl (fun _ => 0))), (q18, .inr (11, [.ref q19, .int 0])), (q19, .inl (cy20, 4960, .inl (fun _ => 0))), (q21, .inr (11, [.ref q22, .int 0])), (q22, .inl (cy23, 4960, .inl (fun _ => 0))), (q24, .inr (11, [.ref q25, .int 0])), (q26, .inr (11, [.ref q27, .int 0])), (q27, .inl (cy28, 4960, .inl (fun _ => 0))), (q29, .inr (11, [.ref q30, .int 0])), (q30, .inl (cy31, 60, .inl (fun _ => 0))), (q32, .inr (11, [.ref q33, .int 0])), (q33, .inl (cy34, 6, .inl (fun _ => 0))), (q35, .inr (8, [.ref q36, .ref q38, .ref q40])), (q36, .inr (11, [.ref q37, .int 0])), (q38, .inr (11, [.ref q39, .int 0])), (q40, .inr (11, [.ref q41, .int 0])), (q42, .inr (7, [.ref q43, .ref q45, .ref q47, .ref q49, .ref q51, .ref q53, .ref q55, .int 0, .int 0, .int 0, .int 0])), (q43, .inr (11, [.ref q44, .int 0])), (q45, .inr (11, [.ref q46, .int 0])), (q47, .inr (11, [.ref q48, .int 0])), (q49, .inr (11, [.ref q50, .int 0])), (q51, .inr (11, [.ref q52, .int 0])), (q53, .inr (11, [.ref q54, .int 0])), (q55, .inr (11, [.ref q56, .int 0])), (q2, .inr (10, [.ref q3, .ref q6, .ref q9, .ref q12, .ref q15, .ref q18, .ref q21, .ref q24, .ref q26])), (q59, .inr (13, [.ref q2, .ref q42, .ref q57, .ref q58, .ref q60])), (q61, .inr (1, [.ref q62, .int 0, .int 0, .int 0])), (q62, .inl (cy63, 16, .inl (fun _ => 0))), (q64, .inr (14, [.ref q65, .ref q67, .ref q69, .ref q71, .ref q73, .ref q75, .ref q77, .ref q79, .ref q81, .int (-1)])), (q65, .inr (11, [.ref q66, .int 0])), (q67, .inr (11, [.ref q68, .int 0])), (q69, .inr (11, [.ref q70, .int 0])), (q71, .inr (11, [.ref q72, .int 0])), (q73, .inr (11, [.ref q74, .int 0])), (q75, .inr (11, [.ref q76, .int 0])), (q77, .inr (11, [.ref q78, .int 0])), (q79, .inr (11, [.ref q80, .int 0])), (q81, .inr (11, [.ref q82, .int 0])), (q83, .inr (14, [.ref q84, .ref q86, .ref q88, .ref q90, .ref q92, .ref q94, .ref q96, .ref q98, .ref q100, .int (-1)])), (q84, .inr (11, [.ref q85, .int 0])), (q86, .inr (11, [.ref q87, .int 0])), (q88, .inr (11, [.ref q89, .int 0])), (q90, .inr (11, [.ref q91, .int 0])), (q92, .inr (11, [.ref q93, .int 0])), (q94, .inr (11, [.ref q95, .int 0])), (q96, .inr (11, [.ref q97, .int 0])), (q98, .inr (11, [.ref q99, .int 0])), (q100, .inr (11, [.ref q101, .int 0])), (q102, .inr (23, [.int 0, .ref q103, .int 20, .int 60, .ref (g 34), .null, .int 0, .int 0, .int 0])), (q103, .inr (6, [.int 0, .ref (g 0), .int 0])), (q104, .inr (17, [.long 0, .null]))]) (hS : va_S A s.heap H locs) (hl : lv_has ls 7 [(4, .int 0), (3, .ref q104), (2, .ref q102), (1, .ref q1), (0, .ref b)]) : W p l e room_1 s m #[Value.ref b] below meth c H locs 170 112419 (lw_Z below #[Value.ref b] s) (F0 m 968 ls []) := by
  obtain ⟨hx, hb, hr, hml, hown, hts0, hX, hbl, hlocks, hgv⟩ := id C0
  have hta : ∀ w ∈ wsALL, w.before #[Value.ref b] s = true := fun w h => hts0 w (wa_in w h)
  have hts := hta
  have hbA : ¬ A b := fun h => absurd (hAx b h) (Nat.not_le.mpr hbl)
  have hP := hP.sub (ws' := [(q1, .inr (16, [.ref q2, .ref q29, .ref q32, .ref q35, .ref q42, .ref q57, .ref q58, .ref q59, .ref q61, .ref q64, .ref q83, .int 20, .int 60, .int 0, .int 0, .int 0])), (q102, .inr (23, [.int 0, .ref q103, .int 20, .int 60, .ref (g 34), .null, .int 0, .int 0, .int 0]))]) [0, 58] rfl
  have hD := hD.sub (ws' := [(q1, .inr (16, [.ref q2, .ref q29, .ref q32, .ref q35, .ref q42, .ref q57, .ref q58, .ref q59, .ref q61, .ref q64, .ref q83, .int 20, .int 60, .int 0, .int 0, .int 0])), (q102, .inr (23, [.int 0, .ref q103, .int 20, .int 60, .ref (g 34), .null, .int 0, .int 0, .int 0]))]) [0, 58] (by decide) rfl
  have hK := hK.sub (tys' := []) [] rfl
  refine lv_aload_n hx hb dL_law_968 rfl (lv_at hl 3 rfl) ?_
  have hPc := hP.sub (ws' := [(q1, .inr (16, [.ref q2, .ref q29, .ref q32, .ref q35, .ref q42, .ref q57, .ref q58, .ref q59, .ref q61, .ref q64, .ref q83, .int 20, .int 60, .int 0, .int 0, .int 0]))]) [0] rfl
  have hDc := hD.sub (ws' := [(q1, .inr (16, [.ref q2, .ref q29, .ref q32, .ref q35, .ref q42, .ref q57, .ref q58, .ref q59, .ref q61, .ref q64, .ref q83, .int 20, .int 60, .int 0, .int 0, .int 0]))]) [0] (by decide) rfl
  have hKc := hK.sub (tys' := []) [] rfl
  have hFc := va_free (wc := [(q1, .inr (16, [.ref q2, .ref q29, .ref q32, .ref q35, .ref q42, .ref q57, .ref q58, .ref q59, .ref q61, .ref q64, .ref q83, .int 20, .int 60, .int 0, .int 0, .int 0]))]) hD hS hA [0] rfl
  refine va_calli (va_runV (As := []) (rest := []) ⟨hx, hb, hml, hown, hts⟩ (kX9_knock l dC dI g H.size q1 (.ref q2) (.ref q29) (.ref q32) (.ref q35) (.ref q42) (.ref q57) (.ref q58) (.ref q59) (.ref q61) (.ref q64) (.ref q83) (.int 20) (.int 60) (.int 0) (.int 0) ) (cwV 0 hts (ns_gq (List.forall_mem_cons.mpr ⟨wm802, (List.forall_mem_cons.mpr ⟨wm803, (List.forall_mem_cons.mpr ⟨wm804, (List.forall_mem_cons.mpr ⟨wm2, (fun _ h9 => nomatch h9)⟩)⟩)⟩)⟩) wm799) rfl rfl rfl (by decide +kernel) ⟨Nat.le_of_ble_eq_true rfl, Nat.le_of_ble_eq_true rfl⟩) ⟨fun a U gg mk q => by obtain ⟨q0, q1, qP, qK, qD, qF⟩ := q; exact ⟨q0, q1, qP, va_K.moved (u := U) (U := U.calling gg mk a) (Vm.Alike.refl U.vm) qK, qD, ns_same qF⟩, va_recv hK hP (ci := 16) (q0 := 0) rfl rfl, fun U hU hW => ⟨rfl, by rw [hU], by rw [hU]; exact hPc, va_K.moved hW.alike hKc, hDc.weaken (fun _ _ _ _ => trivial), ns_call hF hS hFc hU hW⟩⟩ rfl rfl hl.1 rfl (lv_room (Nat.le_of_ble_eq_true rfl)) dL_law_969 ⟨Nat.le_of_ble_eq_true rfl, Nat.le_of_ble_eq_true rfl⟩) hS (fun q _ h => hFc q h) hFc (fun r9 u t H1 locs ht hvm hw hB hz1 hk1 hS => ?_)
  obtain rfl := hw.symm
  obtain ⟨hP1, hK1, hD1⟩ := hB
  rw [ht] at hP1
  have hK1 := va_K.moved hvm.symm hK1
  obtain ⟨hP, hD⟩ := va_join (wr := [(q102, .inr (23, [.int 0, .ref q103, .int 20, .int 60, .ref (g 34), .null, .int 0, .int 0, .int 0]))]) (w1 := [(q1, .inr (16, [.ref q2, .ref q29, .ref q32, .ref q35, .ref q42, .ref q57, .ref q58, .ref q59, .ref q61, .ref q64, .ref q83, .int 20, .int 60, .int 0, .int 1, .int 0]))]) hP hD [0] [1] rfl rfl (by decide) (by decide) hk1 hFc hP1 hD1
  have hK := (hK.sub (tys' := []) [] rfl).app hK1
  generalize H1 = H at hP hS ⊢
  have hP : va_P (dC, dI) vwCl [(q102, .inr (23, [.int 0, .ref q103, .int 20, .int 60, .ref (g 34), .null, .int 0, .int 0, .int 0])), (q1, .inr (16, [.ref q2, .ref q29, .ref q32, .ref q35, .ref q42, .ref q57, .ref q58, .ref q59, .ref q61, .ref q64, .ref q83, .int 20, .int 60, .int 0, .int 1, .int 0]))] H := hP
  have hD : va_D A [(q102, .inr (23, [.int 0, .ref q103, .int 20, .int 60, .ref (g 34), .null, .int 0, .int 0, .int 0])), (q1, .inr (16, [.ref q2, .ref q29, .ref q32, .ref q35, .ref q42, .ref q57, .ref q58, .ref q59, .ref q61, .ref q64, .ref q83, .int 20, .int 60, .int 0, .int 1, .int 0]))] := hD
  have hK : va_K (dC, dI) vwCl [] s := hK
  refine W.widen (k := 170) (n := 112419) (Nat.le_of_ble_eq_true rfl) (Nat.le_of_ble_eq_true rfl) ?_
  refine lv_aload_n hx hb dL_law_972 rfl (lv_at hl 2 rfl) ?_
  have hPc := hP.sub (ws' := [(q102, .inr (23, [.int 0, .ref q103, .int 20, .int 60, .ref (g 34), .null, .int 0, .int 0, .int 0]))]) [0] rfl
  have hDc := hD.sub (ws' := [(q102, .inr (23, [.int 0, .ref q103, .int 20, .int 60, .ref (g 34), .null, .int 0, .int 0, .int 0]))]) [0] (by decide) rfl
  have hKc := hK.sub (tys' := []) [] rfl
  have hFc := va_free (wc := [(q102, .inr (23, [.int 0, .ref q103, .int 20, .int 60, .ref (g 34), .null, .int 0, .int 0, .int 0]))]) hD hS hA [0] rfl
  refine va_calli (va_runV (As := []) (rest := [.int 1]) ⟨hx, hb, hml, hown, hts⟩ (kX16_knock l dC dI g H.size q102 (.int 0) (.ref q103) (.int 20) (.int 60) (.ref (g 34)) .null (.int 0) (.int 0) ) (cwV 0 hts (ns_gq (List.forall_mem_cons.mpr ⟨wm805, (List.forall_mem_cons.mpr ⟨wm806, (List.forall_mem_cons.mpr ⟨wm807, (List.forall_mem_cons.mpr ⟨wm192, (fun _ h9 => nomatch h9)⟩)⟩)⟩)⟩) wm801) rfl rfl rfl (by decide +kernel) ⟨Nat.le_of_ble_eq_true rfl, Nat.le_of_ble_eq_true rfl⟩) ⟨fun a U gg mk q => by obtain ⟨q0, q1, qP, qK, qD, qF⟩ := q; exact ⟨q0, q1, qP, va_K.moved (u := U) (U := U.calling gg mk a) (Vm.Alike.refl U.vm) qK, qD, ns_same qF⟩, va_recv hK hP (ci := 23) (q0 := 0) rfl rfl, fun U hU hW => ⟨rfl, by rw [hU], by rw [hU]; exact hPc, va_K.moved hW.alike hKc, hDc.weaken (fun _ _ _ _ => trivial), ns_call hF hS hFc hU hW⟩⟩ rfl rfl hl.1 rfl (lv_room (Nat.le_of_ble_eq_true rfl)) dL_law_973 ⟨Nat.le_of_ble_eq_true rfl, Nat.le_of_ble_eq_true rfl⟩) hS (fun q _ h => hFc q h) hFc (fun r9 u t H1 locs ht hvm hw hB hz1 hk1 hS => ?_)
  obtain rfl := hw.symm
  obtain ⟨hP1, hK1, hD1⟩ := hB
  rw [ht] at hP1
  have hK1 := va_K.moved hvm.symm hK1
  obtain ⟨hP, hD⟩ := va_join (wr := [(q1, .inr (16, [.ref q2, .ref q29, .ref q32, .ref q35, .ref q42, .ref q57, .ref q58, .ref q59, .ref q61, .ref q64, .ref q83, .int 20, .int 60, .int 0, .int 1, .int 0]))]) (w1 := [(q102, .inr (23, [.int 0, .ref q103, .int 20, .int 60, .ref (g 34), .null, .int 0, .int 1, .int 0]))]) hP hD [0] [1] rfl rfl (by decide) (by decide) hk1 hFc hP1 hD1
  have hK := (hK.sub (tys' := []) [] rfl).app hK1
  generalize H1 = H at hP hS ⊢
  have hP : va_P (dC, dI) vwCl [(q1, .inr (16, [.ref q2, .ref q29, .ref q32, .ref q35, .ref q42, .ref q57, .ref q58, .ref q59, .ref q61, .ref q64, .ref q83, .int 20, .int 60, .int 0, .int 1, .int 0])), (q102, .inr (23, [.int 0, .ref q103, .int 20, .int 60, .ref (g 34), .null, .int 0, .int 1, .int 0]))] H := hP
  have hD : va_D A [(q1, .inr (16, [.ref q2, .ref q29, .ref q32, .ref q35, .ref q42, .ref q57, .ref q58, .ref q59, .ref q61, .ref q64, .ref q83, .int 20, .int 60, .int 0, .int 1, .int 0])), (q102, .inr (23, [.int 0, .ref q103, .int 20, .int 60, .ref (g 34), .null, .int 0, .int 1, .int 0]))] := hD
  have hK : va_K (dC, dI) vwCl [] s := hK
  refine W.widen (k := 170) (n := 112419) (Nat.le_of_ble_eq_true rfl) (Nat.le_of_ble_eq_true rfl) ?_
  refine lv_icmp_eq (tgt := 2216) hx hb dL_law_976 (by decide) (fun c1001 => ?_) (fun c1001 => absurd (by decide) c1001)
  exact law_tail C0 hA hAx hS (lv_sub hl [0, 4] rfl) (Nat.le_of_ble_eq_true rfl) (Nat.le_of_ble_eq_true rfl)

set_option maxHeartbeats 4000000 in
set_option maxRecDepth 100000 in
theorem law_case15 {p : Program} {l : Launch} {e : Env} {s : State} {m : MethodId} {below : List Frame} {meth : Method} {c : Code} {b : Nat} {xs : Nat → Int32} {dC : Nat → ClassId} {dI : Nat → Nat → Nat} {g : Nat → Nat} {A : Nat → Prop} {q1 : Nat} {q2 : Nat} {q3 : Nat} {q4 : Nat} {cy5 : ClassId} {q6 : Nat} {q7 : Nat} {cy8 : ClassId} {q9 : Nat} {q10 : Nat} {cy11 : ClassId} {q12 : Nat} {q13 : Nat} {cy14 : ClassId} {q15 : Nat} {q16 : Nat} {cy17 : ClassId} {q18 : Nat} {q19 : Nat} {cy20 : ClassId} {q21 : Nat} {q22 : Nat} {cy23 : ClassId} {q24 : Nat} {q25 : Nat} {q26 : Nat} {q27 : Nat} {cy28 : ClassId} {q29 : Nat} {q30 : Nat} {cy31 : ClassId} {q32 : Nat} {q33 : Nat} {cy34 : ClassId} {q35 : Nat} {q36 : Nat} {q37 : Nat} {q38 : Nat} {q39 : Nat} {q40 : Nat} {q41 : Nat} {q42 : Nat} {q43 : Nat} {q44 : Nat} {q45 : Nat} {q46 : Nat} {q47 : Nat} {q48 : Nat} {q49 : Nat} {q50 : Nat} {q51 : Nat} {q52 : Nat} {q53 : Nat} {q54 : Nat} {q55 : Nat} {q56 : Nat} {q57 : Nat} {q58 : Nat} {q59 : Nat} {q60 : Nat} {q61 : Nat} {q62 : Nat} {cy63 : ClassId} {q64 : Nat} {q65 : Nat} {q66 : Nat} {q67 : Nat} {q68 : Nat} {q69 : Nat} {q70 : Nat} {q71 : Nat} {q72 : Nat} {q73 : Nat} {q74 : Nat} {q75 : Nat} {q76 : Nat} {q77 : Nat} {q78 : Nat} {q79 : Nat} {q80 : Nat} {q81 : Nat} {q82 : Nat} {q83 : Nat} {q84 : Nat} {q85 : Nat} {q86 : Nat} {q87 : Nat} {q88 : Nat} {q89 : Nat} {q90 : Nat} {q91 : Nat} {q92 : Nat} {q93 : Nat} {q94 : Nat} {q95 : Nat} {q96 : Nat} {q97 : Nat} {q98 : Nat} {q99 : Nat} {q100 : Nat} {q101 : Nat} {q102 : Nat} {q103 : Nat} {q104 : Nat} {H : Heap} {locs : List Loc} {ls : Array Slot} (hlt : l.stackTraces = false) (C0 : lw_At p s m meth c b 7 xs) (hA : ∀ q : Nat, s.heap.size ≤ q → A q) (hAx : ∀ q : Nat, A q → s.heap.size ≤ q) (hF : ns_F g A s s.heap) (hK : va_K (dC, dI) vwCl [(cy5, .int), (cy8, .int), (cy11, .int), (cy14, .int), (cy17, .int), (cy20, .int), (cy23, .int), (cy28, .int), (cy31, .int), (cy34, .int), (cy63, .byte)] s) (hP : va_P (dC, dI) vwCl [(q1, .inr (16, [.ref q2, .ref q29, .ref q32, .ref q35, .ref q42, .ref q57, .ref q58, .ref q59, .ref q61, .ref q64, .ref q83, .int 20, .int 60, .int 0, .int 0, .int 0])), (q3, .inr (11, [.ref q4, .int 0])), (q4, .inl (cy5, 80, .inl (fun _ => 0))), (q6, .inr (11, [.ref q7, .int 0])), (q7, .inl (cy8, 4960, .inl (fun _ => 0))), (q9, .inr (11, [.ref q10, .int 0])), (q10, .inl (cy11, 4960, .inl (fun _ => 0))), (q12, .inr (11, [.ref q13, .int 0])), (q13, .inl (cy14, 4960, .inl (fun _ => 0))), (q15, .inr (11, [.ref q16, .int 0])), (q16, .inl (cy17, 4960, .inl (fun _ => 0))), (q18, .inr (11, [.ref q19, .int 0])), (q19, .inl (cy20, 4960, .inl (fun _ => 0))), (q21, .inr (11, [.ref q22, .int 0])), (q22, .inl (cy23, 4960, .inl (fun _ => 0))), (q24, .inr (11, [.ref q25, .int 0])), (q26, .inr (11, [.ref q27, .int 0])), (q27, .inl (cy28, 4960, .inl (fun _ => 0))), (q29, .inr (11, [.ref q30, .int 0])), (q30, .inl (cy31, 60, .inl (fun _ => 0))), (q32, .inr (11, [.ref q33, .int 0])), (q33, .inl (cy34, 6, .inl (fun _ => 0))), (q35, .inr (8, [.ref q36, .ref q38, .ref q40])), (q36, .inr (11, [.ref q37, .int 0])), (q38, .inr (11, [.ref q39, .int 0])), (q40, .inr (11, [.ref q41, .int 0])), (q42, .inr (7, [.ref q43, .ref q45, .ref q47, .ref q49, .ref q51, .ref q53, .ref q55, .int 0, .int 0, .int 0, .int 0])), (q43, .inr (11, [.ref q44, .int 0])), (q45, .inr (11, [.ref q46, .int 0])), (q47, .inr (11, [.ref q48, .int 0])), (q49, .inr (11, [.ref q50, .int 0])), (q51, .inr (11, [.ref q52, .int 0])), (q53, .inr (11, [.ref q54, .int 0])), (q55, .inr (11, [.ref q56, .int 0])), (q2, .inr (10, [.ref q3, .ref q6, .ref q9, .ref q12, .ref q15, .ref q18, .ref q21, .ref q24, .ref q26])), (q59, .inr (13, [.ref q2, .ref q42, .ref q57, .ref q58, .ref q60])), (q61, .inr (1, [.ref q62, .int 0, .int 0, .int 0])), (q62, .inl (cy63, 16, .inl (fun _ => 0))), (q64, .inr (14, [.ref q65, .ref q67, .ref q69, .ref q71, .ref q73, .ref q75, .ref q77, .ref q79, .ref q81, .int (-1)])), (q65, .inr (11, [.ref q66, .int 0])), (q67, .inr (11, [.ref q68, .int 0])), (q69, .inr (11, [.ref q70, .int 0])), (q71, .inr (11, [.ref q72, .int 0])), (q73, .inr (11, [.ref q74, .int 0])), (q75, .inr (11, [.ref q76, .int 0])), (q77, .inr (11, [.ref q78, .int 0])), (q79, .inr (11, [.ref q80, .int 0])), (q81, .inr (11, [.ref q82, .int 0])), (q83, .inr (14, [.ref q84, .ref q86, .ref q88, .ref q90, .ref q92, .ref q94, .ref q96, .ref q98, .ref q100, .int (-1)])), (q84, .inr (11, [.ref q85, .int 0])), (q86, .inr (11, [.ref q87, .int 0])), (q88, .inr (11, [.ref q89, .int 0])), (q90, .inr (11, [.ref q91, .int 0])), (q92, .inr (11, [.ref q93, .int 0])), (q94, .inr (11, [.ref q95, .int 0])), (q96, .inr (11, [.ref q97, .int 0])), (q98, .inr (11, [.ref q99, .int 0])), (q100, .inr (11, [.ref q101, .int 0])), (q102, .inr (23, [.int 0, .ref q103, .int 20, .int 60, .ref (g 34), .null, .int 0, .int 0, .int 0])), (q103, .inr (6, [.int 0, .ref (g 0), .int 0])), (q104, .inr (17, [.long 0, .null]))] H) (hD : va_D A [(q1, .inr (16, [.ref q2, .ref q29, .ref q32, .ref q35, .ref q42, .ref q57, .ref q58, .ref q59, .ref q61, .ref q64, .ref q83, .int 20, .int 60, .int 0, .int 0, .int 0])), (q3, .inr (11, [.ref q4, .int 0])), (q4, .inl (cy5, 80, .inl (fun _ => 0))), (q6, .inr (11, [.ref q7, .int 0])), (q7, .inl (cy8, 4960, .inl (fun _ => 0))), (q9, .inr (11, [.ref q10, .int 0])), (q10, .inl (cy11, 4960, .inl (fun _ => 0))), (q12, .inr (11, [.ref q13, .int 0])), (q13, .inl (cy14, 4960, .inl (fun _ => 0))), (q15, .inr (11, [.ref q16, .int 0])), (q16, .inl (cy17, 4960, .inl (fun _ => 0))), (q18, .inr (11, [.ref q19, .int 0])), (q19, .inl (cy20, 4960, .inl (fun _ => 0))), (q21, .inr (11, [.ref q22, .int 0])), (q22, .inl (cy23, 4960, .inl (fun _ => 0))), (q24, .inr (11, [.ref q25, .int 0])), (q26, .inr (11, [.ref q27, .int 0])), (q27, .inl (cy28, 4960, .inl (fun _ => 0))), (q29, .inr (11, [.ref q30, .int 0])), (q30, .inl (cy31, 60, .inl (fun _ => 0))), (q32, .inr (11, [.ref q33, .int 0])), (q33, .inl (cy34, 6, .inl (fun _ => 0))), (q35, .inr (8, [.ref q36, .ref q38, .ref q40])), (q36, .inr (11, [.ref q37, .int 0])), (q38, .inr (11, [.ref q39, .int 0])), (q40, .inr (11, [.ref q41, .int 0])), (q42, .inr (7, [.ref q43, .ref q45, .ref q47, .ref q49, .ref q51, .ref q53, .ref q55, .int 0, .int 0, .int 0, .int 0])), (q43, .inr (11, [.ref q44, .int 0])), (q45, .inr (11, [.ref q46, .int 0])), (q47, .inr (11, [.ref q48, .int 0])), (q49, .inr (11, [.ref q50, .int 0])), (q51, .inr (11, [.ref q52, .int 0])), (q53, .inr (11, [.ref q54, .int 0])), (q55, .inr (11, [.ref q56, .int 0])), (q2, .inr (10, [.ref q3, .ref q6, .ref q9, .ref q12, .ref q15, .ref q18, .ref q21, .ref q24, .ref q26])), (q59, .inr (13, [.ref q2, .ref q42, .ref q57, .ref q58, .ref q60])), (q61, .inr (1, [.ref q62, .int 0, .int 0, .int 0])), (q62, .inl (cy63, 16, .inl (fun _ => 0))), (q64, .inr (14, [.ref q65, .ref q67, .ref q69, .ref q71, .ref q73, .ref q75, .ref q77, .ref q79, .ref q81, .int (-1)])), (q65, .inr (11, [.ref q66, .int 0])), (q67, .inr (11, [.ref q68, .int 0])), (q69, .inr (11, [.ref q70, .int 0])), (q71, .inr (11, [.ref q72, .int 0])), (q73, .inr (11, [.ref q74, .int 0])), (q75, .inr (11, [.ref q76, .int 0])), (q77, .inr (11, [.ref q78, .int 0])), (q79, .inr (11, [.ref q80, .int 0])), (q81, .inr (11, [.ref q82, .int 0])), (q83, .inr (14, [.ref q84, .ref q86, .ref q88, .ref q90, .ref q92, .ref q94, .ref q96, .ref q98, .ref q100, .int (-1)])), (q84, .inr (11, [.ref q85, .int 0])), (q86, .inr (11, [.ref q87, .int 0])), (q88, .inr (11, [.ref q89, .int 0])), (q90, .inr (11, [.ref q91, .int 0])), (q92, .inr (11, [.ref q93, .int 0])), (q94, .inr (11, [.ref q95, .int 0])), (q96, .inr (11, [.ref q97, .int 0])), (q98, .inr (11, [.ref q99, .int 0])), (q100, .inr (11, [.ref q101, .int 0])), (q102, .inr (23, [.int 0, .ref q103, .int 20, .int 60, .ref (g 34), .null, .int 0, .int 0, .int 0])), (q103, .inr (6, [.int 0, .ref (g 0), .int 0])), (q104, .inr (17, [.long 0, .null]))]) (hS : va_S A s.heap H locs) (hl : lv_has ls 7 [(4, .int 0), (3, .ref q104), (2, .ref q102), (1, .ref q1), (0, .ref b)]) : W p l e room_1 s m #[Value.ref b] below meth c H locs 170 112419 (lw_Z below #[Value.ref b] s) (F0 m 981 ls []) := by
  obtain ⟨hx, hb, hr, hml, hown, hts0, hX, hbl, hlocks, hgv⟩ := id C0
  have hta : ∀ w ∈ wsALL, w.before #[Value.ref b] s = true := fun w h => hts0 w (wa_in w h)
  have hts := hta
  have hbA : ¬ A b := fun h => absurd (hAx b h) (Nat.not_le.mpr hbl)
  have hP := hP.sub (ws' := [(q1, .inr (16, [.ref q2, .ref q29, .ref q32, .ref q35, .ref q42, .ref q57, .ref q58, .ref q59, .ref q61, .ref q64, .ref q83, .int 20, .int 60, .int 0, .int 0, .int 0])), (q3, .inr (11, [.ref q4, .int 0])), (q2, .inr (10, [.ref q3, .ref q6, .ref q9, .ref q12, .ref q15, .ref q18, .ref q21, .ref q24, .ref q26])), (q102, .inr (23, [.int 0, .ref q103, .int 20, .int 60, .ref (g 34), .null, .int 0, .int 0, .int 0])), (q103, .inr (6, [.int 0, .ref (g 0), .int 0]))]) [0, 1, 34, 58, 59] rfl
  have hD := hD.sub (ws' := [(q1, .inr (16, [.ref q2, .ref q29, .ref q32, .ref q35, .ref q42, .ref q57, .ref q58, .ref q59, .ref q61, .ref q64, .ref q83, .int 20, .int 60, .int 0, .int 0, .int 0])), (q3, .inr (11, [.ref q4, .int 0])), (q2, .inr (10, [.ref q3, .ref q6, .ref q9, .ref q12, .ref q15, .ref q18, .ref q21, .ref q24, .ref q26])), (q102, .inr (23, [.int 0, .ref q103, .int 20, .int 60, .ref (g 34), .null, .int 0, .int 0, .int 0])), (q103, .inr (6, [.int 0, .ref (g 0), .int 0]))]) [0, 1, 34, 58, 59] (by decide) rfl
  have hK := hK.sub (tys' := []) [] rfl
  refine lv_aload_n hx hb dL_law_981 rfl (lv_at hl 3 rfl) ?_
  refine lv_aload_n hx hb dL_law_982 rfl (lv_at hl 4 rfl) ?_
  refine lv_iload hx hb dL_law_983 (lv_at hl 0 rfl) ?_
  refine lv_iconst (v := 1) hx hb dL_law_985 (by decide) ?_
  refine lv_iadd hx hb dL_law_986 ?_
  refine lv_topi (fun y1001 ey1001 => ?_)
  obtain rfl : y1001 = 1 := ey1001.trans (by decide)
  refine va_sld hx hb hX hbl hbA hS (vp_in_nI (n := 1) (by decide) (by decide)) dL_law_987 ?_
  refine lv_topi (fun z1 ez1 => ?_)
  have ez1 : z1 = xs 1 := ez1
  refine lv_aload_n hx hb dL_law_988 rfl (lv_at hl 4 rfl) ?_
  refine lv_iload hx hb dL_law_989 (lv_at hl 0 rfl) ?_
  refine lv_iconst (v := 2) hx hb dL_law_991 (by decide) ?_
  refine lv_iadd hx hb dL_law_992 ?_
  refine lv_topi (fun y1003 ey1003 => ?_)
  obtain rfl : y1003 = 2 := ey1003.trans (by decide)
  refine va_sld hx hb hX hbl hbA hS (vp_in_nI (n := 2) (by decide) (by decide)) dL_law_993 ?_
  refine lv_topi (fun z2 ez2 => ?_)
  have ez2 : z2 = xs 2 := ez2
  refine lv_aload_n hx hb dL_law_994 rfl (lv_at hl 1 rfl) ?_
  have hPc := hP.sub (ws' := [(q1, .inr (16, [.ref q2, .ref q29, .ref q32, .ref q35, .ref q42, .ref q57, .ref q58, .ref q59, .ref q61, .ref q64, .ref q83, .int 20, .int 60, .int 0, .int 0, .int 0])), (q2, .inr (10, [.ref q3, .ref q6, .ref q9, .ref q12, .ref q15, .ref q18, .ref q21, .ref q24, .ref q26])), (q3, .inr (11, [.ref q4, .int 0]))]) [0, 2, 1] rfl
  have hDc := hD.sub (ws' := [(q1, .inr (16, [.ref q2, .ref q29, .ref q32, .ref q35, .ref q42, .ref q57, .ref q58, .ref q59, .ref q61, .ref q64, .ref q83, .int 20, .int 60, .int 0, .int 0, .int 0])), (q2, .inr (10, [.ref q3, .ref q6, .ref q9, .ref q12, .ref q15, .ref q18, .ref q21, .ref q24, .ref q26])), (q3, .inr (11, [.ref q4, .int 0]))]) [0, 2, 1] (by decide) rfl
  have hKc := hK.sub (tys' := []) [] rfl
  have hFc := va_free (wc := [(q1, .inr (16, [.ref q2, .ref q29, .ref q32, .ref q35, .ref q42, .ref q57, .ref q58, .ref q59, .ref q61, .ref q64, .ref q83, .int 20, .int 60, .int 0, .int 0, .int 0])), (q2, .inr (10, [.ref q3, .ref q6, .ref q9, .ref q12, .ref q15, .ref q18, .ref q21, .ref q24, .ref q26])), (q3, .inr (11, [.ref q4, .int 0]))]) hD hS hA [0, 2, 1] rfl
  refine va_calli (vx_runSW (As := [.ref q1, .int z1, .int z2, .ref q104]) (rest := []) ⟨hx, hb, hml, hown, hts⟩ (kL_ofNode l dC dI g H.size q1 z1 z2 q104 q2 q3 (.ref q29) (.ref q32) (.ref q35) (.ref q42) (.ref q57) (.ref q58) (.ref q59) (.ref q61) (.ref q64) (.ref q83) (.int 20) (.int 60) (.int 0) (.int 0) (.int 0) (.ref q6) (.ref q9) (.ref q12) (.ref q15) (.ref q18) (.ref q21) (.ref q24) (.ref q26) (.ref q4)  hlt) (vx_cwSW 4 hts (ns_gq (List.forall_mem_cons.mpr ⟨wm814, (List.forall_mem_cons.mpr ⟨wm815, (List.forall_mem_cons.mpr ⟨wm408, (fun _ h9 => nomatch h9)⟩)⟩)⟩) wm812) rfl rfl rfl (by decide +kernel) ⟨Nat.le_of_ble_eq_true rfl, Nat.le_of_ble_eq_true rfl⟩) ⟨fun a U gg mk q => by obtain ⟨q0, q1, qP, qK, qD, qF⟩ := q; exact ⟨q0, q1, qP, va_K.moved (u := U) (U := U.calling gg mk a) (Vm.Alike.refl U.vm) qK, qD, ns_same qF⟩, fun U hU hW => ⟨rfl, by rw [hU], by rw [hU]; exact hPc, va_K.moved hW.alike hKc, hDc.weaken (fun _ _ _ _ => trivial), ns_call hF hS hFc hU hW⟩⟩ rfl rfl hl.1 rfl (lv_room (Nat.le_of_ble_eq_true rfl)) dL_law_995 ⟨Nat.le_of_ble_eq_true rfl, Nat.le_of_ble_eq_true rfl⟩) hS (fun q _ h => hFc q h) hFc (fun r9 u t H1 locs ht hvm hw hB hz1 hk1 hS => ?_)
  obtain rfl := hw.symm
  obtain ⟨hP1, hK1, hD1⟩ := hB
  rw [ht] at hP1
  have hK1 := va_K.moved hvm.symm hK1
  obtain ⟨hP, hD⟩ := va_join (wr := [(q102, .inr (23, [.int 0, .ref q103, .int 20, .int 60, .ref (g 34), .null, .int 0, .int 0, .int 0])), (q103, .inr (6, [.int 0, .ref (g 0), .int 0]))]) (w1 := []) hP hD [0, 2, 1] [3, 4] rfl rfl (by decide) (by decide) hk1 hFc hP1 hD1
  have hK := (hK.sub (tys' := []) [] rfl).app hK1
  generalize H1 = H at hP hS ⊢
  have hP : va_P (dC, dI) vwCl [(q102, .inr (23, [.int 0, .ref q103, .int 20, .int 60, .ref (g 34), .null, .int 0, .int 0, .int 0])), (q103, .inr (6, [.int 0, .ref (g 0), .int 0]))] H := hP
  have hD : va_D A [(q102, .inr (23, [.int 0, .ref q103, .int 20, .int 60, .ref (g 34), .null, .int 0, .int 0, .int 0])), (q103, .inr (6, [.int 0, .ref (g 0), .int 0]))] := hD
  have hK : va_K (dC, dI) vwCl [] s := hK
  refine W.widen (k := 171) (n := 112425) (Nat.le_of_ble_eq_true rfl) (Nat.le_of_ble_eq_true rfl) ?_
  refine lv_istore (lv' := [(5, .int 1), (4, .int 0), (3, .ref q104), (2, .ref q102), (1, .ref q1), (0, .ref b)]) hx hb dL_law_998 hl (by decide) rfl (fun ls hl => ?_)
  refine lv_aload_n hx hb dL_law_1000 rfl (lv_at hl 3 rfl) ?_
  refine lv_aload_n hx hb dL_law_1001 rfl (lv_at hl 5 rfl) ?_
  refine lv_iload hx hb dL_law_1002 (lv_at hl 1 rfl) ?_
  refine lv_iconst (v := 1) hx hb dL_law_1004 (by decide) ?_
  refine lv_iadd hx hb dL_law_1005 ?_
  refine lv_topi (fun y1005 ey1005 => ?_)
  obtain rfl : y1005 = 1 := ey1005.trans (by decide)
  refine va_sld hx hb hX hbl hbA hS (vp_in_nI (n := 1) (by decide) (by decide)) dL_law_1006 ?_
  refine lv_topi (fun z1006 ez1006 => ?_)
  obtain rfl : z1 = z1006 := (ez1006.trans ez1.symm).symm
  refine lv_aload_n hx hb dL_law_1007 rfl (lv_at hl 5 rfl) ?_
  refine lv_iload hx hb dL_law_1008 (lv_at hl 1 rfl) ?_
  refine lv_iconst (v := 2) hx hb dL_law_1010 (by decide) ?_
  refine lv_iadd hx hb dL_law_1011 ?_
  refine lv_topi (fun y1007 ey1007 => ?_)
  obtain rfl : y1007 = 2 := ey1007.trans (by decide)
  refine va_sld hx hb hX hbl hbA hS (vp_in_nI (n := 2) (by decide) (by decide)) dL_law_1012 ?_
  refine lv_topi (fun z1008 ez1008 => ?_)
  obtain rfl : z2 = z1008 := (ez1008.trans ez2.symm).symm
  have hPc := hP.sub (ws' := [(q102, .inr (23, [.int 0, .ref q103, .int 20, .int 60, .ref (g 34), .null, .int 0, .int 0, .int 0])), (q103, .inr (6, [.int 0, .ref (g 0), .int 0]))]) [0, 1] rfl
  have hDc := hD.sub (ws' := [(q102, .inr (23, [.int 0, .ref q103, .int 20, .int 60, .ref (g 34), .null, .int 0, .int 0, .int 0])), (q103, .inr (6, [.int 0, .ref (g 0), .int 0]))]) [0, 1] (by decide) rfl
  have hKc := hK.sub (tys' := []) [] rfl
  have hFc := va_free (wc := [(q102, .inr (23, [.int 0, .ref q103, .int 20, .int 60, .ref (g 34), .null, .int 0, .int 0, .int 0])), (q103, .inr (6, [.int 0, .ref (g 0), .int 0]))]) hD hS hA [0, 1] rfl
  refine va_calli (va_runV (As := [.int z1, .int z2]) (rest := []) ⟨hx, hb, hml, hown, hts⟩ (kX16_ofNode l dC dI g H.size q102 z1 z2 q103 (.int 0) (.int 20) (.int 60) (.ref (g 34)) .null (.int 0) (.int 0) (.int 0) (.int 0) (.ref (g 0)) ) (cwV 2 hts (ns_gq (List.forall_mem_cons.mpr ⟨wm816, (List.forall_mem_cons.mpr ⟨wm817, (List.forall_mem_cons.mpr ⟨wm818, (List.forall_mem_cons.mpr ⟨wm192, (fun _ h9 => nomatch h9)⟩)⟩)⟩)⟩) wm813) rfl rfl rfl (by decide +kernel) ⟨Nat.le_of_ble_eq_true rfl, Nat.le_of_ble_eq_true rfl⟩) ⟨fun a U gg mk q => by obtain ⟨q0, q1, qP, qK, qD, qF⟩ := q; exact ⟨q0, q1, qP, va_K.moved (u := U) (U := U.calling gg mk a) (Vm.Alike.refl U.vm) qK, qD, ns_same qF⟩, va_recv hK hP (ci := 23) (q0 := 0) rfl rfl, fun U hU hW => ⟨rfl, by rw [hU], by rw [hU]; exact hPc, va_K.moved hW.alike hKc, hDc.weaken (fun _ _ _ _ => trivial), ns_call hF hS hFc hU hW⟩⟩ rfl rfl hl.1 rfl (lv_room (Nat.le_of_ble_eq_true rfl)) dL_law_1013 ⟨Nat.le_of_ble_eq_true rfl, Nat.le_of_ble_eq_true rfl⟩) hS (fun q _ h => hFc q h) hFc (fun r9 u t H1 locs ht hvm hw hB hz1 hk1 hS => ?_)
  obtain rfl := hw.symm
  obtain ⟨hP1, hK1, hD1⟩ := hB
  rw [ht] at hP1
  have hK1 := va_K.moved hvm.symm hK1
  obtain ⟨hP, hD⟩ := va_join (wr := []) (w1 := [(q103, .inr (6, [.int 0, .ref (g 0), .int 0])), (q102, .inr (23, [.int 1, .ref q103, .int 20, .int 60, .ref (g 34), .null, .int 0, .int 0, .int 0]))]) hP hD [0, 1] [] rfl rfl (by decide) (by decide) hk1 hFc hP1 hD1
  have hK := (hK.sub (tys' := []) [] rfl).app hK1
  generalize H1 = H at hP hS ⊢
  have hP : va_P (dC, dI) vwCl [(q103, .inr (6, [.int 0, .ref (g 0), .int 0])), (q102, .inr (23, [.int 1, .ref q103, .int 20, .int 60, .ref (g 34), .null, .int 0, .int 0, .int 0]))] H := hP
  have hD : va_D A [(q103, .inr (6, [.int 0, .ref (g 0), .int 0])), (q102, .inr (23, [.int 1, .ref q103, .int 20, .int 60, .ref (g 34), .null, .int 0, .int 0, .int 0]))] := hD
  have hK : va_K (dC, dI) vwCl [] s := hK
  refine W.widen (k := 171) (n := 112425) (Nat.le_of_ble_eq_true rfl) (Nat.le_of_ble_eq_true rfl) ?_
  refine lv_istore (lv' := [(6, .int 0), (5, .int 1), (4, .int 0), (3, .ref q104), (2, .ref q102), (1, .ref q1), (0, .ref b)]) hx hb dL_law_1016 hl (by decide) rfl (fun ls hl => ?_)
  refine lv_aload_n hx hb dL_law_1018 rfl (lv_at hl 4 rfl) ?_
  have hPc := hP.sub (ws' := [(q102, .inr (23, [.int 1, .ref q103, .int 20, .int 60, .ref (g 34), .null, .int 0, .int 0, .int 0]))]) [1] rfl
  have hDc := hD.sub (ws' := [(q102, .inr (23, [.int 1, .ref q103, .int 20, .int 60, .ref (g 34), .null, .int 0, .int 0, .int 0]))]) [1] (by decide) rfl
  have hKc := hK.sub (tys' := []) [] rfl
  have hFc := va_free (wc := [(q102, .inr (23, [.int 1, .ref q103, .int 20, .int 60, .ref (g 34), .null, .int 0, .int 0, .int 0]))]) hD hS hA [1] rfl
  refine va_calli (va_runV (As := []) (rest := []) ⟨hx, hb, hml, hown, hts⟩ (kX16_thrown l dC dI g H.size q102 (.ref q103) (.int 20) (.int 60) (.ref (g 34)) .null (.int 0) (.int 0) (.int 0) ) (cwV 0 hts (ns_gq (List.forall_mem_cons.mpr ⟨wm414, (List.forall_mem_cons.mpr ⟨wm415, (List.forall_mem_cons.mpr ⟨wm416, (List.forall_mem_cons.mpr ⟨wm192, (fun _ h9 => nomatch h9)⟩)⟩)⟩)⟩) wm246) rfl rfl rfl (by decide +kernel) ⟨Nat.le_of_ble_eq_true rfl, Nat.le_of_ble_eq_true rfl⟩) ⟨fun a U gg mk q => by obtain ⟨q0, q1, qP, qK, qD, qF⟩ := q; exact ⟨q0, q1, qP, va_K.moved (u := U) (U := U.calling gg mk a) (Vm.Alike.refl U.vm) qK, qD, ns_same qF⟩, va_recv hK hP (ci := 23) (q0 := 1) rfl rfl, fun U hU hW => ⟨rfl, by rw [hU], by rw [hU]; exact hPc, va_K.moved hW.alike hKc, hDc.weaken (fun _ _ _ _ => trivial), ns_call hF hS hFc hU hW⟩⟩ rfl rfl hl.1 rfl (lv_room (Nat.le_of_ble_eq_true rfl)) dL_law_1019 ⟨Nat.le_of_ble_eq_true rfl, Nat.le_of_ble_eq_true rfl⟩) hS (fun q _ h => hFc q h) hFc (fun r9 u t H1 locs ht hvm hw hB hz1 hk1 hS => ?_)
  obtain rfl := hw.symm
  obtain ⟨hP1, hK1, hD1⟩ := hB
  rw [ht] at hP1
  have hK1 := va_K.moved hvm.symm hK1
  obtain ⟨hP, hD⟩ := va_join (wr := [(q103, .inr (6, [.int 0, .ref (g 0), .int 0]))]) (w1 := [(q102, .inr (23, [.int 1, .ref q103, .int 20, .int 60, .ref (g 34), .null, .int 0, .int 0, .int 0]))]) hP hD [1] [0] rfl rfl (by decide) (by decide) hk1 hFc hP1 hD1
  have hK := (hK.sub (tys' := []) [] rfl).app hK1
  generalize H1 = H at hP hS ⊢
  have hP : va_P (dC, dI) vwCl [(q103, .inr (6, [.int 0, .ref (g 0), .int 0])), (q102, .inr (23, [.int 1, .ref q103, .int 20, .int 60, .ref (g 34), .null, .int 0, .int 0, .int 0]))] H := hP
  have hD : va_D A [(q103, .inr (6, [.int 0, .ref (g 0), .int 0])), (q102, .inr (23, [.int 1, .ref q103, .int 20, .int 60, .ref (g 34), .null, .int 0, .int 0, .int 0]))] := hD
  have hK : va_K (dC, dI) vwCl [] s := hK
  refine W.widen (k := 171) (n := 112425) (Nat.le_of_ble_eq_true rfl) (Nat.le_of_ble_eq_true rfl) ?_
  refine lv_iload hx hb dL_law_1022 (lv_at hl 1 rfl) ?_
  refine lv_icmp_eq (tgt := 1029) hx hb dL_law_1024 (by decide) (fun c1009 => ?_) (fun c1009 => absurd (by decide) c1009)
  refine lv_iload hx hb dL_law_1029 (lv_at hl 1 rfl) ?_
  refine lv_if_ne (tgt := 1047) hx hb dL_law_1031 (by decide) (fun c1010 => ?_) (fun c1010 => absurd c1010 (by decide))
  refine lv_goto (tgt := 2216) hx hb dL_law_1047 (by decide) ?_
  exact law_tail C0 hA hAx hS (lv_sub hl [2, 6] rfl) (Nat.le_of_ble_eq_true rfl) (Nat.le_of_ble_eq_true rfl)
