theorem dX8_need_0 : decode cX8_need 0 = .ok (.aload_n 0, 1) := by decide +kernel
theorem dX8_need_1 : decode cX8_need 1 = .ok (.iload_n 1, 1) := by decide +kernel
theorem dX8_need_2 : decode cX8_need 2 = .ok (.invokevirtual 115, 3) := by decide +kernel
theorem dX8_need_5 : decode cX8_need 5 = .ok (.astore 5, 2) := by decide +kernel
theorem dX8_need_7 : decode cX8_need 7 = .ok (.aload 5, 2) := by decide +kernel
theorem dX8_need_9 : decode cX8_need 9 = .ok (.ifnull 30, 3) := by decide +kernel
theorem dX8_need_39 : decode cX8_need 39 = .ok (.new 187, 3) := by decide +kernel
theorem dX8_need_42 : decode cX8_need 42 = .ok (.dup, 1) := by decide +kernel
theorem dX8_need_43 : decode cX8_need 43 = .ok (.ldc 189, 2) := by decide +kernel
theorem dX8_need_45 : decode cX8_need 45 = .ok (.invokespecial 191, 3) := by decide +kernel
theorem dX8_need_48 : decode cX8_need 48 = .ok (.athrow, 1) := by decide +kernel
theorem dX8_shift_0 : decode cX8_shift 0 = .ok (.aload_n 0, 1) := by decide +kernel
theorem dX8_shift_1 : decode cX8_shift 1 = .ok (.iload_n 1, 1) := by decide +kernel
theorem dX8_shift_2 : decode cX8_shift 2 = .ok (.invokevirtual 93, 3) := by decide +kernel
theorem dX8_shift_5 : decode cX8_shift 5 = .ok (.ifnull 12, 3) := by decide +kernel
theorem dX8_shift_17 : decode cX8_shift 17 = .ok (.new 187, 3) := by decide +kernel
theorem dX8_shift_20 : decode cX8_shift 20 = .ok (.dup, 1) := by decide +kernel
theorem dX8_shift_21 : decode cX8_shift 21 = .ok (.ldc 204, 2) := by decide +kernel
theorem dX8_shift_23 : decode cX8_shift 23 = .ok (.invokespecial 191, 3) := by decide +kernel
theorem dX8_shift_26 : decode cX8_shift 26 = .ok (.athrow, 1) := by decide +kernel
theorem dX8_differ_0 : decode cX8_differ 0 = .ok (.aload_n 0, 1) := by decide +kernel
theorem dX8_differ_1 : decode cX8_differ 1 = .ok (.iload_n 1, 1) := by decide +kernel
theorem dX8_differ_2 : decode cX8_differ 2 = .ok (.invokevirtual 115, 3) := by decide +kernel
theorem dX8_differ_5 : decode cX8_differ 5 = .ok (.astore 6, 2) := by decide +kernel
theorem dX8_differ_7 : decode cX8_differ 7 = .ok (.aload_n 0, 1) := by decide +kernel
theorem dX8_differ_8 : decode cX8_differ 8 = .ok (.iload_n 3, 1) := by decide +kernel
theorem dX8_differ_9 : decode cX8_differ 9 = .ok (.invokevirtual 115, 3) := by decide +kernel
theorem dX8_differ_12 : decode cX8_differ 12 = .ok (.astore 7, 2) := by decide +kernel
theorem dX8_differ_14 : decode cX8_differ 14 = .ok (.aload 6, 2) := by decide +kernel
theorem dX8_differ_16 : decode cX8_differ 16 = .ok (.ifnull 37, 3) := by decide +kernel
theorem dX8_differ_53 : decode cX8_differ 53 = .ok (.new 187, 3) := by decide +kernel
theorem dX8_differ_56 : decode cX8_differ 56 = .ok (.dup, 1) := by decide +kernel
theorem dX8_differ_57 : decode cX8_differ 57 = .ok (.ldc 212, 2) := by decide +kernel
theorem dX8_differ_59 : decode cX8_differ 59 = .ok (.invokespecial 191, 3) := by decide +kernel
theorem dX8_differ_62 : decode cX8_differ 62 = .ok (.athrow, 1) := by decide +kernel
theorem dL_need_0 : decode cL_need 0 = .ok (.aload 5, 2) := by decide +kernel
theorem dL_need_2 : decode cL_need 2 = .ok (.iconst 0, 1) := by decide +kernel
theorem dL_need_3 : decode cL_need 3 = .ok (.aload_n 0, 1) := by decide +kernel
theorem dL_need_4 : decode cL_need 4 = .ok (.iload_n 1, 1) := by decide +kernel
theorem dL_need_5 : decode cL_need 5 = .ok (.iload_n 2, 1) := by decide +kernel
theorem dL_need_6 : decode cL_need 6 = .ok (.iload_n 3, 1) := by decide +kernel
theorem dL_need_7 : decode cL_need 7 = .ok (.iload 4, 2) := by decide +kernel
theorem dL_need_9 : decode cL_need 9 = .ok (.invokevirtual 7, 3) := by decide +kernel
theorem dL_need_17 : decode cL_need 17 = .ok (.astore 6, 2) := by decide +kernel
theorem dL_need_19 : decode cL_need 19 = .ok (.iconst 1, 1) := by decide +kernel
theorem dL_need_20 : decode cL_need 20 = .ok (.ireturn, 1) := by decide +kernel
theorem dL_shift_0 : decode cL_shift 0 = .ok (.aload_n 3, 1) := by decide +kernel
theorem dL_shift_1 : decode cL_shift 1 = .ok (.iconst 0, 1) := by decide +kernel
theorem dL_shift_2 : decode cL_shift 2 = .ok (.aload_n 0, 1) := by decide +kernel
theorem dL_shift_3 : decode cL_shift 3 = .ok (.iload_n 1, 1) := by decide +kernel
theorem dL_shift_4 : decode cL_shift 4 = .ok (.iload_n 2, 1) := by decide +kernel
theorem dL_shift_5 : decode cL_shift 5 = .ok (.invokevirtual 15, 3) := by decide +kernel
theorem dL_shift_13 : decode cL_shift 13 = .ok (.astore 4, 2) := by decide +kernel
theorem dL_shift_15 : decode cL_shift 15 = .ok (.iconst 1, 1) := by decide +kernel
theorem dL_shift_16 : decode cL_shift 16 = .ok (.ireturn, 1) := by decide +kernel
theorem dL_differ_0 : decode cL_differ 0 = .ok (.aload 6, 2) := by decide +kernel
theorem dL_differ_2 : decode cL_differ 2 = .ok (.iconst 0, 1) := by decide +kernel
theorem dL_differ_3 : decode cL_differ 3 = .ok (.aload_n 0, 1) := by decide +kernel
theorem dL_differ_4 : decode cL_differ 4 = .ok (.iload_n 1, 1) := by decide +kernel
theorem dL_differ_5 : decode cL_differ 5 = .ok (.iload_n 2, 1) := by decide +kernel
theorem dL_differ_6 : decode cL_differ 6 = .ok (.iload_n 3, 1) := by decide +kernel
theorem dL_differ_7 : decode cL_differ 7 = .ok (.iload 4, 2) := by decide +kernel
theorem dL_differ_9 : decode cL_differ 9 = .ok (.iload 5, 2) := by decide +kernel
theorem dL_differ_11 : decode cL_differ 11 = .ok (.invokevirtual 19, 3) := by decide +kernel
theorem dL_differ_19 : decode cL_differ 19 = .ok (.astore 7, 2) := by decide +kernel
theorem dL_differ_21 : decode cL_differ 21 = .ok (.iconst 1, 1) := by decide +kernel
theorem dL_differ_22 : decode cL_differ 22 = .ok (.ireturn, 1) := by decide +kernel
set_option maxHeartbeats 4000000 in
set_option maxRecDepth 100000 in
theorem c_X8_need (l : Launch) (hlt : l.stackTraces = false) (D : va_G) (sz : Nat) (h0 : Nat) (fs : List Value) (x1 : Int32) (x2 : Int32) (x3 : Int32) (x4 : Int32) (hf8 : fs[8]? = some (.int 0)) (hf9 : fs[9]? = some (.int 0)) : vx_Met l yX8_need (.code yX8_need cX8_need 8 (some .int) :: G) ({ frames := 9, cells := 1, slots := 6, locals := 160 }) (va_Pc [.ref h0, .int x1, .int x2, .int x3, .int x4] (pt D sz [(h0, .inr (8, fs))] [])) (va_Qi (fun (_ : Int32) (_ : Unit) => False) (fun (_ : Unit) (_ : State) => True) (va_A [(h0, .inr (8, fs))] sz)) (vx_X (fun (_ : Unit) => True) (fun (E : String) (_ : Unit) (_ : State) => E = NSE) (va_A [(h0, .inr (8, fs))] sz)) 1 6 (va_A [(h0, .inr (8, fs))] sz) := by
  refine vx_ofW (cc := cX8_need) (maxL := 8) (ret := (some .int)) (by decide) rfl ?_
  intro p e s m args below meth c s₁ B hml hnt hv
  obtain ⟨rfl, ⟨hsz, hP, hK, hD0, hN⟩, hT⟩ := hv
  have hx := B.exec
  have hb := B.bytes
  have hr := B.returns
  have hts := atoms_spec (ws := (.code yX8_need cX8_need 8 (some .int) :: G)) B.pre
  have hown : s.vm.findClass RX8 = some m.cls := findClass_of_methodNamed B.named
  have hlocks := B.notSynchronized
  subst hsz
  have hD := hD0.self (sz := s.heap.size)
  generalize hAe : va_A [(h0, .inr (8, fs))] s.heap.size = A at hD hT ⊢
  have hA : ∀ q : Nat, s.heap.size ≤ q → A q := fun q h => by rw [← hAe]; exact Or.inr h
  have hS : va_S A s.heap s.heap [] := va_S.rf
  have hP : va_P D vwCl [(h0, .inr (8, fs))] s.heap := hP
  have hl := lv_entry ([.ref h0, .int x1, .int x2, .int x3, .int x4]) (n := 8) (Nat.le_of_ble_eq_true rfl)
  rw [lg_entry_eq]
  generalize (lg_sl ([.ref h0, .int x1, .int x2, .int x3, .int x4]) ++ List.replicate (8 - (lg_sl ([.ref h0, .int x1, .int x2, .int x3, .int x4])).length) Slot.unset).toArray = ls at hl ⊢
  have hl : lv_has ls 8 [(0, .ref h0), (1, .int x1), (2, .int x2), (3, .int x3), (4, .int x4)] := hl
  refine lv_aload_n hx hb dX8_need_0 rfl (lv_at hl 0 rfl) ?_
  refine lv_iload_n hx hb dX8_need_1 rfl (lv_at hl 1 rfl) ?_
  refine fr_q (wr := []) (va_runV (As := [.int x1]) (rest := []) ⟨hx, hb, hml, hown, hts⟩ (c_X8_personAt l D s.heap.size h0 x1 fs hf9) (cwV 1 hts (gV (fun w h => List.mem_cons_of_mem _ h) gw_193 gw_194 gw_195 gw_135 gw_192) rfl rfl rfl (by decide +kernel) ⟨Nat.le_of_ble_eq_true rfl, Nat.le_of_ble_eq_true rfl⟩) (pw_V [0] [] hP hD hK hN rfl rfl (by decide) rfl (ci := 8) (q0 := 0) rfl rfl) rfl rfl hl.1 rfl (lv_room (Nat.le_of_ble_eq_true rfl)) dX8_need_2 ⟨Nat.le_of_ble_eq_true rfl, Nat.le_of_ble_eq_true rfl⟩) hP hD hK hS hA [0] [] rfl rfl (by decide) (by decide) (fun r_2 u_1 H locs hw_3 hP hD hK hS => ?_)
  try dsimp only at hw_3
  have hP : va_P D vwCl [(h0, .inr (8, fs))] H := hP
  have hD : va_D A [(h0, .inr (8, fs))] := hD
  have hK : va_K D vwCl [] s := hK
  refine W.widen (k := 0) (n := 0) (Nat.le_of_ble_eq_true rfl) (Nat.le_of_ble_eq_true rfl) ?_
  subst hw_3
  show W _ _ _ _ _ _ _ _ _ _ _ _ _ _ _ (F0 _ _ _ (.null :: _))
  refine lv_astoreN (lv' := [(5, .null), (0, .ref h0), (1, .int x1), (2, .int x2), (3, .int x3), (4, .int x4)]) hx hb dX8_need_5 hl (by decide) rfl (fun ls hl => ?_)
  refine lv_aloadN hx hb dX8_need_7 (lv_at hl 0 rfl) ?_
  refine lv_ifnullN (tgt := 39) hx hb dX8_need_9 (by decide) ?_
  obtain ⟨sa, hstr⟩ := hT.1
  refine cx_throwS (own := RX8) (cls := NSE) (sup := "java/lang/RuntimeException") (names := ["java/lang/Exception"]) (ic := 191) (ix := 13) (bytes := prog_18_method_4_code) (A := A) hx hb hlt hown (by decide) (by decide) (by decide) (by decide +kernel) (by decide +kernel) (by decide +kernel) (by decide +kernel) (hts _ (List.mem_cons_of_mem _ gw_327)) (hts _ (List.mem_cons_of_mem _ gw_328)) hstr (vx_hat (fun w h => hts w (List.mem_cons_of_mem _ (inGT w h))) BT_all (tw_words hT)) LT_ot hT.2.2.2.1 hT.2.2.2.2.1 hS (by rw [hml]; exact hl.1) dX8_need_39 dX8_need_42 dX8_need_43 dX8_need_45 dX8_need_48 (fun x h => (hnt x h).elim) (Nat.le_of_ble_eq_true rfl) (Nat.le_of_ble_eq_true rfl) (Nat.le_of_ble_eq_true rfl) (Nat.le_of_ble_eq_true rfl) hlocks (fun t h1 h2 h3 => ⟨(), trivial, rfl, Nat.le_trans hS.1 h2, fun q hq hn => (h3 q (Nat.lt_of_lt_of_le hq hS.1)).trans (hS.2.1 q hq hn)⟩) hS.2.2 (Nat.le_of_ble_eq_true rfl) (Nat.le_of_ble_eq_true rfl)
set_option maxHeartbeats 4000000 in
set_option maxRecDepth 100000 in
theorem c_X8_shift (l : Launch) (hlt : l.stackTraces = false) (D : va_G) (sz : Nat) (h0 : Nat) (fs : List Value) (x1 : Int32) (x2 : Int32) (hf8 : fs[8]? = some (.int 0)) (hf9 : fs[9]? = some (.int 0)) : vx_Met l yX8_shift (.code yX8_shift cX8_shift 3 (some .int) :: G) ({ frames := 9, cells := 1, slots := 6, locals := 160 }) (va_Pc [.ref h0, .int x1, .int x2] (pt D sz [(h0, .inr (8, fs))] [])) (va_Qi (fun (_ : Int32) (_ : Unit) => False) (fun (_ : Unit) (_ : State) => True) (va_A [(h0, .inr (8, fs))] sz)) (vx_X (fun (_ : Unit) => True) (fun (E : String) (_ : Unit) (_ : State) => E = NSE) (va_A [(h0, .inr (8, fs))] sz)) 1 6 (va_A [(h0, .inr (8, fs))] sz) := by
  refine vx_ofW (cc := cX8_shift) (maxL := 3) (ret := (some .int)) (by decide) rfl ?_
  intro p e s m args below meth c s₁ B hml hnt hv
  obtain ⟨rfl, ⟨hsz, hP, hK, hD0, hN⟩, hT⟩ := hv
  have hx := B.exec
  have hb := B.bytes
  have hr := B.returns
  have hts := atoms_spec (ws := (.code yX8_shift cX8_shift 3 (some .int) :: G)) B.pre
  have hown : s.vm.findClass RX8 = some m.cls := findClass_of_methodNamed B.named
  have hlocks := B.notSynchronized
  subst hsz
  have hD := hD0.self (sz := s.heap.size)
  generalize hAe : va_A [(h0, .inr (8, fs))] s.heap.size = A at hD hT ⊢
  have hA : ∀ q : Nat, s.heap.size ≤ q → A q := fun q h => by rw [← hAe]; exact Or.inr h
  have hS : va_S A s.heap s.heap [] := va_S.rf
  have hP : va_P D vwCl [(h0, .inr (8, fs))] s.heap := hP
  have hl := lv_entry ([.ref h0, .int x1, .int x2]) (n := 3) (Nat.le_of_ble_eq_true rfl)
  rw [lg_entry_eq]
  generalize (lg_sl ([.ref h0, .int x1, .int x2]) ++ List.replicate (3 - (lg_sl ([.ref h0, .int x1, .int x2])).length) Slot.unset).toArray = ls at hl ⊢
  have hl : lv_has ls 3 [(0, .ref h0), (1, .int x1), (2, .int x2)] := hl
  refine lv_aload_n hx hb dX8_shift_0 rfl (lv_at hl 0 rfl) ?_
  refine lv_iload_n hx hb dX8_shift_1 rfl (lv_at hl 1 rfl) ?_
  refine fr_q (wr := []) (va_runV (As := [.int x1]) (rest := []) ⟨hx, hb, hml, hown, hts⟩ (c_X8_makerAt l D s.heap.size h0 x1 fs hf8) (cwV 1 hts (gV (fun w h => List.mem_cons_of_mem _ h) gw_180 gw_181 gw_182 gw_135 gw_179) rfl rfl rfl (by decide +kernel) ⟨Nat.le_of_ble_eq_true rfl, Nat.le_of_ble_eq_true rfl⟩) (pw_V [0] [] hP hD hK hN rfl rfl (by decide) rfl (ci := 8) (q0 := 0) rfl rfl) rfl rfl hl.1 rfl (lv_room (Nat.le_of_ble_eq_true rfl)) dX8_shift_2 ⟨Nat.le_of_ble_eq_true rfl, Nat.le_of_ble_eq_true rfl⟩) hP hD hK hS hA [0] [] rfl rfl (by decide) (by decide) (fun r_2 u_1 H locs hw_3 hP hD hK hS => ?_)
  try dsimp only at hw_3
  have hP : va_P D vwCl [(h0, .inr (8, fs))] H := hP
  have hD : va_D A [(h0, .inr (8, fs))] := hD
  have hK : va_K D vwCl [] s := hK
  refine W.widen (k := 0) (n := 0) (Nat.le_of_ble_eq_true rfl) (Nat.le_of_ble_eq_true rfl) ?_
  subst hw_3
  show W _ _ _ _ _ _ _ _ _ _ _ _ _ _ _ (F0 _ _ _ (.null :: _))
  refine lv_ifnullN (tgt := 17) hx hb dX8_shift_5 (by decide) ?_
  obtain ⟨sa, hstr⟩ := hT.2.1
  refine cx_throwS (own := RX8) (cls := NSE) (sup := "java/lang/RuntimeException") (names := ["java/lang/Exception"]) (ic := 191) (ix := 13) (bytes := prog_18_method_4_code) (A := A) hx hb hlt hown (by decide) (by decide) (by decide) (by decide +kernel) (by decide +kernel) (by decide +kernel) (by decide +kernel) (hts _ (List.mem_cons_of_mem _ gw_327)) (hts _ (List.mem_cons_of_mem _ gw_328)) hstr (vx_hat (fun w h => hts w (List.mem_cons_of_mem _ (inGT w h))) BT_all (tw_words hT)) LT_ot hT.2.2.2.1 hT.2.2.2.2.1 hS (by rw [hml]; exact hl.1) dX8_shift_17 dX8_shift_20 dX8_shift_21 dX8_shift_23 dX8_shift_26 (fun x h => (hnt x h).elim) (Nat.le_of_ble_eq_true rfl) (Nat.le_of_ble_eq_true rfl) (Nat.le_of_ble_eq_true rfl) (Nat.le_of_ble_eq_true rfl) hlocks (fun t h1 h2 h3 => ⟨(), trivial, rfl, Nat.le_trans hS.1 h2, fun q hq hn => (h3 q (Nat.lt_of_lt_of_le hq hS.1)).trans (hS.2.1 q hq hn)⟩) hS.2.2 (Nat.le_of_ble_eq_true rfl) (Nat.le_of_ble_eq_true rfl)
set_option maxHeartbeats 4000000 in
set_option maxRecDepth 100000 in
theorem c_X8_differ (l : Launch) (hlt : l.stackTraces = false) (D : va_G) (sz : Nat) (h0 : Nat) (fs : List Value) (x1 : Int32) (x2 : Int32) (x3 : Int32) (x4 : Int32) (x5 : Int32) (hf8 : fs[8]? = some (.int 0)) (hf9 : fs[9]? = some (.int 0)) : vx_Met l yX8_differ (.code yX8_differ cX8_differ 11 (some .int) :: G) ({ frames := 9, cells := 1, slots := 6, locals := 160 }) (va_Pc [.ref h0, .int x1, .int x2, .int x3, .int x4, .int x5] (pt D sz [(h0, .inr (8, fs))] [])) (va_Qi (fun (_ : Int32) (_ : Unit) => False) (fun (_ : Unit) (_ : State) => True) (va_A [(h0, .inr (8, fs))] sz)) (vx_X (fun (_ : Unit) => True) (fun (E : String) (_ : Unit) (_ : State) => E = NSE) (va_A [(h0, .inr (8, fs))] sz)) 1 6 (va_A [(h0, .inr (8, fs))] sz) := by
  refine vx_ofW (cc := cX8_differ) (maxL := 11) (ret := (some .int)) (by decide) rfl ?_
  intro p e s m args below meth c s₁ B hml hnt hv
  obtain ⟨rfl, ⟨hsz, hP, hK, hD0, hN⟩, hT⟩ := hv
  have hx := B.exec
  have hb := B.bytes
  have hr := B.returns
  have hts := atoms_spec (ws := (.code yX8_differ cX8_differ 11 (some .int) :: G)) B.pre
  have hown : s.vm.findClass RX8 = some m.cls := findClass_of_methodNamed B.named
  have hlocks := B.notSynchronized
  subst hsz
  have hD := hD0.self (sz := s.heap.size)
  generalize hAe : va_A [(h0, .inr (8, fs))] s.heap.size = A at hD hT ⊢
  have hA : ∀ q : Nat, s.heap.size ≤ q → A q := fun q h => by rw [← hAe]; exact Or.inr h
  have hS : va_S A s.heap s.heap [] := va_S.rf
  have hP : va_P D vwCl [(h0, .inr (8, fs))] s.heap := hP
  have hl := lv_entry ([.ref h0, .int x1, .int x2, .int x3, .int x4, .int x5]) (n := 11) (Nat.le_of_ble_eq_true rfl)
  rw [lg_entry_eq]
  generalize (lg_sl ([.ref h0, .int x1, .int x2, .int x3, .int x4, .int x5]) ++ List.replicate (11 - (lg_sl ([.ref h0, .int x1, .int x2, .int x3, .int x4, .int x5])).length) Slot.unset).toArray = ls at hl ⊢
  have hl : lv_has ls 11 [(0, .ref h0), (1, .int x1), (2, .int x2), (3, .int x3), (4, .int x4), (5, .int x5)] := hl
  refine lv_aload_n hx hb dX8_differ_0 rfl (lv_at hl 0 rfl) ?_
  refine lv_iload_n hx hb dX8_differ_1 rfl (lv_at hl 1 rfl) ?_
  refine fr_q (wr := []) (va_runV (As := [.int x1]) (rest := []) ⟨hx, hb, hml, hown, hts⟩ (c_X8_personAt l D s.heap.size h0 x1 fs hf9) (cwV 1 hts (gV (fun w h => List.mem_cons_of_mem _ h) gw_193 gw_194 gw_195 gw_135 gw_192) rfl rfl rfl (by decide +kernel) ⟨Nat.le_of_ble_eq_true rfl, Nat.le_of_ble_eq_true rfl⟩) (pw_V [0] [] hP hD hK hN rfl rfl (by decide) rfl (ci := 8) (q0 := 0) rfl rfl) rfl rfl hl.1 rfl (lv_room (Nat.le_of_ble_eq_true rfl)) dX8_differ_2 ⟨Nat.le_of_ble_eq_true rfl, Nat.le_of_ble_eq_true rfl⟩) hP hD hK hS hA [0] [] rfl rfl (by decide) (by decide) (fun r_2 u_1 H locs hw_3 hP hD hK hS => ?_)
  try dsimp only at hw_3
  have hP : va_P D vwCl [(h0, .inr (8, fs))] H := hP
  have hD : va_D A [(h0, .inr (8, fs))] := hD
  have hK : va_K D vwCl [] s := hK
  refine W.widen (k := 0) (n := 0) (Nat.le_of_ble_eq_true rfl) (Nat.le_of_ble_eq_true rfl) ?_
  subst hw_3
  show W _ _ _ _ _ _ _ _ _ _ _ _ _ _ _ (F0 _ _ _ (.null :: _))
  refine lv_astoreN (lv' := [(6, .null), (0, .ref h0), (1, .int x1), (2, .int x2), (3, .int x3), (4, .int x4), (5, .int x5)]) hx hb dX8_differ_5 hl (by decide) rfl (fun ls hl => ?_)
  refine lv_aload_n hx hb dX8_differ_7 rfl (lv_at hl 1 rfl) ?_
  refine lv_iload_n hx hb dX8_differ_8 rfl (lv_at hl 4 rfl) ?_
  refine fr_q (wr := []) (va_runV (As := [.int x3]) (rest := []) ⟨hx, hb, hml, hown, hts⟩ (c_X8_personAt l D H.size h0 x3 fs hf9) (cwV 1 hts (gV (fun w h => List.mem_cons_of_mem _ h) gw_193 gw_194 gw_195 gw_135 gw_192) rfl rfl rfl (by decide +kernel) ⟨Nat.le_of_ble_eq_true rfl, Nat.le_of_ble_eq_true rfl⟩) (pw_V [0] [] hP hD hK hN rfl rfl (by decide) rfl (ci := 8) (q0 := 0) rfl rfl) rfl rfl hl.1 rfl (lv_room (Nat.le_of_ble_eq_true rfl)) dX8_differ_9 ⟨Nat.le_of_ble_eq_true rfl, Nat.le_of_ble_eq_true rfl⟩) hP hD hK hS hA [0] [] rfl rfl (by decide) (by decide) (fun r_5 u_4 H locs hw_6 hP hD hK hS => ?_)
  try dsimp only at hw_6
  have hP : va_P D vwCl [(h0, .inr (8, fs))] H := hP
  have hD : va_D A [(h0, .inr (8, fs))] := hD
  have hK : va_K D vwCl [] s := hK
  refine W.widen (k := 0) (n := 0) (Nat.le_of_ble_eq_true rfl) (Nat.le_of_ble_eq_true rfl) ?_
  subst hw_6
  show W _ _ _ _ _ _ _ _ _ _ _ _ _ _ _ (F0 _ _ _ (.null :: _))
  refine lv_astoreN (lv' := [(7, .null), (6, .null), (0, .ref h0), (1, .int x1), (2, .int x2), (3, .int x3), (4, .int x4), (5, .int x5)]) hx hb dX8_differ_12 hl (by decide) rfl (fun ls hl => ?_)
  refine lv_aloadN hx hb dX8_differ_14 (lv_at hl 1 rfl) ?_
  refine lv_ifnullN (tgt := 53) hx hb dX8_differ_16 (by decide) ?_
  obtain ⟨sa, hstr⟩ := hT.2.2.1
  refine cx_throwS (own := RX8) (cls := NSE) (sup := "java/lang/RuntimeException") (names := ["java/lang/Exception"]) (ic := 191) (ix := 13) (bytes := prog_18_method_4_code) (A := A) hx hb hlt hown (by decide) (by decide) (by decide) (by decide +kernel) (by decide +kernel) (by decide +kernel) (by decide +kernel) (hts _ (List.mem_cons_of_mem _ gw_327)) (hts _ (List.mem_cons_of_mem _ gw_328)) hstr (vx_hat (fun w h => hts w (List.mem_cons_of_mem _ (inGT w h))) BT_all (tw_words hT)) LT_ot hT.2.2.2.1 hT.2.2.2.2.1 hS (by rw [hml]; exact hl.1) dX8_differ_53 dX8_differ_56 dX8_differ_57 dX8_differ_59 dX8_differ_62 (fun x h => (hnt x h).elim) (Nat.le_of_ble_eq_true rfl) (Nat.le_of_ble_eq_true rfl) (Nat.le_of_ble_eq_true rfl) (Nat.le_of_ble_eq_true rfl) hlocks (fun t h1 h2 h3 => ⟨(), trivial, rfl, Nat.le_trans hS.1 h2, fun q hq hn => (h3 q (Nat.lt_of_lt_of_le hq hS.1)).trans (hS.2.1 q hq hn)⟩) hS.2.2 (Nat.le_of_ble_eq_true rfl) (Nat.le_of_ble_eq_true rfl)
set_option maxHeartbeats 4000000 in
set_option maxRecDepth 100000 in
theorem c_L_need (l : Launch) (hlt : l.stackTraces = false) (D : va_G) (sz : Nat) (h0 qo : Nat) (fs : List Value) (x1 : Int32) (x2 : Int32) (x3 : Int32) (x4 : Int32) (hf8 : fs[8]? = some (.int 0)) (hf9 : fs[9]? = some (.int 0)) : Met l yL_need (.codeWith yL_need cL_need 7 (some .int) [(0, 14, 17, 13)] :: G) ({ frames := 13, cells := 1, slots := 6, locals := 260 }) (va_Pc [.ref h0, .int x1, .int x2, .int x3, .int x4, .ref qo] (pt D sz [(h0, .inr (8, fs))] [])) (va_Qi (fun (r : Int32) (_ : Unit) => r = 1) (fun (_ : Unit) => qw D (va_A [(h0, .inr (8, fs))] sz) [] []) (va_A [(h0, .inr (8, fs))] sz)) 1 6 (va_A [(h0, .inr (8, fs))] sz) := by
  refine va_MetW (cc := cL_need) (maxL := 7) (ret := some .int) (hh := [(0, 14, 17, 13)]) (by decide) rfl ?_
  intro p e s m args below meth c s₁ B hml hv
  obtain ⟨rfl, ⟨hsz, hP, hK, hD0, hN⟩, hT⟩ := hv
  have hx := B.exec
  have hb := B.bytes
  have hr := B.returns
  have hts := atoms_spec (ws := (.codeWith yL_need cL_need 7 (some .int) [(0, 14, 17, 13)] :: G)) B.pre
  have htab := vx_table (x := yL_need) B (hts _ List.mem_cons_self)
  have hown : s.vm.findClass RL = some m.cls := findClass_of_methodNamed B.named
  have hlocks := B.notSynchronized
  subst hsz
  have hD := hD0.self (sz := s.heap.size)
  generalize hAe : va_A [(h0, .inr (8, fs))] s.heap.size = A at hD hT ⊢
  have hA : ∀ q : Nat, s.heap.size ≤ q → A q := fun q h => by rw [← hAe]; exact Or.inr h
  have hS : va_S A s.heap s.heap [] := va_S.rf
  have hP : va_P D vwCl [(h0, .inr (8, fs))] s.heap := hP
  have hl := lv_entry ([.ref h0, .int x1, .int x2, .int x3, .int x4, .ref qo]) (n := 7) (Nat.le_of_ble_eq_true rfl)
  rw [lg_entry_eq]
  generalize (lg_sl ([.ref h0, .int x1, .int x2, .int x3, .int x4, .ref qo]) ++ List.replicate (7 - (lg_sl ([.ref h0, .int x1, .int x2, .int x3, .int x4, .ref qo])).length) Slot.unset).toArray = ls at hl ⊢
  have hl : lv_has ls 7 [(0, .ref h0), (1, .int x1), (2, .int x2), (3, .int x3), (4, .int x4), (5, .ref qo)] := hl
  refine lv_aload hx hb dL_need_0 (lv_at hl 5 rfl) ?_
  refine lv_iconst (v := 0) hx hb dL_need_2 (by decide) ?_
  refine lv_aload_n hx hb dL_need_3 rfl (lv_at hl 0 rfl) ?_
  refine lv_iload_n hx hb dL_need_4 rfl (lv_at hl 1 rfl) ?_
  refine lv_iload_n hx hb dL_need_5 rfl (lv_at hl 2 rfl) ?_
  refine lv_iload_n hx hb dL_need_6 rfl (lv_at hl 3 rfl) ?_
  refine lv_iload hx hb dL_need_7 (lv_at hl 4 rfl) ?_
  have hFc := va_free (wc := [(h0, .inr (8, fs))]) hD hS hA [0] rfl
  refine vx_calli (vx_runV (As := [.int x1, .int x2, .int x3, .int x4]) (rest := [.int 0, .ref qo]) ⟨hx, hb, hml, hown, hts⟩ (c_X8_need l hlt D s.heap.size h0 fs x1 x2 x3 x4 hf8 hf9) (cwV 4 hts (gV (fun w h => List.mem_cons_of_mem _ h) gw_330 gw_331 gw_332 gw_135 gw_333) rfl rfl rfl (by decide +kernel) ⟨Nat.le_of_ble_eq_true rfl, Nat.le_of_ble_eq_true rfl⟩) (pt_V [0] [] hP hD hK hN hS hA hT rfl rfl (by decide) rfl (ci := 8) (q0 := 0) rfl rfl) rfl rfl hl.1 rfl (lv_room (Nat.le_of_ble_eq_true rfl)) dL_need_9 ⟨Nat.le_of_ble_eq_true rfl, Nat.le_of_ble_eq_true rfl⟩) hS (fun q _ h => hFc q h) hFc (fun q _ h => hFc q h) (fun E ce q9 u t H1 locs1 ht hvm hpx hBX hz hk hS1 hce hcv hcc => ?_) (fun r u t H1 locs1 ht hvm hw hB hz hk hS1 => hw.elim)
  have hE : E = NSE := hBX
  subst hE
  refine cx_catch hown ⟨0, 14, 17, 13⟩ (by rw [htab]; rfl) (by decide) (by decide) (hts _ (List.mem_cons_of_mem _ gw_334)) (va_Nw.use rfl hT.2.2.2.2.2.1) hce hcv hcc ?_
  refine lv_astore (lv' := [(6, .ref q9), (0, .ref h0), (1, .int x1), (2, .int x2), (3, .int x3), (4, .int x4), (5, .ref qo)]) hx hb dL_need_17 hl (by decide) rfl (fun ls hl => ?_)
  refine lv_iconst (v := 1) hx hb dL_need_19 (by decide) ?_
  refine W.widen (k := 1) (n := 6) (Nat.le_of_ble_eq_true rfl) (Nat.le_of_ble_eq_true rfl) ?_
  have hK9 := hK.sub (tys' := []) [] rfl
  exact W.iret (v := 1) hx hb hr (fun t ht hW => ⟨⟨1, (), rfl, rfl, fun k q h => by simp at h, va_K.moved hW.alike hK9, ⟨fun i j p q h => by simp at h, fun k q h => by simp at h⟩⟩, hS1.F ht⟩) hS1.2.2 dL_need_20
set_option maxHeartbeats 4000000 in
set_option maxRecDepth 100000 in
theorem c_L_shift (l : Launch) (hlt : l.stackTraces = false) (D : va_G) (sz : Nat) (h0 qo : Nat) (fs : List Value) (x1 : Int32) (x2 : Int32) (hf8 : fs[8]? = some (.int 0)) (hf9 : fs[9]? = some (.int 0)) : Met l yL_shift (.codeWith yL_shift cL_shift 5 (some .int) [(0, 10, 13, 13)] :: G) ({ frames := 13, cells := 1, slots := 6, locals := 260 }) (va_Pc [.ref h0, .int x1, .int x2, .ref qo] (pt D sz [(h0, .inr (8, fs))] [])) (va_Qi (fun (r : Int32) (_ : Unit) => r = 1) (fun (_ : Unit) => qw D (va_A [(h0, .inr (8, fs))] sz) [] []) (va_A [(h0, .inr (8, fs))] sz)) 1 6 (va_A [(h0, .inr (8, fs))] sz) := by
  refine va_MetW (cc := cL_shift) (maxL := 5) (ret := some .int) (hh := [(0, 10, 13, 13)]) (by decide) rfl ?_
  intro p e s m args below meth c s₁ B hml hv
  obtain ⟨rfl, ⟨hsz, hP, hK, hD0, hN⟩, hT⟩ := hv
  have hx := B.exec
  have hb := B.bytes
  have hr := B.returns
  have hts := atoms_spec (ws := (.codeWith yL_shift cL_shift 5 (some .int) [(0, 10, 13, 13)] :: G)) B.pre
  have htab := vx_table (x := yL_shift) B (hts _ List.mem_cons_self)
  have hown : s.vm.findClass RL = some m.cls := findClass_of_methodNamed B.named
  have hlocks := B.notSynchronized
  subst hsz
  have hD := hD0.self (sz := s.heap.size)
  generalize hAe : va_A [(h0, .inr (8, fs))] s.heap.size = A at hD hT ⊢
  have hA : ∀ q : Nat, s.heap.size ≤ q → A q := fun q h => by rw [← hAe]; exact Or.inr h
  have hS : va_S A s.heap s.heap [] := va_S.rf
  have hP : va_P D vwCl [(h0, .inr (8, fs))] s.heap := hP
  have hl := lv_entry ([.ref h0, .int x1, .int x2, .ref qo]) (n := 5) (Nat.le_of_ble_eq_true rfl)
  rw [lg_entry_eq]
  generalize (lg_sl ([.ref h0, .int x1, .int x2, .ref qo]) ++ List.replicate (5 - (lg_sl ([.ref h0, .int x1, .int x2, .ref qo])).length) Slot.unset).toArray = ls at hl ⊢
  have hl : lv_has ls 5 [(0, .ref h0), (1, .int x1), (2, .int x2), (3, .ref qo)] := hl
  refine lv_aload_n hx hb dL_shift_0 rfl (lv_at hl 3 rfl) ?_
  refine lv_iconst (v := 0) hx hb dL_shift_1 (by decide) ?_
  refine lv_aload_n hx hb dL_shift_2 rfl (lv_at hl 0 rfl) ?_
  refine lv_iload_n hx hb dL_shift_3 rfl (lv_at hl 1 rfl) ?_
  refine lv_iload_n hx hb dL_shift_4 rfl (lv_at hl 2 rfl) ?_
  have hFc := va_free (wc := [(h0, .inr (8, fs))]) hD hS hA [0] rfl
  refine vx_calli (vx_runV (As := [.int x1, .int x2]) (rest := [.int 0, .ref qo]) ⟨hx, hb, hml, hown, hts⟩ (c_X8_shift l hlt D s.heap.size h0 fs x1 x2 hf8 hf9) (cwV 2 hts (gV (fun w h => List.mem_cons_of_mem _ h) gw_336 gw_337 gw_338 gw_135 gw_339) rfl rfl rfl (by decide +kernel) ⟨Nat.le_of_ble_eq_true rfl, Nat.le_of_ble_eq_true rfl⟩) (pt_V [0] [] hP hD hK hN hS hA hT rfl rfl (by decide) rfl (ci := 8) (q0 := 0) rfl rfl) rfl rfl hl.1 rfl (lv_room (Nat.le_of_ble_eq_true rfl)) dL_shift_5 ⟨Nat.le_of_ble_eq_true rfl, Nat.le_of_ble_eq_true rfl⟩) hS (fun q _ h => hFc q h) hFc (fun q _ h => hFc q h) (fun E ce q9 u t H1 locs1 ht hvm hpx hBX hz hk hS1 hce hcv hcc => ?_) (fun r u t H1 locs1 ht hvm hw hB hz hk hS1 => hw.elim)
  have hE : E = NSE := hBX
  subst hE
  refine cx_catch hown ⟨0, 10, 13, 13⟩ (by rw [htab]; rfl) (by decide) (by decide) (hts _ (List.mem_cons_of_mem _ gw_334)) (va_Nw.use rfl hT.2.2.2.2.2.1) hce hcv hcc ?_
  refine lv_astore (lv' := [(4, .ref q9), (0, .ref h0), (1, .int x1), (2, .int x2), (3, .ref qo)]) hx hb dL_shift_13 hl (by decide) rfl (fun ls hl => ?_)
  refine lv_iconst (v := 1) hx hb dL_shift_15 (by decide) ?_
  refine W.widen (k := 1) (n := 6) (Nat.le_of_ble_eq_true rfl) (Nat.le_of_ble_eq_true rfl) ?_
  have hK9 := hK.sub (tys' := []) [] rfl
  exact W.iret (v := 1) hx hb hr (fun t ht hW => ⟨⟨1, (), rfl, rfl, fun k q h => by simp at h, va_K.moved hW.alike hK9, ⟨fun i j p q h => by simp at h, fun k q h => by simp at h⟩⟩, hS1.F ht⟩) hS1.2.2 dL_shift_16
set_option maxHeartbeats 4000000 in
set_option maxRecDepth 100000 in
theorem c_L_differ (l : Launch) (hlt : l.stackTraces = false) (D : va_G) (sz : Nat) (h0 qo : Nat) (fs : List Value) (x1 : Int32) (x2 : Int32) (x3 : Int32) (x4 : Int32) (x5 : Int32) (hf8 : fs[8]? = some (.int 0)) (hf9 : fs[9]? = some (.int 0)) : Met l yL_differ (.codeWith yL_differ cL_differ 8 (some .int) [(0, 16, 19, 13)] :: G) ({ frames := 13, cells := 1, slots := 6, locals := 260 }) (va_Pc [.ref h0, .int x1, .int x2, .int x3, .int x4, .int x5, .ref qo] (pt D sz [(h0, .inr (8, fs))] [])) (va_Qi (fun (r : Int32) (_ : Unit) => r = 1) (fun (_ : Unit) => qw D (va_A [(h0, .inr (8, fs))] sz) [] []) (va_A [(h0, .inr (8, fs))] sz)) 1 6 (va_A [(h0, .inr (8, fs))] sz) := by
  refine va_MetW (cc := cL_differ) (maxL := 8) (ret := some .int) (hh := [(0, 16, 19, 13)]) (by decide) rfl ?_
  intro p e s m args below meth c s₁ B hml hv
  obtain ⟨rfl, ⟨hsz, hP, hK, hD0, hN⟩, hT⟩ := hv
  have hx := B.exec
  have hb := B.bytes
  have hr := B.returns
  have hts := atoms_spec (ws := (.codeWith yL_differ cL_differ 8 (some .int) [(0, 16, 19, 13)] :: G)) B.pre
  have htab := vx_table (x := yL_differ) B (hts _ List.mem_cons_self)
  have hown : s.vm.findClass RL = some m.cls := findClass_of_methodNamed B.named
  have hlocks := B.notSynchronized
  subst hsz
  have hD := hD0.self (sz := s.heap.size)
  generalize hAe : va_A [(h0, .inr (8, fs))] s.heap.size = A at hD hT ⊢
  have hA : ∀ q : Nat, s.heap.size ≤ q → A q := fun q h => by rw [← hAe]; exact Or.inr h
  have hS : va_S A s.heap s.heap [] := va_S.rf
  have hP : va_P D vwCl [(h0, .inr (8, fs))] s.heap := hP
  have hl := lv_entry ([.ref h0, .int x1, .int x2, .int x3, .int x4, .int x5, .ref qo]) (n := 8) (Nat.le_of_ble_eq_true rfl)
  rw [lg_entry_eq]
  generalize (lg_sl ([.ref h0, .int x1, .int x2, .int x3, .int x4, .int x5, .ref qo]) ++ List.replicate (8 - (lg_sl ([.ref h0, .int x1, .int x2, .int x3, .int x4, .int x5, .ref qo])).length) Slot.unset).toArray = ls at hl ⊢
  have hl : lv_has ls 8 [(0, .ref h0), (1, .int x1), (2, .int x2), (3, .int x3), (4, .int x4), (5, .int x5), (6, .ref qo)] := hl
  refine lv_aload hx hb dL_differ_0 (lv_at hl 6 rfl) ?_
  refine lv_iconst (v := 0) hx hb dL_differ_2 (by decide) ?_
  refine lv_aload_n hx hb dL_differ_3 rfl (lv_at hl 0 rfl) ?_
  refine lv_iload_n hx hb dL_differ_4 rfl (lv_at hl 1 rfl) ?_
  refine lv_iload_n hx hb dL_differ_5 rfl (lv_at hl 2 rfl) ?_
  refine lv_iload_n hx hb dL_differ_6 rfl (lv_at hl 3 rfl) ?_
  refine lv_iload hx hb dL_differ_7 (lv_at hl 4 rfl) ?_
  refine lv_iload hx hb dL_differ_9 (lv_at hl 5 rfl) ?_
  have hFc := va_free (wc := [(h0, .inr (8, fs))]) hD hS hA [0] rfl
  refine vx_calli (vx_runV (As := [.int x1, .int x2, .int x3, .int x4, .int x5]) (rest := [.int 0, .ref qo]) ⟨hx, hb, hml, hown, hts⟩ (c_X8_differ l hlt D s.heap.size h0 fs x1 x2 x3 x4 x5 hf8 hf9) (cwV 5 hts (gV (fun w h => List.mem_cons_of_mem _ h) gw_341 gw_342 gw_343 gw_135 gw_344) rfl rfl rfl (by decide +kernel) ⟨Nat.le_of_ble_eq_true rfl, Nat.le_of_ble_eq_true rfl⟩) (pt_V [0] [] hP hD hK hN hS hA hT rfl rfl (by decide) rfl (ci := 8) (q0 := 0) rfl rfl) rfl rfl hl.1 rfl (lv_room (Nat.le_of_ble_eq_true rfl)) dL_differ_11 ⟨Nat.le_of_ble_eq_true rfl, Nat.le_of_ble_eq_true rfl⟩) hS (fun q _ h => hFc q h) hFc (fun q _ h => hFc q h) (fun E ce q9 u t H1 locs1 ht hvm hpx hBX hz hk hS1 hce hcv hcc => ?_) (fun r u t H1 locs1 ht hvm hw hB hz hk hS1 => hw.elim)
  have hE : E = NSE := hBX
  subst hE
  refine cx_catch hown ⟨0, 16, 19, 13⟩ (by rw [htab]; rfl) (by decide) (by decide) (hts _ (List.mem_cons_of_mem _ gw_334)) (va_Nw.use rfl hT.2.2.2.2.2.1) hce hcv hcc ?_
  refine lv_astore (lv' := [(7, .ref q9), (0, .ref h0), (1, .int x1), (2, .int x2), (3, .int x3), (4, .int x4), (5, .int x5), (6, .ref qo)]) hx hb dL_differ_19 hl (by decide) rfl (fun ls hl => ?_)
  refine lv_iconst (v := 1) hx hb dL_differ_21 (by decide) ?_
  refine W.widen (k := 1) (n := 6) (Nat.le_of_ble_eq_true rfl) (Nat.le_of_ble_eq_true rfl) ?_
  have hK9 := hK.sub (tys' := []) [] rfl
  exact W.iret (v := 1) hx hb hr (fun t ht hW => ⟨⟨1, (), rfl, rfl, fun k q h => by simp at h, va_K.moved hW.alike hK9, ⟨fun i j p q h => by simp at h, fun k q h => by simp at h⟩⟩, hS1.F ht⟩) hS1.2.2 dL_differ_22
