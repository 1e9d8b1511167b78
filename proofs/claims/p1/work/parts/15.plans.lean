theorem dX8_lookRound_0 : decode cX8_lookRound 0 = .ok (.aload_n 0, 1) := by decide +kernel
theorem dX8_lookRound_1 : decode cX8_lookRound 1 = .ok (.getfield 38, 3) := by decide +kernel
theorem dX8_lookRound_4 : decode cX8_lookRound 4 = .ok (.invokevirtual 369, 3) := by decide +kernel
theorem dX8_lookRound_7 : decode cX8_lookRound 7 = .ok (.iconst 0, 1) := by decide +kernel
theorem dX8_lookRound_8 : decode cX8_lookRound 8 = .ok (.istore_n 1, 1) := by decide +kernel
theorem dX8_lookRound_9 : decode cX8_lookRound 9 = .ok (.iload_n 1, 1) := by decide +kernel
theorem dX8_lookRound_10 : decode cX8_lookRound 10 = .ok (.aload_n 0, 1) := by decide +kernel
theorem dX8_lookRound_11 : decode cX8_lookRound 11 = .ok (.getfield 61, 3) := by decide +kernel
theorem dX8_lookRound_14 : decode cX8_lookRound 14 = .ok (.if_icmp .ge 75, 3) := by decide +kernel
theorem dX8_lookRound_89 : decode cX8_lookRound 89 = .ok (.aload_n 0, 1) := by decide +kernel
theorem dX8_lookRound_90 : decode cX8_lookRound 90 = .ok (.getfield 38, 3) := by decide +kernel
theorem dX8_lookRound_93 : decode cX8_lookRound 93 = .ok (.invokevirtual 382, 3) := by decide +kernel
theorem dX8_lookRound_96 : decode cX8_lookRound 96 = .ok (.return_, 1) := by decide +kernel
theorem dX8_makePlan_0 : decode cX8_makePlan 0 = .ok (.aload_n 0, 1) := by decide +kernel
theorem dX8_makePlan_1 : decode cX8_makePlan 1 = .ok (.getfield 53, 3) := by decide +kernel
theorem dX8_makePlan_4 : decode cX8_makePlan 4 = .ok (.ifnonnull 21, 3) := by decide +kernel
theorem dX8_makePlan_7 : decode cX8_makePlan 7 = .ok (.new 249, 3) := by decide +kernel
theorem dX8_makePlan_10 : decode cX8_makePlan 10 = .ok (.dup, 1) := by decide +kernel
theorem dX8_makePlan_11 : decode cX8_makePlan 11 = .ok (.aload_n 0, 1) := by decide +kernel
theorem dX8_makePlan_12 : decode cX8_makePlan 12 = .ok (.getfield 38, 3) := by decide +kernel
theorem dX8_makePlan_15 : decode cX8_makePlan 15 = .ok (.aload_n 0, 1) := by decide +kernel
theorem dX8_makePlan_16 : decode cX8_makePlan 16 = .ok (.getfield 31, 3) := by decide +kernel
theorem dX8_makePlan_19 : decode cX8_makePlan 19 = .ok (.invokespecial 388, 3) := by decide +kernel
theorem dX8_makePlan_22 : decode cX8_makePlan 22 = .ok (.goto 7, 3) := by decide +kernel
theorem dX8_makePlan_29 : decode cX8_makePlan 29 = .ok (.astore_n 1, 1) := by decide +kernel
theorem dX8_makePlan_30 : decode cX8_makePlan 30 = .ok (.aload_n 0, 1) := by decide +kernel
theorem dX8_makePlan_31 : decode cX8_makePlan 31 = .ok (.aload_n 1, 1) := by decide +kernel
theorem dX8_makePlan_32 : decode cX8_makePlan 32 = .ok (.putfield 53, 3) := by decide +kernel
theorem dX8_makePlan_35 : decode cX8_makePlan 35 = .ok (.aload_n 0, 1) := by decide +kernel
theorem dX8_makePlan_36 : decode cX8_makePlan 36 = .ok (.invokevirtual 222, 3) := by decide +kernel
theorem dX8_makePlan_39 : decode cX8_makePlan 39 = .ok (.aload_n 1, 1) := by decide +kernel
theorem dX8_makePlan_40 : decode cX8_makePlan 40 = .ok (.invokevirtual 391, 3) := by decide +kernel
theorem dX8_makePlan_43 : decode cX8_makePlan 43 = .ok (.aload_n 1, 1) := by decide +kernel
theorem dX8_makePlan_44 : decode cX8_makePlan 44 = .ok (.areturn, 1) := by decide +kernel
theorem dX8_makePlan_25 : decode cX8_makePlan 25 = .ok (.aload_n 0, 1) := by decide +kernel
theorem dX8_makePlan_26 : decode cX8_makePlan 26 = .ok (.getfield 53, 3) := by decide +kernel
set_option maxHeartbeats 4000000 in
set_option maxRecDepth 100000 in
theorem c_X8_lookRound (l : Launch) (D : va_G) (sz : Nat) (h0 : Nat) (fs : List Value) (qr : Nat) (qb : Nat) (qk : Nat) (s2 : Value) (s3 : Value) (s4 : Value) (s5 : Value) (x6 : Int32) (x7 : Int32) (kb : ClassId) (kk : ClassId) (fb : Nat → Int32) (fk : Nat → Int32) (hf4 : fs[4]? = some (.ref qr)) (hf9 : fs[9]? = some (.int 0)) : Met l yX8_lookRound (.code yX8_lookRound cX8_lookRound 4 none :: G) ({ frames := 6, cells := 0, slots := 0, locals := 95 }) (va_Pc [.ref h0] (pw D sz [(h0, .inr (8, fs)), (qr, .inr (6, [.ref qb, .ref qk, s2, s3, s4, s5, .int x6, .int x7])), (qb, .inl (kb, 12, .inl fb)), (qk, .inl (kk, 12, .inl fk))] [(kb, .int), (kk, .int)])) (va_Qv (fun (u : (Nat → Int32) × (Nat → Int32)) => True) (fun (u : (Nat → Int32) × (Nat → Int32)) => qw D (va_A [(h0, .inr (8, fs)), (qr, .inr (6, [.ref qb, .ref qk, s2, s3, s4, s5, .int x6, .int x7])), (qb, .inl (kb, 12, .inl fb)), (qk, .inl (kk, 12, .inl fk))] sz) [(h0, .inr (8, fs)), (qr, .inr (6, [.ref qb, .ref qk, s2, s3, s4, s5, .int 0, .int 0])), (qb, .inl (kb, 12, .inl u.1)), (qk, .inl (kk, 12, .inl u.2))] []) (va_A [(h0, .inr (8, fs)), (qr, .inr (6, [.ref qb, .ref qk, s2, s3, s4, s5, .int x6, .int x7])), (qb, .inl (kb, 12, .inl fb)), (qk, .inl (kk, 12, .inl fk))] sz)) 0 0 (va_A [(h0, .inr (8, fs)), (qr, .inr (6, [.ref qb, .ref qk, s2, s3, s4, s5, .int x6, .int x7])), (qb, .inl (kb, 12, .inl fb)), (qk, .inl (kk, 12, .inl fk))] sz) := by
  refine Met.ofW (cc := cX8_lookRound) (maxL := 4) (ret := none) (by decide) rfl ?_
  intro p e s m args below meth c s₁ B hml hv
  obtain ⟨rfl, hsz, hP, hK, hD0, hN⟩ := hv
  have hx := B.exec
  have hb := B.bytes
  have hr := B.returns
  have hts := atoms_spec (ws := (.code yX8_lookRound cX8_lookRound 4 none :: G)) B.pre
  have hown : s.vm.findClass RX8 = some m.cls := findClass_of_methodNamed B.named
  have hlocks := B.notSynchronized
  subst hsz
  have hD := hD0.self (sz := s.heap.size)
  generalize hAe : va_A [(h0, .inr (8, fs)), (qr, .inr (6, [.ref qb, .ref qk, s2, s3, s4, s5, .int x6, .int x7])), (qb, .inl (kb, 12, .inl fb)), (qk, .inl (kk, 12, .inl fk))] s.heap.size = A at hD ⊢
  have hA : ∀ q : Nat, s.heap.size ≤ q → A q := fun q h => by rw [← hAe]; exact Or.inr h
  have hS : va_S A s.heap s.heap [] := va_S.rf
  have hP : va_P D vwCl [(h0, .inr (8, fs)), (qr, .inr (6, [.ref qb, .ref qk, s2, s3, s4, s5, .int x6, .int x7])), (qb, .inl (kb, 12, .inl fb)), (qk, .inl (kk, 12, .inl fk))] s.heap := hP
  have hl := lv_entry ([.ref h0]) (n := 4) (Nat.le_of_ble_eq_true rfl)
  rw [lg_entry_eq]
  generalize (lg_sl ([.ref h0]) ++ List.replicate (4 - (lg_sl ([.ref h0])).length) Slot.unset).toArray = ls at hl ⊢
  have hl : lv_has ls 4 [(0, .ref h0)] := hl
  refine lv_aload_n hx hb dX8_lookRound_0 rfl (lv_at hl 0 rfl) ?_
  refine va_get (D := D) (ci := 8) (v := .ref qr) (C := RX8) (T := TX8) (N := 19) hx hb hts (fun w h => List.mem_cons_of_mem _ (inG8 w h)) hown hK hP 0 rfl rfl 4 (by decide) (hts _ (List.mem_cons_of_mem _ gw_115)) (fun _ h9 => h9) hf4 dX8_lookRound_1 ?_
  refine fr_v (wr := [(h0, .inr (8, fs))]) (va_runV (As := []) (rest := []) ⟨hx, hb, hml, hown, hts⟩ (c_X6_clear l D s.heap.size qr qb qk s2 s3 s4 s5 x6 x7 kb kk fb fk ) (cwV 0 hts (gV (fun w h => List.mem_cons_of_mem _ h) gw_117 gw_118 gw_119 gw_94 gw_116) rfl rfl rfl (by decide +kernel) ⟨Nat.le_of_ble_eq_true rfl, Nat.le_of_ble_eq_true rfl⟩) (pw_V [1, 2, 3] [0, 1] hP hD hK hN rfl rfl (by decide) rfl (ci := 6) (q0 := 1) rfl rfl) rfl rfl hl.1 rfl (lv_room (Nat.le_of_ble_eq_true rfl)) dX8_lookRound_4 ⟨Nat.le_of_ble_eq_true rfl, Nat.le_of_ble_eq_true rfl⟩) hP hD hK hS hA [1, 2, 3] [0] rfl rfl (by decide) (by decide) (fun u_1 H locs hw_3 hP hD hK hS => ?_)
  obtain ⟨ufb_4, ufk_5⟩ := u_1
  try dsimp only at hw_3
  have hP : va_P D vwCl [(h0, .inr (8, fs)), (qr, .inr (6, [.ref qb, .ref qk, s2, s3, s4, s5, .int 0, .int 0])), (qb, .inl (kb, 12, .inl ufb_4)), (qk, .inl (kk, 12, .inl ufk_5))] H := hP
  have hD : va_D A [(h0, .inr (8, fs)), (qr, .inr (6, [.ref qb, .ref qk, s2, s3, s4, s5, .int 0, .int 0])), (qb, .inl (kb, 12, .inl ufb_4)), (qk, .inl (kk, 12, .inl ufk_5))] := hD
  have hK : va_K D vwCl [(kb, .int), (kk, .int)] s := hK
  refine W.widen (k := 0) (n := 0) (Nat.le_of_ble_eq_true rfl) (Nat.le_of_ble_eq_true rfl) ?_
  refine lv_iconst (v := 0) hx hb dX8_lookRound_7 (by decide) ?_
  refine lv_istore_n (lv' := [(1, .int 0), (0, .ref h0)]) hx hb dX8_lookRound_8 rfl hl (by decide) rfl (fun ls hl => ?_)
  refine lv_iload_n hx hb dX8_lookRound_9 rfl (lv_at hl 0 rfl) ?_
  refine lv_aload_n hx hb dX8_lookRound_10 rfl (lv_at hl 1 rfl) ?_
  refine va_get (D := D) (ci := 8) (v := .int 0) (C := RX8) (T := TX8) (N := 19) hx hb hts (fun w h => List.mem_cons_of_mem _ (inG8 w h)) hown hK hP 0 rfl rfl 9 (by decide) (hts _ (List.mem_cons_of_mem _ gw_5)) (fun _ h9 => h9) hf9 dX8_lookRound_11 ?_
  refine lv_icmp_ge (tgt := 89) hx hb dX8_lookRound_14 (by decide) (fun c_6 => ?_) (fun c_6 => absurd (by decide) c_6)
  refine lv_aload_n hx hb dX8_lookRound_89 rfl (lv_at hl 1 rfl) ?_
  refine va_get (D := D) (ci := 8) (v := .ref qr) (C := RX8) (T := TX8) (N := 19) hx hb hts (fun w h => List.mem_cons_of_mem _ (inG8 w h)) hown hK hP 0 rfl rfl 4 (by decide) (hts _ (List.mem_cons_of_mem _ gw_115)) (fun _ h9 => h9) hf4 dX8_lookRound_90 ?_
  refine fr_v (wr := [(h0, .inr (8, fs)), (qb, .inl (kb, 12, .inl ufb_4)), (qk, .inl (kk, 12, .inl ufk_5))]) (va_runV (As := []) (rest := []) ⟨hx, hb, hml, hown, hts⟩ (c_X6_link l D H.size qr ([.ref qb, .ref qk, s2, s3, s4, s5, .int 0, .int 0]) rfl) (cwV 0 hts (gV (fun w h => List.mem_cons_of_mem _ h) gw_121 gw_122 gw_123 gw_94 gw_120) rfl rfl rfl (by decide +kernel) ⟨Nat.le_of_ble_eq_true rfl, Nat.le_of_ble_eq_true rfl⟩) (pw_V [1] [] hP hD hK hN rfl rfl (by decide) rfl (ci := 6) (q0 := 1) rfl rfl) rfl rfl hl.1 rfl (lv_room (Nat.le_of_ble_eq_true rfl)) dX8_lookRound_93 ⟨Nat.le_of_ble_eq_true rfl, Nat.le_of_ble_eq_true rfl⟩) hP hD hK hS hA [1] [0, 2, 3] rfl rfl (by decide) (by decide) (fun u_7 H locs hw_9 hP hD hK hS => ?_)
  try dsimp only at hw_9
  have hP : va_P D vwCl [(h0, .inr (8, fs)), (qb, .inl (kb, 12, .inl ufb_4)), (qk, .inl (kk, 12, .inl ufk_5)), (qr, .inr (6, [.ref qb, .ref qk, s2, s3, s4, s5, .int 0, .int 0]))] H := hP
  have hD : va_D A [(h0, .inr (8, fs)), (qb, .inl (kb, 12, .inl ufb_4)), (qk, .inl (kk, 12, .inl ufk_5)), (qr, .inr (6, [.ref qb, .ref qk, s2, s3, s4, s5, .int 0, .int 0]))] := hD
  have hK : va_K D vwCl [(kb, .int), (kk, .int)] s := hK
  refine W.widen (k := 0) (n := 0) (Nat.le_of_ble_eq_true rfl) (Nat.le_of_ble_eq_true rfl) ?_
  have hP9 := hP.sub (ws' := [(h0, .inr (8, fs)), (qr, .inr (6, [.ref qb, .ref qk, s2, s3, s4, s5, .int 0, .int 0])), (qb, .inl (kb, 12, .inl ufb_4)), (qk, .inl (kk, 12, .inl ufk_5))]) [0, 3, 1, 2] rfl
  have hD9 := hD.sub (ws' := [(h0, .inr (8, fs)), (qr, .inr (6, [.ref qb, .ref qk, s2, s3, s4, s5, .int 0, .int 0])), (qb, .inl (kb, 12, .inl ufb_4)), (qk, .inl (kk, 12, .inl ufk_5))]) [0, 3, 1, 2] (by decide) rfl
  have hK9 := hK.sub (tys' := []) [] rfl
  refine W.widen (k := 0) (n := 0) (Nat.le_of_ble_eq_true rfl) (Nat.le_of_ble_eq_true rfl) ?_
  exact W.vret hx hb hr (fun t ht hW => ⟨⟨(ufb_4, ufk_5), rfl, (by first | trivial | rfl), by rw [ht]; exact hP9, va_K.moved hW.alike hK9, hD9⟩, hS.F ht⟩) hS.2.2 dX8_lookRound_96
set_option maxHeartbeats 4000000 in
set_option maxRecDepth 100000 in
theorem c_X8_makePlan (l : Launch) (D : va_G) (sz : Nat) (h0 : Nat) (qo : Nat) (qr : Nat) (v0 : Value) (v1 : Value) (v2 : Value) (v5 : Value) (v6 : Value) (v8 : Value) (v10 : Value) (v11 : Value) (v12 : Value) (v13 : Value) (v14 : Value) (v15 : Value) (v16 : Value) (v17 : Value) (v18 : Value) (qb : Nat) (qk : Nat) (s2 : Value) (s3 : Value) (s4 : Value) (s5 : Value) (x6 : Int32) (x7 : Int32) (kb : ClassId) (kk : ClassId) (fb : Nat → Int32) (fk : Nat → Int32) : Met l yX8_makePlan (.code yX8_makePlan cX8_makePlan 2 (some (.object "OddShoes$Planner")) :: G) ({ frames := 8, cells := 7, slots := 11399, locals := 124 }) (va_Pc [.ref h0] (pw D sz [(h0, .inr (8, [v0, v1, v2, .ref qo, .ref qr, v5, v6, .null, v8, .int 0, v10, v11, v12, v13, v14, v15, v16, v17, v18])), (qr, .inr (6, [.ref qb, .ref qk, s2, s3, s4, s5, .int x6, .int x7])), (qb, .inl (kb, 12, .inl fb)), (qk, .inl (kk, 12, .inl fk))] [(kb, .int), (kk, .int)])) (va_Qq (fun (r : Option Nat) (u : (Nat) × (Nat) × (Nat) × (Nat) × (Nat) × (Nat) × (Nat) × (ClassId) × (Nat → Int32) × (Nat → Int32) × (Nat → Int32) × (Int32)) => r = some u.1) (fun (u : (Nat) × (Nat) × (Nat) × (Nat) × (Nat) × (Nat) × (Nat) × (ClassId) × (Nat → Int32) × (Nat → Int32) × (Nat → Int32) × (Int32)) => qw D (va_A [(h0, .inr (8, [v0, v1, v2, .ref qo, .ref qr, v5, v6, .null, v8, .int 0, v10, v11, v12, v13, v14, v15, v16, v17, v18])), (qr, .inr (6, [.ref qb, .ref qk, s2, s3, s4, s5, .int x6, .int x7])), (qb, .inl (kb, 12, .inl fb)), (qk, .inl (kk, 12, .inl fk))] sz) [(h0, .inr (8, [v0, v1, v2, .ref qo, .ref qr, v5, v6, .ref u.1, v8, .int 0, v10, v11, v12, v13, v14, v15, v16, v17, v18])), (qr, .inr (6, [.ref qb, .ref qk, s2, s3, s4, s5, .int 0, .int 0])), (qb, .inl (kb, 12, .inl u.2.2.2.2.2.2.2.2.1)), (qk, .inl (kk, 12, .inl u.2.2.2.2.2.2.2.2.2.1)), (u.1, .inr (5, [.ref u.2.2.2.2.2.2.1, .int 0, .int 0, .ref qr, .ref qo, .ref u.2.1, .ref u.2.2.1, .int 0, .ref u.2.2.2.1, .ref u.2.2.2.2.1, .ref u.2.2.2.2.2.1, .int u.2.2.2.2.2.2.2.2.2.2.2])), (u.2.2.1, .inl (u.2.2.2.2.2.2.2.1, 13, .inl u.2.2.2.2.2.2.2.2.2.2.1))] [(u.2.2.2.2.2.2.2.1, .int)]) (va_A [(h0, .inr (8, [v0, v1, v2, .ref qo, .ref qr, v5, v6, .null, v8, .int 0, v10, v11, v12, v13, v14, v15, v16, v17, v18])), (qr, .inr (6, [.ref qb, .ref qk, s2, s3, s4, s5, .int x6, .int x7])), (qb, .inl (kb, 12, .inl fb)), (qk, .inl (kk, 12, .inl fk))] sz)) 7 11399 (va_A [(h0, .inr (8, [v0, v1, v2, .ref qo, .ref qr, v5, v6, .null, v8, .int 0, v10, v11, v12, v13, v14, v15, v16, v17, v18])), (qr, .inr (6, [.ref qb, .ref qk, s2, s3, s4, s5, .int x6, .int x7])), (qb, .inl (kb, 12, .inl fb)), (qk, .inl (kk, 12, .inl fk))] sz) := by
  refine Met.ofW (cc := cX8_makePlan) (maxL := 2) (ret := (some (.object "OddShoes$Planner"))) (by decide) rfl ?_
  intro p e s m args below meth c s₁ B hml hv
  obtain ⟨rfl, hsz, hP, hK, hD0, hN⟩ := hv
  have hx := B.exec
  have hb := B.bytes
  have hr := B.returns
  have hts := atoms_spec (ws := (.code yX8_makePlan cX8_makePlan 2 (some (.object "OddShoes$Planner")) :: G)) B.pre
  have hown : s.vm.findClass RX8 = some m.cls := findClass_of_methodNamed B.named
  have hlocks := B.notSynchronized
  subst hsz
  have hD := hD0.self (sz := s.heap.size)
  generalize hAe : va_A [(h0, .inr (8, [v0, v1, v2, .ref qo, .ref qr, v5, v6, .null, v8, .int 0, v10, v11, v12, v13, v14, v15, v16, v17, v18])), (qr, .inr (6, [.ref qb, .ref qk, s2, s3, s4, s5, .int x6, .int x7])), (qb, .inl (kb, 12, .inl fb)), (qk, .inl (kk, 12, .inl fk))] s.heap.size = A at hD ⊢
  have hA : ∀ q : Nat, s.heap.size ≤ q → A q := fun q h => by rw [← hAe]; exact Or.inr h
  have hS : va_S A s.heap s.heap [] := va_S.rf
  have hP : va_P D vwCl [(h0, .inr (8, [v0, v1, v2, .ref qo, .ref qr, v5, v6, .null, v8, .int 0, v10, v11, v12, v13, v14, v15, v16, v17, v18])), (qr, .inr (6, [.ref qb, .ref qk, s2, s3, s4, s5, .int x6, .int x7])), (qb, .inl (kb, 12, .inl fb)), (qk, .inl (kk, 12, .inl fk))] s.heap := hP
  have hl := lv_entry ([.ref h0]) (n := 2) (Nat.le_of_ble_eq_true rfl)
  rw [lg_entry_eq]
  generalize (lg_sl ([.ref h0]) ++ List.replicate (2 - (lg_sl ([.ref h0])).length) Slot.unset).toArray = ls at hl ⊢
  have hl : lv_has ls 2 [(0, .ref h0)] := hl
  refine lv_aload_n hx hb dX8_makePlan_0 rfl (lv_at hl 0 rfl) ?_
  refine va_get (D := D) (ci := 8) (v := .null) (C := RX8) (T := TX8) (N := 19) hx hb hts (fun w h => List.mem_cons_of_mem _ (inG8 w h)) hown hK hP 0 rfl rfl 7 (by decide) (hts _ (List.mem_cons_of_mem _ gw_124)) (fun _ h9 => h9) rfl dX8_makePlan_1 ?_
  refine lv_ifnonnullN hx hb dX8_makePlan_4 ?_
  refine va_new (ci := 5) (fs := [.null, .int 0, .int 0, .null, .null, .null, .null, .int 0, .null, .null, .null, .int 0]) (C := RX5) (T := TX5) (N := 12) hx hb hts (fun w h => List.mem_cons_of_mem _ (inG5 w h)) tyX5 tyX5_ok hown (hts _ (List.mem_cons_of_mem _ gw_125)) (hts _ (List.mem_cons_of_mem _ gw_126)) (hts _ (List.mem_cons_of_mem _ gw_113)) hK hP hD hS hA rfl dvX5 (Nat.le_of_ble_eq_true rfl) (Nat.le_of_ble_eq_true rfl) dX8_makePlan_7 (fun q_1 H hP hD hS => ?_)
  have hP : va_P D vwCl [(h0, .inr (8, [v0, v1, v2, .ref qo, .ref qr, v5, v6, .null, v8, .int 0, v10, v11, v12, v13, v14, v15, v16, v17, v18])), (qr, .inr (6, [.ref qb, .ref qk, s2, s3, s4, s5, .int x6, .int x7])), (qb, .inl (kb, 12, .inl fb)), (qk, .inl (kk, 12, .inl fk)), (q_1, .inr (5, [.null, .int 0, .int 0, .null, .null, .null, .null, .int 0, .null, .null, .null, .int 0]))] H := hP
  have hD : va_D A [(h0, .inr (8, [v0, v1, v2, .ref qo, .ref qr, v5, v6, .null, v8, .int 0, v10, v11, v12, v13, v14, v15, v16, v17, v18])), (qr, .inr (6, [.ref qb, .ref qk, s2, s3, s4, s5, .int x6, .int x7])), (qb, .inl (kb, 12, .inl fb)), (qk, .inl (kk, 12, .inl fk)), (q_1, .inr (5, [.null, .int 0, .int 0, .null, .null, .null, .null, .int 0, .null, .null, .null, .int 0]))] := hD
  refine W.widen (k := 1) (n := 12) (Nat.le_of_ble_eq_true rfl) (Nat.le_of_ble_eq_true rfl) ?_
  refine lv_dup hx hb dX8_makePlan_10 rfl ?_
  refine lv_aload_n hx hb dX8_makePlan_11 rfl (lv_at hl 0 rfl) ?_
  refine va_get (D := D) (ci := 8) (v := .ref qr) (C := RX8) (T := TX8) (N := 19) hx hb hts (fun w h => List.mem_cons_of_mem _ (inG8 w h)) hown hK hP 0 rfl rfl 4 (by decide) (hts _ (List.mem_cons_of_mem _ gw_115)) (fun _ h9 => h9) rfl dX8_makePlan_12 ?_
  refine lv_aload_n hx hb dX8_makePlan_15 rfl (lv_at hl 0 rfl) ?_
  refine va_get (D := D) (ci := 8) (v := .ref qo) (C := RX8) (T := TX8) (N := 19) hx hb hts (fun w h => List.mem_cons_of_mem _ (inG8 w h)) hown hK hP 0 rfl rfl 3 (by decide) (hts _ (List.mem_cons_of_mem _ gw_127)) (fun _ h9 => h9) rfl dX8_makePlan_16 ?_
  refine fr_v (wr := [(h0, .inr (8, [v0, v1, v2, .ref qo, .ref qr, v5, v6, .null, v8, .int 0, v10, v11, v12, v13, v14, v15, v16, v17, v18])), (qr, .inr (6, [.ref qb, .ref qk, s2, s3, s4, s5, .int x6, .int x7])), (qb, .inl (kb, 12, .inl fb)), (qk, .inl (kk, 12, .inl fk))]) (va_runI (As := [.ref qr, .ref qo]) (rest := [.ref q_1]) ⟨hx, hb, hml, hown, hts⟩ (c_X5_init l D H.size q_1 qr qo ) (cwI 2 hts (gI (fun w h => List.mem_cons_of_mem _ h) gw_128) rfl rfl rfl (hts _ (List.mem_cons_of_mem _ gw_113)) (hts _ (List.mem_cons_of_mem _ gw_129)) (hts _ (List.mem_cons_of_mem _ gw_130)) rfl (by decide +kernel) ⟨Nat.le_of_ble_eq_true rfl, Nat.le_of_ble_eq_true rfl⟩) (pw_S [4] [] hP hD hK hN rfl rfl (by decide) rfl) rfl rfl hl.1 rfl (lv_room (Nat.le_of_ble_eq_true rfl)) dX8_makePlan_19 ⟨Nat.le_of_ble_eq_true rfl, Nat.le_of_ble_eq_true rfl⟩) hP hD hK hS hA [4] [0, 1, 2, 3] rfl rfl (by decide) (by decide) (fun u_2 H locs hw_4 hP hD hK hS => ?_)
  obtain ⟨ua_5, ub_6, uc_7, ud_8, ue_9, uf_10, ug_11⟩ := u_2
  try dsimp only at hw_4
  have hP : va_P D vwCl [(h0, .inr (8, [v0, v1, v2, .ref qo, .ref qr, v5, v6, .null, v8, .int 0, v10, v11, v12, v13, v14, v15, v16, v17, v18])), (qr, .inr (6, [.ref qb, .ref qk, s2, s3, s4, s5, .int x6, .int x7])), (qb, .inl (kb, 12, .inl fb)), (qk, .inl (kk, 12, .inl fk)), (q_1, .inr (5, [.ref ua_5, .int 0, .int 0, .ref qr, .ref qo, .ref ub_6, .ref uc_7, .int 0, .ref ud_8, .ref ue_9, .ref uf_10, .int 0])), (uc_7, .inl (ug_11, 13, .inl (fun _ => 0)))] H := hP
  have hD : va_D A [(h0, .inr (8, [v0, v1, v2, .ref qo, .ref qr, v5, v6, .null, v8, .int 0, v10, v11, v12, v13, v14, v15, v16, v17, v18])), (qr, .inr (6, [.ref qb, .ref qk, s2, s3, s4, s5, .int x6, .int x7])), (qb, .inl (kb, 12, .inl fb)), (qk, .inl (kk, 12, .inl fk)), (q_1, .inr (5, [.ref ua_5, .int 0, .int 0, .ref qr, .ref qo, .ref ub_6, .ref uc_7, .int 0, .ref ud_8, .ref ue_9, .ref uf_10, .int 0])), (uc_7, .inl (ug_11, 13, .inl (fun _ => 0)))] := hD
  have hK : va_K D vwCl [(kb, .int), (kk, .int), (ug_11, .int)] s := hK
  refine W.widen (k := 7) (n := 11399) (Nat.le_of_ble_eq_true rfl) (Nat.le_of_ble_eq_true rfl) ?_
  refine lv_goto (tgt := 29) hx hb dX8_makePlan_22 (by decide) ?_
  refine lv_astore_n (lv' := [(1, .ref q_1), (0, .ref h0)]) hx hb dX8_makePlan_29 rfl hl (by decide) rfl (fun ls hl => ?_)
  refine lv_aload_n hx hb dX8_makePlan_30 rfl (lv_at hl 1 rfl) ?_
  refine lv_aload_n hx hb dX8_makePlan_31 rfl (lv_at hl 0 rfl) ?_
  refine va_put (D := D) (ci := 8) (v := .ref q_1) (ty := .object "OddShoes$Planner") (C := RX8) (T := TX8) (N := 19) hx hb hts (fun w h => List.mem_cons_of_mem _ (inG8 w h)) tyX8 tyX8_ok nmX8 hown hK hP hD hS 0 rfl rfl 7 (by decide) (hts _ (List.mem_cons_of_mem _ gw_124)) (fun _ h9 => h9) rfl (by decide +kernel) rfl rfl (Nat.le_of_ble_eq_true rfl) dX8_makePlan_32 (fun H locs hP hD hS => ?_)
  have hP : va_P D vwCl [(h0, .inr (8, [v0, v1, v2, .ref qo, .ref qr, v5, v6, .ref q_1, v8, .int 0, v10, v11, v12, v13, v14, v15, v16, v17, v18])), (qr, .inr (6, [.ref qb, .ref qk, s2, s3, s4, s5, .int x6, .int x7])), (qb, .inl (kb, 12, .inl fb)), (qk, .inl (kk, 12, .inl fk)), (q_1, .inr (5, [.ref ua_5, .int 0, .int 0, .ref qr, .ref qo, .ref ub_6, .ref uc_7, .int 0, .ref ud_8, .ref ue_9, .ref uf_10, .int 0])), (uc_7, .inl (ug_11, 13, .inl (fun _ => 0)))] H := hP
  have hD : va_D A [(h0, .inr (8, [v0, v1, v2, .ref qo, .ref qr, v5, v6, .ref q_1, v8, .int 0, v10, v11, v12, v13, v14, v15, v16, v17, v18])), (qr, .inr (6, [.ref qb, .ref qk, s2, s3, s4, s5, .int x6, .int x7])), (qb, .inl (kb, 12, .inl fb)), (qk, .inl (kk, 12, .inl fk)), (q_1, .inr (5, [.ref ua_5, .int 0, .int 0, .ref qr, .ref qo, .ref ub_6, .ref uc_7, .int 0, .ref ud_8, .ref ue_9, .ref uf_10, .int 0])), (uc_7, .inl (ug_11, 13, .inl (fun _ => 0)))] := hD
  refine lv_aload_n hx hb dX8_makePlan_35 rfl (lv_at hl 1 rfl) ?_
  refine fr_v (wr := [(q_1, .inr (5, [.ref ua_5, .int 0, .int 0, .ref qr, .ref qo, .ref ub_6, .ref uc_7, .int 0, .ref ud_8, .ref ue_9, .ref uf_10, .int 0])), (uc_7, .inl (ug_11, 13, .inl (fun _ => 0)))]) (va_runV (As := []) (rest := []) ⟨hx, hb, hml, hown, hts⟩ (c_X8_lookRound l D H.size h0 ([v0, v1, v2, .ref qo, .ref qr, v5, v6, .ref q_1, v8, .int 0, v10, v11, v12, v13, v14, v15, v16, v17, v18]) qr qb qk s2 s3 s4 s5 x6 x7 kb kk fb fk rfl rfl) (cwV 0 hts (gV (fun w h => List.mem_cons_of_mem _ h) gw_132 gw_133 gw_134 gw_135 gw_131) rfl rfl rfl (by decide +kernel) ⟨Nat.le_of_ble_eq_true rfl, Nat.le_of_ble_eq_true rfl⟩) (pw_V [0, 1, 2, 3] [0, 1] hP hD hK hN rfl rfl (by decide) rfl (ci := 8) (q0 := 0) rfl rfl) rfl rfl hl.1 rfl (lv_room (Nat.le_of_ble_eq_true rfl)) dX8_makePlan_36 ⟨Nat.le_of_ble_eq_true rfl, Nat.le_of_ble_eq_true rfl⟩) hP hD hK hS hA [0, 1, 2, 3] [4, 5] rfl rfl (by decide) (by decide) (fun u_12 H locs hw_14 hP hD hK hS => ?_)
  obtain ⟨ufb_15, ufk_16⟩ := u_12
  try dsimp only at hw_14
  have hP : va_P D vwCl [(q_1, .inr (5, [.ref ua_5, .int 0, .int 0, .ref qr, .ref qo, .ref ub_6, .ref uc_7, .int 0, .ref ud_8, .ref ue_9, .ref uf_10, .int 0])), (uc_7, .inl (ug_11, 13, .inl (fun _ => 0))), (h0, .inr (8, [v0, v1, v2, .ref qo, .ref qr, v5, v6, .ref q_1, v8, .int 0, v10, v11, v12, v13, v14, v15, v16, v17, v18])), (qr, .inr (6, [.ref qb, .ref qk, s2, s3, s4, s5, .int 0, .int 0])), (qb, .inl (kb, 12, .inl ufb_15)), (qk, .inl (kk, 12, .inl ufk_16))] H := hP
  have hD : va_D A [(q_1, .inr (5, [.ref ua_5, .int 0, .int 0, .ref qr, .ref qo, .ref ub_6, .ref uc_7, .int 0, .ref ud_8, .ref ue_9, .ref uf_10, .int 0])), (uc_7, .inl (ug_11, 13, .inl (fun _ => 0))), (h0, .inr (8, [v0, v1, v2, .ref qo, .ref qr, v5, v6, .ref q_1, v8, .int 0, v10, v11, v12, v13, v14, v15, v16, v17, v18])), (qr, .inr (6, [.ref qb, .ref qk, s2, s3, s4, s5, .int 0, .int 0])), (qb, .inl (kb, 12, .inl ufb_15)), (qk, .inl (kk, 12, .inl ufk_16))] := hD
  have hK : va_K D vwCl [(kb, .int), (kk, .int), (ug_11, .int)] s := hK
  refine W.widen (k := 7) (n := 11399) (Nat.le_of_ble_eq_true rfl) (Nat.le_of_ble_eq_true rfl) ?_
  refine lv_aload_n hx hb dX8_makePlan_39 rfl (lv_at hl 0 rfl) ?_
  refine fr_v (wr := [(h0, .inr (8, [v0, v1, v2, .ref qo, .ref qr, v5, v6, .ref q_1, v8, .int 0, v10, v11, v12, v13, v14, v15, v16, v17, v18])), (qb, .inl (kb, 12, .inl ufb_15)), (qk, .inl (kk, 12, .inl ufk_16))]) (va_runV (As := []) (rest := []) ⟨hx, hb, hml, hown, hts⟩ (c_X5_choose l D H.size q_1 (.ref ua_5) qr (.ref qo) (.ref ub_6) uc_7 (.ref ud_8) (.ref ue_9) (.ref uf_10) 0 0 0 0 ug_11 (fun _ => 0) ([.ref qb, .ref qk, s2, s3, s4, s5, .int 0, .int 0]) rfl) (cwV 0 hts (gV (fun w h => List.mem_cons_of_mem _ h) gw_137 gw_138 gw_139 gw_113 gw_136) rfl rfl rfl (by decide +kernel) ⟨Nat.le_of_ble_eq_true rfl, Nat.le_of_ble_eq_true rfl⟩) (pw_V [0, 1, 3] [2] hP hD hK hN rfl rfl (by decide) rfl (ci := 5) (q0 := 0) rfl rfl) rfl rfl hl.1 rfl (lv_room (Nat.le_of_ble_eq_true rfl)) dX8_makePlan_40 ⟨Nat.le_of_ble_eq_true rfl, Nat.le_of_ble_eq_true rfl⟩) hP hD hK hS hA [0, 1, 3] [2, 4, 5] rfl rfl (by decide) (by decide) (fun u_17 H locs hw_19 hP hD hK hS => ?_)
  obtain ⟨uff_20, ux_21⟩ := u_17
  try dsimp only at hw_19
  have hP : va_P D vwCl [(h0, .inr (8, [v0, v1, v2, .ref qo, .ref qr, v5, v6, .ref q_1, v8, .int 0, v10, v11, v12, v13, v14, v15, v16, v17, v18])), (qb, .inl (kb, 12, .inl ufb_15)), (qk, .inl (kk, 12, .inl ufk_16)), (q_1, .inr (5, [.ref ua_5, .int 0, .int 0, .ref qr, .ref qo, .ref ub_6, .ref uc_7, .int 0, .ref ud_8, .ref ue_9, .ref uf_10, .int ux_21])), (uc_7, .inl (ug_11, 13, .inl uff_20)), (qr, .inr (6, [.ref qb, .ref qk, s2, s3, s4, s5, .int 0, .int 0]))] H := hP
  have hD : va_D A [(h0, .inr (8, [v0, v1, v2, .ref qo, .ref qr, v5, v6, .ref q_1, v8, .int 0, v10, v11, v12, v13, v14, v15, v16, v17, v18])), (qb, .inl (kb, 12, .inl ufb_15)), (qk, .inl (kk, 12, .inl ufk_16)), (q_1, .inr (5, [.ref ua_5, .int 0, .int 0, .ref qr, .ref qo, .ref ub_6, .ref uc_7, .int 0, .ref ud_8, .ref ue_9, .ref uf_10, .int ux_21])), (uc_7, .inl (ug_11, 13, .inl uff_20)), (qr, .inr (6, [.ref qb, .ref qk, s2, s3, s4, s5, .int 0, .int 0]))] := hD
  have hK : va_K D vwCl [(kb, .int), (kk, .int), (ug_11, .int)] s := hK
  refine W.widen (k := 7) (n := 11399) (Nat.le_of_ble_eq_true rfl) (Nat.le_of_ble_eq_true rfl) ?_
  refine lv_aload_n hx hb dX8_makePlan_43 rfl (lv_at hl 0 rfl) ?_
  have hP9 := hP.sub (ws' := [(h0, .inr (8, [v0, v1, v2, .ref qo, .ref qr, v5, v6, .ref q_1, v8, .int 0, v10, v11, v12, v13, v14, v15, v16, v17, v18])), (qr, .inr (6, [.ref qb, .ref qk, s2, s3, s4, s5, .int 0, .int 0])), (qb, .inl (kb, 12, .inl ufb_15)), (qk, .inl (kk, 12, .inl ufk_16)), (q_1, .inr (5, [.ref ua_5, .int 0, .int 0, .ref qr, .ref qo, .ref ub_6, .ref uc_7, .int 0, .ref ud_8, .ref ue_9, .ref uf_10, .int ux_21])), (uc_7, .inl (ug_11, 13, .inl uff_20))]) [0, 5, 1, 2, 3, 4] rfl
  have hD9 := hD.sub (ws' := [(h0, .inr (8, [v0, v1, v2, .ref qo, .ref qr, v5, v6, .ref q_1, v8, .int 0, v10, v11, v12, v13, v14, v15, v16, v17, v18])), (qr, .inr (6, [.ref qb, .ref qk, s2, s3, s4, s5, .int 0, .int 0])), (qb, .inl (kb, 12, .inl ufb_15)), (qk, .inl (kk, 12, .inl ufk_16)), (q_1, .inr (5, [.ref ua_5, .int 0, .int 0, .ref qr, .ref qo, .ref ub_6, .ref uc_7, .int 0, .ref ud_8, .ref ue_9, .ref uf_10, .int ux_21])), (uc_7, .inl (ug_11, 13, .inl uff_20))]) [0, 5, 1, 2, 3, 4] (by decide) rfl
  have hK9 := hK.sub (tys' := [(ug_11, .int)]) [2] rfl
  refine W.widen (k := 7) (n := 11399) (Nat.le_of_ble_eq_true rfl) (Nat.le_of_ble_eq_true rfl) ?_
  exact W.aret (v := .ref q_1) hx hb hr (Or.inl ⟨_, rfl⟩) (Or.inr ⟨_, rfl⟩) (fun t ht hW => ⟨⟨some q_1, (q_1, ub_6, uc_7, ud_8, ue_9, uf_10, ua_5, ug_11, ufb_15, ufk_16, uff_20, ux_21), rfl, rfl, by rw [ht]; exact hP9, va_K.moved hW.alike hK9, hD9⟩, hS.F ht⟩) hS.2.2 dX8_makePlan_44
set_option maxHeartbeats 4000000 in
set_option maxRecDepth 100000 in
theorem c_X8_makePlan2 (l : Launch) (D : va_G) (sz : Nat) (h0 : Nat) (qo : Nat) (qr : Nat) (qn : Nat) (v0 : Value) (v1 : Value) (v2 : Value) (v5 : Value) (v6 : Value) (v8 : Value) (v10 : Value) (v11 : Value) (v12 : Value) (v13 : Value) (v14 : Value) (v15 : Value) (v16 : Value) (v17 : Value) (v18 : Value) (qb : Nat) (qk : Nat) (s2 : Value) (s3 : Value) (s4 : Value) (s5 : Value) (x6 : Int32) (x7 : Int32) (kb : ClassId) (kk : ClassId) (fb : Nat → Int32) (fk : Nat → Int32) (z0 : Nat) (z5 : Nat) (qf : Nat) (z8 : Nat) (z9 : Nat) (z10 : Nat) (y1 : Int32) (y2 : Int32) (y7 : Int32) (y11 : Int32) (kf : ClassId) (ff : Nat → Int32) : Met l yX8_makePlan (.code yX8_makePlan cX8_makePlan 2 (some (.object "OddShoes$Planner")) :: G) ({ frames := 8, cells := 0, slots := 0, locals := 124 }) (va_Pc [.ref h0] (pw D sz [(h0, .inr (8, [v0, v1, v2, .ref qo, .ref qr, v5, v6, .ref qn, v8, .int 0, v10, v11, v12, v13, v14, v15, v16, v17, v18])), (qr, .inr (6, [.ref qb, .ref qk, s2, s3, s4, s5, .int x6, .int x7])), (qb, .inl (kb, 12, .inl fb)), (qk, .inl (kk, 12, .inl fk)), (qn, .inr (5, [.ref z0, .int y1, .int y2, .ref qr, .ref qo, .ref z5, .ref qf, .int y7, .ref z8, .ref z9, .ref z10, .int y11])), (qf, .inl (kf, 13, .inl ff))] [(kb, .int), (kk, .int), (kf, .int)])) (va_Qq (fun (r : Option Nat) (u : (Nat → Int32) × (Nat → Int32) × (Nat → Int32) × (Int32)) => r = some qn) (fun (u : (Nat → Int32) × (Nat → Int32) × (Nat → Int32) × (Int32)) => qw D (va_A [(h0, .inr (8, [v0, v1, v2, .ref qo, .ref qr, v5, v6, .ref qn, v8, .int 0, v10, v11, v12, v13, v14, v15, v16, v17, v18])), (qr, .inr (6, [.ref qb, .ref qk, s2, s3, s4, s5, .int x6, .int x7])), (qb, .inl (kb, 12, .inl fb)), (qk, .inl (kk, 12, .inl fk)), (qn, .inr (5, [.ref z0, .int y1, .int y2, .ref qr, .ref qo, .ref z5, .ref qf, .int y7, .ref z8, .ref z9, .ref z10, .int y11])), (qf, .inl (kf, 13, .inl ff))] sz) [(h0, .inr (8, [v0, v1, v2, .ref qo, .ref qr, v5, v6, .ref qn, v8, .int 0, v10, v11, v12, v13, v14, v15, v16, v17, v18])), (qr, .inr (6, [.ref qb, .ref qk, s2, s3, s4, s5, .int 0, .int 0])), (qb, .inl (kb, 12, .inl u.1)), (qk, .inl (kk, 12, .inl u.2.1)), (qn, .inr (5, [.ref z0, .int 0, .int 0, .ref qr, .ref qo, .ref z5, .ref qf, .int 0, .ref z8, .ref z9, .ref z10, .int u.2.2.2])), (qf, .inl (kf, 13, .inl u.2.2.1))] []) (va_A [(h0, .inr (8, [v0, v1, v2, .ref qo, .ref qr, v5, v6, .ref qn, v8, .int 0, v10, v11, v12, v13, v14, v15, v16, v17, v18])), (qr, .inr (6, [.ref qb, .ref qk, s2, s3, s4, s5, .int x6, .int x7])), (qb, .inl (kb, 12, .inl fb)), (qk, .inl (kk, 12, .inl fk)), (qn, .inr (5, [.ref z0, .int y1, .int y2, .ref qr, .ref qo, .ref z5, .ref qf, .int y7, .ref z8, .ref z9, .ref z10, .int y11])), (qf, .inl (kf, 13, .inl ff))] sz)) 0 0 (va_A [(h0, .inr (8, [v0, v1, v2, .ref qo, .ref qr, v5, v6, .ref qn, v8, .int 0, v10, v11, v12, v13, v14, v15, v16, v17, v18])), (qr, .inr (6, [.ref qb, .ref qk, s2, s3, s4, s5, .int x6, .int x7])), (qb, .inl (kb, 12, .inl fb)), (qk, .inl (kk, 12, .inl fk)), (qn, .inr (5, [.ref z0, .int y1, .int y2, .ref qr, .ref qo, .ref z5, .ref qf, .int y7, .ref z8, .ref z9, .ref z10, .int y11])), (qf, .inl (kf, 13, .inl ff))] sz) := by
  refine Met.ofW (cc := cX8_makePlan) (maxL := 2) (ret := (some (.object "OddShoes$Planner"))) (by decide) rfl ?_
  intro p e s m args below meth c s₁ B hml hv
  obtain ⟨rfl, hsz, hP, hK, hD0, hN⟩ := hv
  have hx := B.exec
  have hb := B.bytes
  have hr := B.returns
  have hts := atoms_spec (ws := (.code yX8_makePlan cX8_makePlan 2 (some (.object "OddShoes$Planner")) :: G)) B.pre
  have hown : s.vm.findClass RX8 = some m.cls := findClass_of_methodNamed B.named
  have hlocks := B.notSynchronized
  subst hsz
  have hD := hD0.self (sz := s.heap.size)
  generalize hAe : va_A [(h0, .inr (8, [v0, v1, v2, .ref qo, .ref qr, v5, v6, .ref qn, v8, .int 0, v10, v11, v12, v13, v14, v15, v16, v17, v18])), (qr, .inr (6, [.ref qb, .ref qk, s2, s3, s4, s5, .int x6, .int x7])), (qb, .inl (kb, 12, .inl fb)), (qk, .inl (kk, 12, .inl fk)), (qn, .inr (5, [.ref z0, .int y1, .int y2, .ref qr, .ref qo, .ref z5, .ref qf, .int y7, .ref z8, .ref z9, .ref z10, .int y11])), (qf, .inl (kf, 13, .inl ff))] s.heap.size = A at hD ⊢
  have hA : ∀ q : Nat, s.heap.size ≤ q → A q := fun q h => by rw [← hAe]; exact Or.inr h
  have hS : va_S A s.heap s.heap [] := va_S.rf
  have hP : va_P D vwCl [(h0, .inr (8, [v0, v1, v2, .ref qo, .ref qr, v5, v6, .ref qn, v8, .int 0, v10, v11, v12, v13, v14, v15, v16, v17, v18])), (qr, .inr (6, [.ref qb, .ref qk, s2, s3, s4, s5, .int x6, .int x7])), (qb, .inl (kb, 12, .inl fb)), (qk, .inl (kk, 12, .inl fk)), (qn, .inr (5, [.ref z0, .int y1, .int y2, .ref qr, .ref qo, .ref z5, .ref qf, .int y7, .ref z8, .ref z9, .ref z10, .int y11])), (qf, .inl (kf, 13, .inl ff))] s.heap := hP
  have hl := lv_entry ([.ref h0]) (n := 2) (Nat.le_of_ble_eq_true rfl)
  rw [lg_entry_eq]
  generalize (lg_sl ([.ref h0]) ++ List.replicate (2 - (lg_sl ([.ref h0])).length) Slot.unset).toArray = ls at hl ⊢
  have hl : lv_has ls 2 [(0, .ref h0)] := hl
  refine lv_aload_n hx hb dX8_makePlan_0 rfl (lv_at hl 0 rfl) ?_
  refine va_get (D := D) (ci := 8) (v := .ref qn) (C := RX8) (T := TX8) (N := 19) hx hb hts (fun w h => List.mem_cons_of_mem _ (inG8 w h)) hown hK hP 0 rfl rfl 7 (by decide) (hts _ (List.mem_cons_of_mem _ gw_124)) (fun _ h9 => h9) rfl dX8_makePlan_1 ?_
  refine lv_ifnonnull (tgt := 25) hx hb dX8_makePlan_4 (by decide) ?_
  refine lv_aload_n hx hb dX8_makePlan_25 rfl (lv_at hl 0 rfl) ?_
  refine va_get (D := D) (ci := 8) (v := .ref qn) (C := RX8) (T := TX8) (N := 19) hx hb hts (fun w h => List.mem_cons_of_mem _ (inG8 w h)) hown hK hP 0 rfl rfl 7 (by decide) (hts _ (List.mem_cons_of_mem _ gw_124)) (fun _ h9 => h9) rfl dX8_makePlan_26 ?_
  refine lv_astore_n (lv' := [(1, .ref qn), (0, .ref h0)]) hx hb dX8_makePlan_29 rfl hl (by decide) rfl (fun ls hl => ?_)
  refine lv_aload_n hx hb dX8_makePlan_30 rfl (lv_at hl 1 rfl) ?_
  refine lv_aload_n hx hb dX8_makePlan_31 rfl (lv_at hl 0 rfl) ?_
  refine va_put (D := D) (ci := 8) (v := .ref qn) (ty := .object "OddShoes$Planner") (C := RX8) (T := TX8) (N := 19) hx hb hts (fun w h => List.mem_cons_of_mem _ (inG8 w h)) tyX8 tyX8_ok nmX8 hown hK hP hD hS 0 rfl rfl 7 (by decide) (hts _ (List.mem_cons_of_mem _ gw_124)) (fun _ h9 => h9) rfl (by decide +kernel) rfl rfl (Nat.le_of_ble_eq_true rfl) dX8_makePlan_32 (fun H locs hP hD hS => ?_)
  have hP : va_P D vwCl [(h0, .inr (8, [v0, v1, v2, .ref qo, .ref qr, v5, v6, .ref qn, v8, .int 0, v10, v11, v12, v13, v14, v15, v16, v17, v18])), (qr, .inr (6, [.ref qb, .ref qk, s2, s3, s4, s5, .int x6, .int x7])), (qb, .inl (kb, 12, .inl fb)), (qk, .inl (kk, 12, .inl fk)), (qn, .inr (5, [.ref z0, .int y1, .int y2, .ref qr, .ref qo, .ref z5, .ref qf, .int y7, .ref z8, .ref z9, .ref z10, .int y11])), (qf, .inl (kf, 13, .inl ff))] H := hP
  have hD : va_D A [(h0, .inr (8, [v0, v1, v2, .ref qo, .ref qr, v5, v6, .ref qn, v8, .int 0, v10, v11, v12, v13, v14, v15, v16, v17, v18])), (qr, .inr (6, [.ref qb, .ref qk, s2, s3, s4, s5, .int x6, .int x7])), (qb, .inl (kb, 12, .inl fb)), (qk, .inl (kk, 12, .inl fk)), (qn, .inr (5, [.ref z0, .int y1, .int y2, .ref qr, .ref qo, .ref z5, .ref qf, .int y7, .ref z8, .ref z9, .ref z10, .int y11])), (qf, .inl (kf, 13, .inl ff))] := hD
  refine lv_aload_n hx hb dX8_makePlan_35 rfl (lv_at hl 1 rfl) ?_
  refine fr_v (wr := [(qn, .inr (5, [.ref z0, .int y1, .int y2, .ref qr, .ref qo, .ref z5, .ref qf, .int y7, .ref z8, .ref z9, .ref z10, .int y11])), (qf, .inl (kf, 13, .inl ff))]) (va_runV (As := []) (rest := []) ⟨hx, hb, hml, hown, hts⟩ (c_X8_lookRound l D H.size h0 ([v0, v1, v2, .ref qo, .ref qr, v5, v6, .ref qn, v8, .int 0, v10, v11, v12, v13, v14, v15, v16, v17, v18]) qr qb qk s2 s3 s4 s5 x6 x7 kb kk fb fk rfl rfl) (cwV 0 hts (gV (fun w h => List.mem_cons_of_mem _ h) gw_132 gw_133 gw_134 gw_135 gw_131) rfl rfl rfl (by decide +kernel) ⟨Nat.le_of_ble_eq_true rfl, Nat.le_of_ble_eq_true rfl⟩) (pw_V [0, 1, 2, 3] [0, 1] hP hD hK hN rfl rfl (by decide) rfl (ci := 8) (q0 := 0) rfl rfl) rfl rfl hl.1 rfl (lv_room (Nat.le_of_ble_eq_true rfl)) dX8_makePlan_36 ⟨Nat.le_of_ble_eq_true rfl, Nat.le_of_ble_eq_true rfl⟩) hP hD hK hS hA [0, 1, 2, 3] [4, 5] rfl rfl (by decide) (by decide) (fun u_1 H locs hw_3 hP hD hK hS => ?_)
  obtain ⟨ufb_4, ufk_5⟩ := u_1
  try dsimp only at hw_3
  have hP : va_P D vwCl [(qn, .inr (5, [.ref z0, .int y1, .int y2, .ref qr, .ref qo, .ref z5, .ref qf, .int y7, .ref z8, .ref z9, .ref z10, .int y11])), (qf, .inl (kf, 13, .inl ff)), (h0, .inr (8, [v0, v1, v2, .ref qo, .ref qr, v5, v6, .ref qn, v8, .int 0, v10, v11, v12, v13, v14, v15, v16, v17, v18])), (qr, .inr (6, [.ref qb, .ref qk, s2, s3, s4, s5, .int 0, .int 0])), (qb, .inl (kb, 12, .inl ufb_4)), (qk, .inl (kk, 12, .inl ufk_5))] H := hP
  have hD : va_D A [(qn, .inr (5, [.ref z0, .int y1, .int y2, .ref qr, .ref qo, .ref z5, .ref qf, .int y7, .ref z8, .ref z9, .ref z10, .int y11])), (qf, .inl (kf, 13, .inl ff)), (h0, .inr (8, [v0, v1, v2, .ref qo, .ref qr, v5, v6, .ref qn, v8, .int 0, v10, v11, v12, v13, v14, v15, v16, v17, v18])), (qr, .inr (6, [.ref qb, .ref qk, s2, s3, s4, s5, .int 0, .int 0])), (qb, .inl (kb, 12, .inl ufb_4)), (qk, .inl (kk, 12, .inl ufk_5))] := hD
  have hK : va_K D vwCl [(kb, .int), (kk, .int), (kf, .int)] s := hK
  refine W.widen (k := 0) (n := 0) (Nat.le_of_ble_eq_true rfl) (Nat.le_of_ble_eq_true rfl) ?_
  refine lv_aload_n hx hb dX8_makePlan_39 rfl (lv_at hl 0 rfl) ?_
  refine fr_v (wr := [(h0, .inr (8, [v0, v1, v2, .ref qo, .ref qr, v5, v6, .ref qn, v8, .int 0, v10, v11, v12, v13, v14, v15, v16, v17, v18])), (qb, .inl (kb, 12, .inl ufb_4)), (qk, .inl (kk, 12, .inl ufk_5))]) (va_runV (As := []) (rest := []) ⟨hx, hb, hml, hown, hts⟩ (c_X5_choose l D H.size qn (.ref z0) qr (.ref qo) (.ref z5) qf (.ref z8) (.ref z9) (.ref z10) y1 y2 y7 y11 kf ff ([.ref qb, .ref qk, s2, s3, s4, s5, .int 0, .int 0]) rfl) (cwV 0 hts (gV (fun w h => List.mem_cons_of_mem _ h) gw_137 gw_138 gw_139 gw_113 gw_136) rfl rfl rfl (by decide +kernel) ⟨Nat.le_of_ble_eq_true rfl, Nat.le_of_ble_eq_true rfl⟩) (pw_V [0, 1, 3] [2] hP hD hK hN rfl rfl (by decide) rfl (ci := 5) (q0 := 0) rfl rfl) rfl rfl hl.1 rfl (lv_room (Nat.le_of_ble_eq_true rfl)) dX8_makePlan_40 ⟨Nat.le_of_ble_eq_true rfl, Nat.le_of_ble_eq_true rfl⟩) hP hD hK hS hA [0, 1, 3] [2, 4, 5] rfl rfl (by decide) (by decide) (fun u_6 H locs hw_8 hP hD hK hS => ?_)
  obtain ⟨uff_9, ux_10⟩ := u_6
  try dsimp only at hw_8
  have hP : va_P D vwCl [(h0, .inr (8, [v0, v1, v2, .ref qo, .ref qr, v5, v6, .ref qn, v8, .int 0, v10, v11, v12, v13, v14, v15, v16, v17, v18])), (qb, .inl (kb, 12, .inl ufb_4)), (qk, .inl (kk, 12, .inl ufk_5)), (qn, .inr (5, [.ref z0, .int 0, .int 0, .ref qr, .ref qo, .ref z5, .ref qf, .int 0, .ref z8, .ref z9, .ref z10, .int ux_10])), (qf, .inl (kf, 13, .inl uff_9)), (qr, .inr (6, [.ref qb, .ref qk, s2, s3, s4, s5, .int 0, .int 0]))] H := hP
  have hD : va_D A [(h0, .inr (8, [v0, v1, v2, .ref qo, .ref qr, v5, v6, .ref qn, v8, .int 0, v10, v11, v12, v13, v14, v15, v16, v17, v18])), (qb, .inl (kb, 12, .inl ufb_4)), (qk, .inl (kk, 12, .inl ufk_5)), (qn, .inr (5, [.ref z0, .int 0, .int 0, .ref qr, .ref qo, .ref z5, .ref qf, .int 0, .ref z8, .ref z9, .ref z10, .int ux_10])), (qf, .inl (kf, 13, .inl uff_9)), (qr, .inr (6, [.ref qb, .ref qk, s2, s3, s4, s5, .int 0, .int 0]))] := hD
  have hK : va_K D vwCl [(kb, .int), (kk, .int), (kf, .int)] s := hK
  refine W.widen (k := 0) (n := 0) (Nat.le_of_ble_eq_true rfl) (Nat.le_of_ble_eq_true rfl) ?_
  refine lv_aload_n hx hb dX8_makePlan_43 rfl (lv_at hl 0 rfl) ?_
  have hP9 := hP.sub (ws' := [(h0, .inr (8, [v0, v1, v2, .ref qo, .ref qr, v5, v6, .ref qn, v8, .int 0, v10, v11, v12, v13, v14, v15, v16, v17, v18])), (qr, .inr (6, [.ref qb, .ref qk, s2, s3, s4, s5, .int 0, .int 0])), (qb, .inl (kb, 12, .inl ufb_4)), (qk, .inl (kk, 12, .inl ufk_5)), (qn, .inr (5, [.ref z0, .int 0, .int 0, .ref qr, .ref qo, .ref z5, .ref qf, .int 0, .ref z8, .ref z9, .ref z10, .int ux_10])), (qf, .inl (kf, 13, .inl uff_9))]) [0, 5, 1, 2, 3, 4] rfl
  have hD9 := hD.sub (ws' := [(h0, .inr (8, [v0, v1, v2, .ref qo, .ref qr, v5, v6, .ref qn, v8, .int 0, v10, v11, v12, v13, v14, v15, v16, v17, v18])), (qr, .inr (6, [.ref qb, .ref qk, s2, s3, s4, s5, .int 0, .int 0])), (qb, .inl (kb, 12, .inl ufb_4)), (qk, .inl (kk, 12, .inl ufk_5)), (qn, .inr (5, [.ref z0, .int 0, .int 0, .ref qr, .ref qo, .ref z5, .ref qf, .int 0, .ref z8, .ref z9, .ref z10, .int ux_10])), (qf, .inl (kf, 13, .inl uff_9))]) [0, 5, 1, 2, 3, 4] (by decide) rfl
  have hK9 := hK.sub (tys' := []) [] rfl
  refine W.widen (k := 0) (n := 0) (Nat.le_of_ble_eq_true rfl) (Nat.le_of_ble_eq_true rfl) ?_
  exact W.aret (v := .ref qn) hx hb hr (Or.inl ⟨_, rfl⟩) (Or.inr ⟨_, rfl⟩) (fun t ht hW => ⟨⟨some qn, (ufb_4, ufk_5, uff_9, ux_10), rfl, rfl, by rw [ht]; exact hP9, va_K.moved hW.alike hK9, hD9⟩, hS.F ht⟩) hS.2.2 dX8_makePlan_44
