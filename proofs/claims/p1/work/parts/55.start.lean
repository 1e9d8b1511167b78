theorem dL_law_0 : decode cL_law 0 = .ok (.new 8, 3) := by decide +kernel
theorem dL_law_3 : decode cL_law 3 = .ok (.dup, 1) := by decide +kernel
theorem dL_law_4 : decode cL_law 4 = .ok (.invokespecial 23, 3) := by decide +kernel
theorem dL_law_7 : decode cL_law 7 = .ok (.astore_n 1, 1) := by decide +kernel
theorem dL_law_8 : decode cL_law 8 = .ok (.new 24, 3) := by decide +kernel
theorem dL_law_11 : decode cL_law 11 = .ok (.dup, 1) := by decide +kernel
theorem dL_law_12 : decode cL_law 12 = .ok (.invokespecial 26, 3) := by decide +kernel
theorem dL_law_15 : decode cL_law 15 = .ok (.astore_n 2, 1) := by decide +kernel
theorem dL_law_16 : decode cL_law 16 = .ok (.iconst 1, 1) := by decide +kernel
theorem dL_law_17 : decode cL_law 17 = .ok (.newarray .long, 2) := by decide +kernel
theorem dL_law_19 : decode cL_law 19 = .ok (.astore_n 3, 1) := by decide +kernel
theorem dL_law_20 : decode cL_law 20 = .ok (.iconst 0, 1) := by decide +kernel
theorem dL_law_21 : decode cL_law 21 = .ok (.istore 4, 2) := by decide +kernel
theorem dL_law_33 : decode cL_law 33 = .ok (.aload_n 0, 1) := by decide +kernel
theorem dL_law_34 : decode cL_law 34 = .ok (.iload 4, 2) := by decide +kernel
theorem dL_law_36 : decode cL_law 36 = .ok (.iaload, 1) := by decide +kernel
theorem dL_law_37 : decode cL_law 37 = .ok (.bipush 31, 2) := by decide +kernel
theorem dL_law_39 : decode cL_law 39 = .ok (.iand, 1) := by decide +kernel
theorem dL_law_40 : decode cL_law 40 = .ok (.tableswitch 1218 0 24 #[116, 129, 178, 283, 348, 385, 410, 483, 508, 545, 637, 705, 809, 846, 871, 896, 909, 946, 959, 984, 1009, 1070, 1095, 1156, 1193], 116) := by decide +kernel
set_option maxHeartbeats 4000000 in
set_option maxRecDepth 100000 in
theorem whole_start {p : Program} {e : Env} {s : State} {m : MethodId} {below : List Frame} {meth : Method} {c : Code} (l : Launch) (hlt : l.stackTraces = false) {b L : Nat} {xs : Nat → Int32} (hL : L ≤ 6) (C0 : lw_At p s m meth c b L xs) : W p l e room_1 s m #[Value.ref b] below meth c s.heap [] 0 0 (lw_Z below #[Value.ref b] s) (entryFrame m ([Value.ref b] : List Value).toArray 7) := by
  obtain ⟨hx, hb, hr, hml, hown, hts, hX, hbl, hlocks, hgv⟩ := id C0
  have hown : s.vm.findClass RL = some m.cls := hown
  obtain ⟨A, hAd⟩ : ∃ A : Nat → Prop, A = fun q : Nat => s.heap.size ≤ q := ⟨_, rfl⟩
  have hA : ∀ q : Nat, s.heap.size ≤ q → A q := fun q h => by rw [hAd]; exact h
  have hA9 : ∀ a : Nat, a < s.heap.size → ¬ A a := fun a h => by rw [hAd]; exact Nat.not_le.mpr h
  have hbA : ¬ A b := hA9 b hbl
  have hN : nw s := ⟨va_Nw.of rfl (hts _ (List.mem_of_getElem? (i := 148) (by decide +kernel))), va_Nw.of rfl (hts _ (List.mem_of_getElem? (i := 164) (by decide +kernel))), va_Nw.of rfl (hts _ (List.mem_of_getElem? (i := 196) (by decide +kernel))), va_Nw.of rfl (hts _ (List.mem_of_getElem? (i := 304) (by decide +kernel))), va_AO.of (hts _ (List.mem_of_getElem? (i := 78) (by decide +kernel))), va_AO.of (hts _ (List.mem_of_getElem? (i := 80) (by decide +kernel))), va_AO.of (hts _ (List.mem_of_getElem? (i := 88) (by decide +kernel)))⟩
  have hflat := flat_of_before _ hgv
  obtain ⟨sa1, c1, cl1, kk1, hs1, -⟩ := Cond.exactly_spec (hflat (.exactly (.string "OddShoes" 189) "java/lang/String") (by decide +kernel))
  have hr1 : vk_R RX8 189 "no such foot, maker or question" sa1 s := vk_R.of (hts _ (List.mem_of_getElem? (i := 862) (by decide +kernel))) hs1
  obtain ⟨sa2, c2, cl2, kk2, hs2, -⟩ := Cond.exactly_spec (hflat (.exactly (.string "OddShoes" 204) "java/lang/String") (by decide +kernel))
  have hr2 : vk_R RX8 204 "no such maker or question" sa2 s := vk_R.of (hts _ (List.mem_of_getElem? (i := 897) (by decide +kernel))) hs2
  obtain ⟨sa3, c3, cl3, kk3, hs3, -⟩ := Cond.exactly_spec (hflat (.exactly (.string "OddShoes" 212) "java/lang/String") (by decide +kernel))
  have hr3 : vk_R RX8 212 "no such feet or question" sa3 s := vk_R.of (hts _ (List.mem_of_getElem? (i := 913) (by decide +kernel))) hs3
  have hU : vx_Zq Bundle.tN "UNASSIGNED_STACK" Bundle.steD A s s.heap := vx_Zqof (hts _ (List.mem_of_getElem? (i := 850) (by decide +kernel))) (hts _ (List.mem_of_getElem? (i := 63) (by decide +kernel))) (hflat (.isRef (.static "java/lang/Throwable" "UNASSIGNED_STACK" "[Ljava/lang/StackTraceElement;")) (by decide +kernel)) hA9
  have hV : vx_Zq Bundle.tN "SUPPRESSED_SENTINEL" Bundle.listD A s s.heap := vx_Zqof (hts _ (List.mem_of_getElem? (i := 852) (by decide +kernel))) (hts _ (List.mem_of_getElem? (i := 63) (by decide +kernel))) (hflat (.isRef (.static "java/lang/Throwable" "SUPPRESSED_SENTINEL" "Ljava/util/List;")) (by decide +kernel)) hA9
  have hT : tw A s s.heap := ⟨⟨_, hr1⟩, ⟨_, hr2⟩, ⟨_, hr3⟩, hU, hV, va_Nw.of rfl (hts _ (List.mem_of_getElem? (i := 825) (by decide +kernel))), va_Nw.of rfl (hts _ (List.mem_of_getElem? (i := 827) (by decide +kernel))), va_Nw.of rfl (hts _ (List.mem_of_getElem? (i := 829) (by decide +kernel))), va_Nw.of rfl (hts _ (List.mem_of_getElem? (i := 831) (by decide +kernel)))⟩
  obtain ⟨c0, iS0, hKn0⟩ := u_known (C := RX0) (T := TX0) (N := 1) (n := 1) hts (fun w h => G_in w (inG0 w h)) (hts _ (List.mem_of_getElem? (i := 303) (by decide +kernel)))
  obtain ⟨c1, iS1, hKn1⟩ := u_known (C := RX1) (T := TX1) (N := 7) (n := 7) hts (fun w h => G_in w (inG1 w h)) (hts _ (List.mem_of_getElem? (i := 82) (by decide +kernel)))
  obtain ⟨c2, iS2, hKn2⟩ := u_known (C := RX2) (T := TX2) (N := 3) (n := 3) hts (fun w h => G_in w (inG2 w h)) (hts _ (List.mem_of_getElem? (i := 147) (by decide +kernel)))
  obtain ⟨c3, iS3, hKn3⟩ := u_known (C := RX3) (T := TX3) (N := 13) (n := 13) hts (fun w h => G_in w (inG3 w h)) (hts _ (List.mem_of_getElem? (i := 342) (by decide +kernel)))
  obtain ⟨c4, iS4, hKn4⟩ := u_known (C := RX4) (T := TX4) (N := 10) (n := 10) hts (fun w h => G_in w (inG4 w h)) (hts _ (List.mem_of_getElem? (i := 195) (by decide +kernel)))
  obtain ⟨c5, iS5, hKn5⟩ := u_known (C := RX5) (T := TX5) (N := 12) (n := 12) hts (fun w h => G_in w (inG5 w h)) (hts _ (List.mem_of_getElem? (i := 630) (by decide +kernel)))
  obtain ⟨c6, iS6, hKn6⟩ := u_known (C := RX6) (T := TX6) (N := 8) (n := 8) hts (fun w h => G_in w (inG6 w h)) (hts _ (List.mem_of_getElem? (i := 163) (by decide +kernel)))
  obtain ⟨c7, iS7, hKn7⟩ := u_known (C := RX7) (T := TX7) (N := 8) (n := 8) hts (fun w h => G_in w (inG7 w h)) (hts _ (List.mem_of_getElem? (i := 434) (by decide +kernel)))
  obtain ⟨c8, iS8, hKn8⟩ := u_known (C := RX8) (T := TX8) (N := 19) (n := 19) hts (fun w h => G_in w (inG8 w h)) (hts _ (List.mem_of_getElem? (i := 70) (by decide +kernel)))
  obtain ⟨c9, iS9, hKn9⟩ := u_known (C := RX9) (T := TX9) (N := 53) (n := 53) hts (fun w h => G_in w (inG9 w h)) (hts _ (List.mem_of_getElem? (i := 923) (by decide +kernel)))
  obtain ⟨D, hKc⟩ : ∃ D : va_G, ∀ (k : Nat) (q : vw_C), vwCl[k]? = some q → u_Kn s q.1 q.2.1 q.2.2 (D.1 k) (D.2 k) := by
    refine ⟨(fun k => if k = 0 then c0 else if k = 1 then c1 else if k = 2 then c2 else if k = 3 then c3 else if k = 4 then c4 else if k = 5 then c5 else if k = 6 then c6 else if k = 7 then c7 else if k = 8 then c8 else c9, fun k => if k = 0 then iS0 else if k = 1 then iS1 else if k = 2 then iS2 else if k = 3 then iS3 else if k = 4 then iS4 else if k = 5 then iS5 else if k = 6 then iS6 else if k = 7 then iS7 else if k = 8 then iS8 else iS9), ?_⟩
    intro k q hq
    match k, hq with
    | 0, hq => cases hq; exact hKn0
    | 1, hq => cases hq; exact hKn1
    | 2, hq => cases hq; exact hKn2
    | 3, hq => cases hq; exact hKn3
    | 4, hq => cases hq; exact hKn4
    | 5, hq => cases hq; exact hKn5
    | 6, hq => cases hq; exact hKn6
    | 7, hq => cases hq; exact hKn7
    | 8, hq => cases hq; exact hKn8
    | 9, hq => cases hq; exact hKn9
    | k + 10, hq => simp [vwCl] at hq
  have hS : va_S A s.heap s.heap [] := va_S.rf
  have hK : va_K D vwCl [] s := ⟨hKc, fun k q h => by simp at h⟩
  have hP : va_P D vwCl [] s.heap := fun k q h => by simp at h
  have hD : va_D A [] := ⟨fun i j p q h => by simp at h, fun k q h => by simp at h⟩
  have hl := lv_entry ([.ref b]) (n := 7) (Nat.le_of_ble_eq_true rfl)
  rw [lg_entry_eq]
  generalize (lg_sl ([.ref b]) ++ List.replicate (7 - (lg_sl ([.ref b])).length) Slot.unset).toArray = ls at hl ⊢
  have hl : lv_has ls 7 [(0, .ref b)] := hl
  refine va_new (ci := 8) (fs := [.null, .null, .null, .null, .null, .null, .null, .null, .int 0, .int 0, .int 0, .int 0, .int 0, .int 0, .int 0, .int 0, .int 0, .int 0, .int 0]) (C := RX8) (T := TX8) (N := 19) hx hb hts (fun w h => G_in w (inG8 w h)) tyX8 tyX8_ok hown (hts _ (G_in _ gw_546)) (hts _ (G_in _ gw_547)) (hts _ (G_in _ gw_135)) hK hP hD hS hA rfl dvX8 (Nat.le_of_ble_eq_true rfl) (Nat.le_of_ble_eq_true rfl) dL_law_0 (fun q_1 H hP hD hS => ?_)
  have hP : va_P D vwCl [(q_1, .inr (8, [.null, .null, .null, .null, .null, .null, .null, .null, .int 0, .int 0, .int 0, .int 0, .int 0, .int 0, .int 0, .int 0, .int 0, .int 0, .int 0]))] H := hP
  have hD : va_D A [(q_1, .inr (8, [.null, .null, .null, .null, .null, .null, .null, .null, .int 0, .int 0, .int 0, .int 0, .int 0, .int 0, .int 0, .int 0, .int 0, .int 0, .int 0]))] := hD
  refine W.widen (k := 1) (n := 19) (Nat.le_of_ble_eq_true rfl) (Nat.le_of_ble_eq_true rfl) ?_
  refine lv_dup hx hb dL_law_3 rfl ?_
  refine fr_v (wr := []) (va_runI (As := []) (rest := [.ref q_1]) ⟨hx, hb, hml, hown, hts⟩ (c_X8_init l D H.size q_1 ) (cwI 0 hts (gI G_in gw_548) rfl rfl rfl (hts _ (G_in _ gw_135)) (hts _ (G_in _ gw_549)) (hts _ (G_in _ gw_550)) rfl (by decide +kernel) ⟨Nat.le_of_ble_eq_true rfl, Nat.le_of_ble_eq_true rfl⟩) (pw_S [0] [] hP hD hK hN rfl rfl (by decide) rfl) rfl rfl hl.1 rfl (lv_room (Nat.le_of_ble_eq_true rfl)) dL_law_4 ⟨Nat.le_of_ble_eq_true rfl, Nat.le_of_ble_eq_true rfl⟩) hP hD hK hS hA [0] [] rfl rfl (by decide) (by decide) (fun u_2 H locs hw_4 hP hD hK hS => ?_)
  obtain ⟨a1_5, a2_6, a3_7, a4_8, a5_9, a6_10, a7_11, m1_12, m2_13, m3_14, m4_15, m5_16, m6_17, b1_18, b2_19, b3_20, b4_21, b5_22, b6_23, p1_24, p2_25, p3_26, p4_27, p5_28, k1_29, k2_30, k3_31, k4_32⟩ := u_2
  try dsimp only at hw_4
  have hP : va_P D vwCl [(q_1, .inr (8, [.ref a1_5, .ref a2_6, .ref a3_7, .ref a4_8, .ref a5_9, .ref a6_10, .ref a7_11, .null, .int 0, .int 0, .int 0, .int 0, .int 100, .int 10, .int 0, .int 0, .int 0, .int 0, .int 0])), (a1_5, .inl (k1_29, 4, .inr (.inr (.inr (.inr (fun _ => none)))))), (a2_6, .inl (k2_30, 12, .inr (.inr (.inr (.inr (fun _ => none)))))), (a3_7, .inr (1, [.int 0, .ref m1_12, .ref m2_13, .ref m3_14, .ref m4_15, .ref m5_16, .ref m6_17])), (a5_9, .inr (6, [.ref b1_18, .ref b2_19, .ref b3_20, .ref b4_21, .ref b5_22, .ref b6_23, .int 0, .int 0])), (b1_18, .inl (k3_31, 12, .inl (fun _ => 0))), (b2_19, .inl (k4_32, 12, .inl (fun _ => 0))), (a6_10, .inr (4, [.ref p1_24, .ref p2_25, .ref p3_26, .ref p4_27, .ref p5_28, .int 0, .int 0, .int 0, .int 0, .int 0]))] H := hP
  have hD : va_D A [(q_1, .inr (8, [.ref a1_5, .ref a2_6, .ref a3_7, .ref a4_8, .ref a5_9, .ref a6_10, .ref a7_11, .null, .int 0, .int 0, .int 0, .int 0, .int 100, .int 10, .int 0, .int 0, .int 0, .int 0, .int 0])), (a1_5, .inl (k1_29, 4, .inr (.inr (.inr (.inr (fun _ => none)))))), (a2_6, .inl (k2_30, 12, .inr (.inr (.inr (.inr (fun _ => none)))))), (a3_7, .inr (1, [.int 0, .ref m1_12, .ref m2_13, .ref m3_14, .ref m4_15, .ref m5_16, .ref m6_17])), (a5_9, .inr (6, [.ref b1_18, .ref b2_19, .ref b3_20, .ref b4_21, .ref b5_22, .ref b6_23, .int 0, .int 0])), (b1_18, .inl (k3_31, 12, .inl (fun _ => 0))), (b2_19, .inl (k4_32, 12, .inl (fun _ => 0))), (a6_10, .inr (4, [.ref p1_24, .ref p2_25, .ref p3_26, .ref p4_27, .ref p5_28, .int 0, .int 0, .int 0, .int 0, .int 0]))] := hD
  have hK : va_K D vwCl [(k1_29, .object RX0), (k2_30, .object RX3), (k3_31, .int), (k4_32, .int)] s := hK
  refine W.widen (k := 28) (n := 892) (Nat.le_of_ble_eq_true rfl) (Nat.le_of_ble_eq_true rfl) ?_
  refine lv_astore_n (lv' := [(1, .ref q_1), (0, .ref b)]) hx hb dL_law_7 rfl hl (by decide) rfl (fun ls hl => ?_)
  refine va_new (ci := 9) (fs := [.int 0, .int 0, .int 0, .int 0, .int 0, .int 0, .int 0, .null, .null, .null, .null, .null, .null, .null, .null, .null, .null, .null, .null, .null, .null, .null, .null, .null, .null, .int 0, .int 0, .int 0, .null, .int 0, .null, .null, .null, .null, .int 0, .null, .int 0, .null, .null, .null, .null, .int 0, .int 0, .int 0, .int 0, .null, .null, .null, .null, .null, .null, .null, .null]) (C := RX9) (T := TX9) (N := 53) hx hb hts (fun w h => G_in w (inG9 w h)) tyX9 tyX9_ok hown (hts _ (G_in _ gw_551)) (hts _ (G_in _ gw_552)) (hts _ (G_in _ gw_245)) hK hP hD hS hA rfl dvX9 (Nat.le_of_ble_eq_true rfl) (Nat.le_of_ble_eq_true rfl) dL_law_8 (fun q_33 H hP hD hS => ?_)
  have hP : va_P D vwCl [(q_1, .inr (8, [.ref a1_5, .ref a2_6, .ref a3_7, .ref a4_8, .ref a5_9, .ref a6_10, .ref a7_11, .null, .int 0, .int 0, .int 0, .int 0, .int 100, .int 10, .int 0, .int 0, .int 0, .int 0, .int 0])), (a1_5, .inl (k1_29, 4, .inr (.inr (.inr (.inr (fun _ => none)))))), (a2_6, .inl (k2_30, 12, .inr (.inr (.inr (.inr (fun _ => none)))))), (a3_7, .inr (1, [.int 0, .ref m1_12, .ref m2_13, .ref m3_14, .ref m4_15, .ref m5_16, .ref m6_17])), (a5_9, .inr (6, [.ref b1_18, .ref b2_19, .ref b3_20, .ref b4_21, .ref b5_22, .ref b6_23, .int 0, .int 0])), (b1_18, .inl (k3_31, 12, .inl (fun _ => 0))), (b2_19, .inl (k4_32, 12, .inl (fun _ => 0))), (a6_10, .inr (4, [.ref p1_24, .ref p2_25, .ref p3_26, .ref p4_27, .ref p5_28, .int 0, .int 0, .int 0, .int 0, .int 0])), (q_33, .inr (9, [Value.int 0, Value.int 0, Value.int 0, Value.int 0, Value.int 0, Value.int 0, Value.int 0, Value.null, Value.null, Value.null, Value.null, Value.null, Value.null, Value.null, Value.null, Value.null, Value.null, Value.null, Value.null, Value.null, Value.null, Value.null, Value.null, Value.null, Value.null, Value.int 0, Value.int 0, Value.int 0, Value.null, Value.int 0, Value.null, Value.null, Value.null, Value.null, Value.int 0, Value.null, Value.int 0, Value.null, Value.null, Value.null, Value.null, Value.int 0, Value.int 0, Value.int 0, Value.int 0, Value.null, Value.null, Value.null, Value.null, Value.null, Value.null, Value.null, Value.null]))] H := hP
  have hD : va_D A [(q_1, .inr (8, [.ref a1_5, .ref a2_6, .ref a3_7, .ref a4_8, .ref a5_9, .ref a6_10, .ref a7_11, .null, .int 0, .int 0, .int 0, .int 0, .int 100, .int 10, .int 0, .int 0, .int 0, .int 0, .int 0])), (a1_5, .inl (k1_29, 4, .inr (.inr (.inr (.inr (fun _ => none)))))), (a2_6, .inl (k2_30, 12, .inr (.inr (.inr (.inr (fun _ => none)))))), (a3_7, .inr (1, [.int 0, .ref m1_12, .ref m2_13, .ref m3_14, .ref m4_15, .ref m5_16, .ref m6_17])), (a5_9, .inr (6, [.ref b1_18, .ref b2_19, .ref b3_20, .ref b4_21, .ref b5_22, .ref b6_23, .int 0, .int 0])), (b1_18, .inl (k3_31, 12, .inl (fun _ => 0))), (b2_19, .inl (k4_32, 12, .inl (fun _ => 0))), (a6_10, .inr (4, [.ref p1_24, .ref p2_25, .ref p3_26, .ref p4_27, .ref p5_28, .int 0, .int 0, .int 0, .int 0, .int 0])), (q_33, .inr (9, [Value.int 0, Value.int 0, Value.int 0, Value.int 0, Value.int 0, Value.int 0, Value.int 0, Value.null, Value.null, Value.null, Value.null, Value.null, Value.null, Value.null, Value.null, Value.null, Value.null, Value.null, Value.null, Value.null, Value.null, Value.null, Value.null, Value.null, Value.null, Value.int 0, Value.int 0, Value.int 0, Value.null, Value.int 0, Value.null, Value.null, Value.null, Value.null, Value.int 0, Value.null, Value.int 0, Value.null, Value.null, Value.null, Value.null, Value.int 0, Value.int 0, Value.int 0, Value.int 0, Value.null, Value.null, Value.null, Value.null, Value.null, Value.null, Value.null, Value.null]))] := hD
  refine W.widen (k := 29) (n := 945) (Nat.le_of_ble_eq_true rfl) (Nat.le_of_ble_eq_true rfl) ?_
  refine lv_dup hx hb dL_law_11 rfl ?_
  refine fr_v (wr := [(q_1, .inr (8, [.ref a1_5, .ref a2_6, .ref a3_7, .ref a4_8, .ref a5_9, .ref a6_10, .ref a7_11, .null, .int 0, .int 0, .int 0, .int 0, .int 100, .int 10, .int 0, .int 0, .int 0, .int 0, .int 0])), (a1_5, .inl (k1_29, 4, .inr (.inr (.inr (.inr (fun _ => none)))))), (a2_6, .inl (k2_30, 12, .inr (.inr (.inr (.inr (fun _ => none)))))), (a3_7, .inr (1, [.int 0, .ref m1_12, .ref m2_13, .ref m3_14, .ref m4_15, .ref m5_16, .ref m6_17])), (a5_9, .inr (6, [.ref b1_18, .ref b2_19, .ref b3_20, .ref b4_21, .ref b5_22, .ref b6_23, .int 0, .int 0])), (b1_18, .inl (k3_31, 12, .inl (fun _ => 0))), (b2_19, .inl (k4_32, 12, .inl (fun _ => 0))), (a6_10, .inr (4, [.ref p1_24, .ref p2_25, .ref p3_26, .ref p4_27, .ref p5_28, .int 0, .int 0, .int 0, .int 0, .int 0]))]) (va_runI (As := []) (rest := [.ref q_33]) ⟨hx, hb, hml, hown, hts⟩ (c_X9_init l D H.size q_33 ) (cwI 0 hts (gI G_in gw_553) rfl rfl rfl (hts _ (G_in _ gw_245)) (hts _ (G_in _ gw_554)) (hts _ (G_in _ gw_555)) rfl (by decide +kernel) ⟨Nat.le_of_ble_eq_true rfl, Nat.le_of_ble_eq_true rfl⟩) (pw_S [8] [] hP hD hK hN rfl rfl (by decide) rfl) rfl rfl hl.1 rfl (lv_room (Nat.le_of_ble_eq_true rfl)) dL_law_12 ⟨Nat.le_of_ble_eq_true rfl, Nat.le_of_ble_eq_true rfl⟩) hP hD hK hS hA [8] [0, 1, 2, 3, 4, 5, 6, 7] rfl rfl (by decide) (by decide) (fun u_34 H locs hw_36 hP hD hK hS => ?_)
  obtain ⟨n7_37, n8_38, n9_39, n10_40, n11_41, n12_42, n13_43, n14_44, n15_45, n16_46, n17_47, n18_48, n19_49, n20_50, n21_51, n22_52, n23_53, n24_54, n28_55, n30_56, n31_57, n32_58, n33_59, n35_60, n37_61, n38_62, n39_63, n40_64, n45_65, n46_66, n47_67, n48_68, n49_69, n50_70, n51_71, n52_72, z8_73, z9_74, z10_75, z11_76, z12_77, z24_78, z37_79, z38_80, z39_81⟩ := u_34
  try dsimp only at hw_36
  have hP : va_P D vwCl [(q_1, .inr (8, [.ref a1_5, .ref a2_6, .ref a3_7, .ref a4_8, .ref a5_9, .ref a6_10, .ref a7_11, .null, .int 0, .int 0, .int 0, .int 0, .int 100, .int 10, .int 0, .int 0, .int 0, .int 0, .int 0])), (a1_5, .inl (k1_29, 4, .inr (.inr (.inr (.inr (fun _ => none)))))), (a2_6, .inl (k2_30, 12, .inr (.inr (.inr (.inr (fun _ => none)))))), (a3_7, .inr (1, [.int 0, .ref m1_12, .ref m2_13, .ref m3_14, .ref m4_15, .ref m5_16, .ref m6_17])), (a5_9, .inr (6, [.ref b1_18, .ref b2_19, .ref b3_20, .ref b4_21, .ref b5_22, .ref b6_23, .int 0, .int 0])), (b1_18, .inl (k3_31, 12, .inl (fun _ => 0))), (b2_19, .inl (k4_32, 12, .inl (fun _ => 0))), (a6_10, .inr (4, [.ref p1_24, .ref p2_25, .ref p3_26, .ref p4_27, .ref p5_28, .int 0, .int 0, .int 0, .int 0, .int 0])), (q_33, .inr (9, [Value.int 0, Value.int 0, Value.int 0, Value.int 0, Value.int 0, Value.int 100, Value.int 10, Value.ref n7_37, Value.ref n8_38, Value.ref n9_39, Value.ref n10_40, Value.ref n11_41, Value.ref n12_42, Value.ref n13_43, Value.ref n14_44, Value.ref n15_45, Value.ref n16_46, Value.ref n17_47, Value.ref n18_48, Value.ref n19_49, Value.ref n20_50, Value.ref n21_51, Value.ref n22_52, Value.ref n23_53, Value.ref n24_54, Value.int 0, Value.int 0, Value.int 0, Value.ref n28_55, Value.int 0, Value.ref n30_56, Value.ref n31_57, Value.ref n32_58, Value.ref n33_59, Value.int 0, Value.ref n35_60, Value.int 0, Value.ref n37_61, Value.ref n38_62, Value.ref n39_63, Value.ref n40_64, Value.int 0, Value.int 0, Value.int 0, Value.int 0, Value.ref n45_65, Value.ref n46_66, Value.ref n47_67, Value.ref n48_68, Value.ref n49_69, Value.ref n50_70, Value.ref n51_71, Value.ref n52_72])), (n8_38, .inl (z8_73, 24, .inl (fun _ => 0))), (n9_39, .inl (z9_74, 12, .inl (fun _ => 0))), (n10_40, .inl (z10_75, 12, .inl (fun _ => 0))), (n11_41, .inl (z11_76, 12, .inl (fun _ => 0))), (n12_42, .inl (z12_77, 12, .inl (fun _ => 0))), (n24_54, .inl (z24_78, 3840, .inl (fun _ => 0))), (n37_61, .inl (z37_79, 4096, .inl (fun _ => 0))), (n38_62, .inl (z38_80, 4096, .inl (fun _ => 0))), (n39_63, .inl (z39_81, 4096, .inl (fun _ => 0)))] H := hP
  have hD : va_D A [(q_1, .inr (8, [.ref a1_5, .ref a2_6, .ref a3_7, .ref a4_8, .ref a5_9, .ref a6_10, .ref a7_11, .null, .int 0, .int 0, .int 0, .int 0, .int 100, .int 10, .int 0, .int 0, .int 0, .int 0, .int 0])), (a1_5, .inl (k1_29, 4, .inr (.inr (.inr (.inr (fun _ => none)))))), (a2_6, .inl (k2_30, 12, .inr (.inr (.inr (.inr (fun _ => none)))))), (a3_7, .inr (1, [.int 0, .ref m1_12, .ref m2_13, .ref m3_14, .ref m4_15, .ref m5_16, .ref m6_17])), (a5_9, .inr (6, [.ref b1_18, .ref b2_19, .ref b3_20, .ref b4_21, .ref b5_22, .ref b6_23, .int 0, .int 0])), (b1_18, .inl (k3_31, 12, .inl (fun _ => 0))), (b2_19, .inl (k4_32, 12, .inl (fun _ => 0))), (a6_10, .inr (4, [.ref p1_24, .ref p2_25, .ref p3_26, .ref p4_27, .ref p5_28, .int 0, .int 0, .int 0, .int 0, .int 0])), (q_33, .inr (9, [Value.int 0, Value.int 0, Value.int 0, Value.int 0, Value.int 0, Value.int 100, Value.int 10, Value.ref n7_37, Value.ref n8_38, Value.ref n9_39, Value.ref n10_40, Value.ref n11_41, Value.ref n12_42, Value.ref n13_43, Value.ref n14_44, Value.ref n15_45, Value.ref n16_46, Value.ref n17_47, Value.ref n18_48, Value.ref n19_49, Value.ref n20_50, Value.ref n21_51, Value.ref n22_52, Value.ref n23_53, Value.ref n24_54, Value.int 0, Value.int 0, Value.int 0, Value.ref n28_55, Value.int 0, Value.ref n30_56, Value.ref n31_57, Value.ref n32_58, Value.ref n33_59, Value.int 0, Value.ref n35_60, Value.int 0, Value.ref n37_61, Value.ref n38_62, Value.ref n39_63, Value.ref n40_64, Value.int 0, Value.int 0, Value.int 0, Value.int 0, Value.ref n45_65, Value.ref n46_66, Value.ref n47_67, Value.ref n48_68, Value.ref n49_69, Value.ref n50_70, Value.ref n51_71, Value.ref n52_72])), (n8_38, .inl (z8_73, 24, .inl (fun _ => 0))), (n9_39, .inl (z9_74, 12, .inl (fun _ => 0))), (n10_40, .inl (z10_75, 12, .inl (fun _ => 0))), (n11_41, .inl (z11_76, 12, .inl (fun _ => 0))), (n12_42, .inl (z12_77, 12, .inl (fun _ => 0))), (n24_54, .inl (z24_78, 3840, .inl (fun _ => 0))), (n37_61, .inl (z37_79, 4096, .inl (fun _ => 0))), (n38_62, .inl (z38_80, 4096, .inl (fun _ => 0))), (n39_63, .inl (z39_81, 4096, .inl (fun _ => 0)))] := hD
  have hK : va_K D vwCl [(k1_29, .object RX0), (k2_30, .object RX3), (k3_31, .int), (k4_32, .int), (z8_73, .boolean), (z9_74, .int), (z10_75, .int), (z11_76, .int), (z12_77, .int), (z24_78, .int), (z37_79, .int), (z38_80, .int), (z39_81, .int)] s := hK
  refine W.widen (k := 65) (n := 35264) (Nat.le_of_ble_eq_true rfl) (Nat.le_of_ble_eq_true rfl) ?_
  refine lv_astore_n (lv' := [(2, .ref q_33), (1, .ref q_1), (0, .ref b)]) hx hb dL_law_15 rfl hl (by decide) rfl (fun ls hl => ?_)
  refine lv_iconst (v := 1) hx hb dL_law_16 (by decide) ?_
  refine va_newa (atype := .long) (ty := .long) (N' := 1) (a0 := (1, .inr (.inl (fun _ => 0)))) hx hb (hts _ (G_in _ gw_102)) rfl hK hP hD hS hA (fun _ => rfl) (by decide) (by decide +kernel) (by decide) (Nat.le_of_ble_eq_true rfl) (Nat.le_of_ble_eq_true rfl) dL_law_17 (fun q_82 cA_83 H hK hP hD hS => ?_)
  have hP : va_P D vwCl [(q_1, .inr (8, [.ref a1_5, .ref a2_6, .ref a3_7, .ref a4_8, .ref a5_9, .ref a6_10, .ref a7_11, .null, .int 0, .int 0, .int 0, .int 0, .int 100, .int 10, .int 0, .int 0, .int 0, .int 0, .int 0])), (a1_5, .inl (k1_29, 4, .inr (.inr (.inr (.inr (fun _ => none)))))), (a2_6, .inl (k2_30, 12, .inr (.inr (.inr (.inr (fun _ => none)))))), (a3_7, .inr (1, [.int 0, .ref m1_12, .ref m2_13, .ref m3_14, .ref m4_15, .ref m5_16, .ref m6_17])), (a5_9, .inr (6, [.ref b1_18, .ref b2_19, .ref b3_20, .ref b4_21, .ref b5_22, .ref b6_23, .int 0, .int 0])), (b1_18, .inl (k3_31, 12, .inl (fun _ => 0))), (b2_19, .inl (k4_32, 12, .inl (fun _ => 0))), (a6_10, .inr (4, [.ref p1_24, .ref p2_25, .ref p3_26, .ref p4_27, .ref p5_28, .int 0, .int 0, .int 0, .int 0, .int 0])), (q_33, .inr (9, [Value.int 0, Value.int 0, Value.int 0, Value.int 0, Value.int 0, Value.int 100, Value.int 10, Value.ref n7_37, Value.ref n8_38, Value.ref n9_39, Value.ref n10_40, Value.ref n11_41, Value.ref n12_42, Value.ref n13_43, Value.ref n14_44, Value.ref n15_45, Value.ref n16_46, Value.ref n17_47, Value.ref n18_48, Value.ref n19_49, Value.ref n20_50, Value.ref n21_51, Value.ref n22_52, Value.ref n23_53, Value.ref n24_54, Value.int 0, Value.int 0, Value.int 0, Value.ref n28_55, Value.int 0, Value.ref n30_56, Value.ref n31_57, Value.ref n32_58, Value.ref n33_59, Value.int 0, Value.ref n35_60, Value.int 0, Value.ref n37_61, Value.ref n38_62, Value.ref n39_63, Value.ref n40_64, Value.int 0, Value.int 0, Value.int 0, Value.int 0, Value.ref n45_65, Value.ref n46_66, Value.ref n47_67, Value.ref n48_68, Value.ref n49_69, Value.ref n50_70, Value.ref n51_71, Value.ref n52_72])), (n8_38, .inl (z8_73, 24, .inl (fun _ => 0))), (n9_39, .inl (z9_74, 12, .inl (fun _ => 0))), (n10_40, .inl (z10_75, 12, .inl (fun _ => 0))), (n11_41, .inl (z11_76, 12, .inl (fun _ => 0))), (n12_42, .inl (z12_77, 12, .inl (fun _ => 0))), (n24_54, .inl (z24_78, 3840, .inl (fun _ => 0))), (n37_61, .inl (z37_79, 4096, .inl (fun _ => 0))), (n38_62, .inl (z38_80, 4096, .inl (fun _ => 0))), (n39_63, .inl (z39_81, 4096, .inl (fun _ => 0))), (q_82, .inl (cA_83, 1, .inr (.inl (fun _ => 0))))] H := hP
  have hD : va_D A [(q_1, .inr (8, [.ref a1_5, .ref a2_6, .ref a3_7, .ref a4_8, .ref a5_9, .ref a6_10, .ref a7_11, .null, .int 0, .int 0, .int 0, .int 0, .int 100, .int 10, .int 0, .int 0, .int 0, .int 0, .int 0])), (a1_5, .inl (k1_29, 4, .inr (.inr (.inr (.inr (fun _ => none)))))), (a2_6, .inl (k2_30, 12, .inr (.inr (.inr (.inr (fun _ => none)))))), (a3_7, .inr (1, [.int 0, .ref m1_12, .ref m2_13, .ref m3_14, .ref m4_15, .ref m5_16, .ref m6_17])), (a5_9, .inr (6, [.ref b1_18, .ref b2_19, .ref b3_20, .ref b4_21, .ref b5_22, .ref b6_23, .int 0, .int 0])), (b1_18, .inl (k3_31, 12, .inl (fun _ => 0))), (b2_19, .inl (k4_32, 12, .inl (fun _ => 0))), (a6_10, .inr (4, [.ref p1_24, .ref p2_25, .ref p3_26, .ref p4_27, .ref p5_28, .int 0, .int 0, .int 0, .int 0, .int 0])), (q_33, .inr (9, [Value.int 0, Value.int 0, Value.int 0, Value.int 0, Value.int 0, Value.int 100, Value.int 10, Value.ref n7_37, Value.ref n8_38, Value.ref n9_39, Value.ref n10_40, Value.ref n11_41, Value.ref n12_42, Value.ref n13_43, Value.ref n14_44, Value.ref n15_45, Value.ref n16_46, Value.ref n17_47, Value.ref n18_48, Value.ref n19_49, Value.ref n20_50, Value.ref n21_51, Value.ref n22_52, Value.ref n23_53, Value.ref n24_54, Value.int 0, Value.int 0, Value.int 0, Value.ref n28_55, Value.int 0, Value.ref n30_56, Value.ref n31_57, Value.ref n32_58, Value.ref n33_59, Value.int 0, Value.ref n35_60, Value.int 0, Value.ref n37_61, Value.ref n38_62, Value.ref n39_63, Value.ref n40_64, Value.int 0, Value.int 0, Value.int 0, Value.int 0, Value.ref n45_65, Value.ref n46_66, Value.ref n47_67, Value.ref n48_68, Value.ref n49_69, Value.ref n50_70, Value.ref n51_71, Value.ref n52_72])), (n8_38, .inl (z8_73, 24, .inl (fun _ => 0))), (n9_39, .inl (z9_74, 12, .inl (fun _ => 0))), (n10_40, .inl (z10_75, 12, .inl (fun _ => 0))), (n11_41, .inl (z11_76, 12, .inl (fun _ => 0))), (n12_42, .inl (z12_77, 12, .inl (fun _ => 0))), (n24_54, .inl (z24_78, 3840, .inl (fun _ => 0))), (n37_61, .inl (z37_79, 4096, .inl (fun _ => 0))), (n38_62, .inl (z38_80, 4096, .inl (fun _ => 0))), (n39_63, .inl (z39_81, 4096, .inl (fun _ => 0))), (q_82, .inl (cA_83, 1, .inr (.inl (fun _ => 0))))] := hD
  have hK : va_K D vwCl [(k1_29, .object RX0), (k2_30, .object RX3), (k3_31, .int), (k4_32, .int), (z8_73, .boolean), (z9_74, .int), (z10_75, .int), (z11_76, .int), (z12_77, .int), (z24_78, .int), (z37_79, .int), (z38_80, .int), (z39_81, .int), (cA_83, .long)] s := hK
  refine W.widen (k := 66) (n := 35265) (Nat.le_of_ble_eq_true rfl) (Nat.le_of_ble_eq_true rfl) ?_
  refine lv_astore_n (lv' := [(3, .ref q_82), (2, .ref q_33), (1, .ref q_1), (0, .ref b)]) hx hb dL_law_19 rfl hl (by decide) rfl (fun ls hl => ?_)
  refine lv_iconst (v := 0) hx hb dL_law_20 (by decide) ?_
  refine lv_istore (lv' := [(4, .int 0), (3, .ref q_82), (2, .ref q_33), (1, .ref q_1), (0, .ref b)]) hx hb dL_law_21 hl (by decide) rfl (fun ls hl => ?_)
  rcases (show L = 0 ∨ L = 1 ∨ L = 2 ∨ L = 3 ∨ L = 4 ∨ L = 5 ∨ L = 6 by omega) with rfl | rfl | rfl | rfl | rfl | rfl | rfl
  · skip
    refine lv_iload hx hb dL_law_23 (lv_at hl 0 rfl) ?_
    refine lv_aload_n hx hb dL_law_25 rfl (lv_at hl 4 rfl) ?_
    refine va_slen hx hb hX hbl hbA hS dL_law_26 ?_
    refine tI (y := 0) (by decide) ?_
    refine lv_bipush (v := 6) hx hb dL_law_27 (by decide) ?_
    refine lv_isub hx hb dL_law_29 ?_
    refine tI (y := (-6)) (by decide) ?_
    refine lv_icmp_gt (tgt := 1264) hx hb dL_law_30 (by decide) (fun c_84 => ?_) (fun c_84 => absurd (by decide) c_84)
    refine lv_iconst (v := 1) hx hb dL_law_1264 (by decide) ?_
    refine va_forget (fun q hq => by have h9 := hS.2.2 q hq; rw [hAd] at h9; exact h9) ?_
    refine W.widen (k := 600002) (n := 7302232) (Nat.le_of_ble_eq_true rfl) (Nat.le_of_ble_eq_true rfl) ?_
    exact lw_ret hx hb hr hlocks dL_law_1265
  · skip
    refine lv_iload hx hb dL_law_23 (lv_at hl 0 rfl) ?_
    refine lv_aload_n hx hb dL_law_25 rfl (lv_at hl 4 rfl) ?_
    refine va_slen hx hb hX hbl hbA hS dL_law_26 ?_
    refine tI (y := 1) (by decide) ?_
    refine lv_bipush (v := 6) hx hb dL_law_27 (by decide) ?_
    refine lv_isub hx hb dL_law_29 ?_
    refine tI (y := (-5)) (by decide) ?_
    refine lv_icmp_gt (tgt := 1264) hx hb dL_law_30 (by decide) (fun c_85 => ?_) (fun c_85 => absurd (by decide) c_85)
    refine lv_iconst (v := 1) hx hb dL_law_1264 (by decide) ?_
    refine va_forget (fun q hq => by have h9 := hS.2.2 q hq; rw [hAd] at h9; exact h9) ?_
    refine W.widen (k := 600002) (n := 7302232) (Nat.le_of_ble_eq_true rfl) (Nat.le_of_ble_eq_true rfl) ?_
    exact lw_ret hx hb hr hlocks dL_law_1265
  · skip
    refine lv_iload hx hb dL_law_23 (lv_at hl 0 rfl) ?_
    refine lv_aload_n hx hb dL_law_25 rfl (lv_at hl 4 rfl) ?_
    refine va_slen hx hb hX hbl hbA hS dL_law_26 ?_
    refine tI (y := 2) (by decide) ?_
    refine lv_bipush (v := 6) hx hb dL_law_27 (by decide) ?_
    refine lv_isub hx hb dL_law_29 ?_
    refine tI (y := (-4)) (by decide) ?_
    refine lv_icmp_gt (tgt := 1264) hx hb dL_law_30 (by decide) (fun c_86 => ?_) (fun c_86 => absurd (by decide) c_86)
    refine lv_iconst (v := 1) hx hb dL_law_1264 (by decide) ?_
    refine va_forget (fun q hq => by have h9 := hS.2.2 q hq; rw [hAd] at h9; exact h9) ?_
    refine W.widen (k := 600002) (n := 7302232) (Nat.le_of_ble_eq_true rfl) (Nat.le_of_ble_eq_true rfl) ?_
    exact lw_ret hx hb hr hlocks dL_law_1265
  · skip
    refine lv_iload hx hb dL_law_23 (lv_at hl 0 rfl) ?_
    refine lv_aload_n hx hb dL_law_25 rfl (lv_at hl 4 rfl) ?_
    refine va_slen hx hb hX hbl hbA hS dL_law_26 ?_
    refine tI (y := 3) (by decide) ?_
    refine lv_bipush (v := 6) hx hb dL_law_27 (by decide) ?_
    refine lv_isub hx hb dL_law_29 ?_
    refine tI (y := (-3)) (by decide) ?_
    refine lv_icmp_gt (tgt := 1264) hx hb dL_law_30 (by decide) (fun c_87 => ?_) (fun c_87 => absurd (by decide) c_87)
    refine lv_iconst (v := 1) hx hb dL_law_1264 (by decide) ?_
    refine va_forget (fun q hq => by have h9 := hS.2.2 q hq; rw [hAd] at h9; exact h9) ?_
    refine W.widen (k := 600002) (n := 7302232) (Nat.le_of_ble_eq_true rfl) (Nat.le_of_ble_eq_true rfl) ?_
    exact lw_ret hx hb hr hlocks dL_law_1265
  · skip
    refine lv_iload hx hb dL_law_23 (lv_at hl 0 rfl) ?_
    refine lv_aload_n hx hb dL_law_25 rfl (lv_at hl 4 rfl) ?_
    refine va_slen hx hb hX hbl hbA hS dL_law_26 ?_
    refine tI (y := 4) (by decide) ?_
    refine lv_bipush (v := 6) hx hb dL_law_27 (by decide) ?_
    refine lv_isub hx hb dL_law_29 ?_
    refine tI (y := (-2)) (by decide) ?_
    refine lv_icmp_gt (tgt := 1264) hx hb dL_law_30 (by decide) (fun c_88 => ?_) (fun c_88 => absurd (by decide) c_88)
    refine lv_iconst (v := 1) hx hb dL_law_1264 (by decide) ?_
    refine va_forget (fun q hq => by have h9 := hS.2.2 q hq; rw [hAd] at h9; exact h9) ?_
    refine W.widen (k := 600002) (n := 7302232) (Nat.le_of_ble_eq_true rfl) (Nat.le_of_ble_eq_true rfl) ?_
    exact lw_ret hx hb hr hlocks dL_law_1265
  · skip
    refine lv_iload hx hb dL_law_23 (lv_at hl 0 rfl) ?_
    refine lv_aload_n hx hb dL_law_25 rfl (lv_at hl 4 rfl) ?_
    refine va_slen hx hb hX hbl hbA hS dL_law_26 ?_
    refine tI (y := 5) (by decide) ?_
    refine lv_bipush (v := 6) hx hb dL_law_27 (by decide) ?_
    refine lv_isub hx hb dL_law_29 ?_
    refine tI (y := (-1)) (by decide) ?_
    refine lv_icmp_gt (tgt := 1264) hx hb dL_law_30 (by decide) (fun c_89 => ?_) (fun c_89 => absurd (by decide) c_89)
    refine lv_iconst (v := 1) hx hb dL_law_1264 (by decide) ?_
    refine va_forget (fun q hq => by have h9 := hS.2.2 q hq; rw [hAd] at h9; exact h9) ?_
    refine W.widen (k := 600002) (n := 7302232) (Nat.le_of_ble_eq_true rfl) (Nat.le_of_ble_eq_true rfl) ?_
    exact lw_ret hx hb hr hlocks dL_law_1265
  · skip
    refine lv_iload hx hb dL_law_23 (lv_at hl 0 rfl) ?_
    refine lv_aload_n hx hb dL_law_25 rfl (lv_at hl 4 rfl) ?_
    refine va_slen hx hb hX hbl hbA hS dL_law_26 ?_
    refine tI (y := 6) (by decide) ?_
    refine lv_bipush (v := 6) hx hb dL_law_27 (by decide) ?_
    refine lv_isub hx hb dL_law_29 ?_
    refine tI (y := 0) (by decide) ?_
    refine lv_icmp_gt (tgt := 1264) hx hb dL_law_30 (by decide) (fun c_90 => absurd c_90 (by decide)) (fun c_90 => ?_)
    refine lv_aload_n hx hb dL_law_33 rfl (lv_at hl 4 rfl) ?_
    refine lv_iload hx hb dL_law_34 (lv_at hl 0 rfl) ?_
    refine va_sld hx hb hX hbl hbA hS (vp_in_nI (n := 0) (N := 6) (by omega) (by omega)) dL_law_36 ?_
    refine tI (y := xs 0) (congrArg xs (by decide)) ?_
    refine lv_bipush (v := 31) hx hb dL_law_37 (by decide) ?_
    refine lv_iand hx hb dL_law_39 ?_
    obtain ⟨j, hj, ej⟩ := pk_andE (xs 0) (m := 31) 5 (by decide)
    have hj : j < 32 := hj
    refine tI (y := nI j) ej ?_
    rcases (show j = 0 ∨ j = 1 ∨ j = 2 ∨ j = 3 ∨ j = 4 ∨ j = 5 ∨ j = 6 ∨ j = 7 ∨ j = 8 ∨ j = 9 ∨ j = 10 ∨ j = 11 ∨ j = 12 ∨ j = 13 ∨ j = 14 ∨ j = 15 ∨ j = 16 ∨ j = 17 ∨ j = 18 ∨ j = 19 ∨ j = 20 ∨ j = 21 ∨ j = 22 ∨ j = 23 ∨ j = 24 ∨ j = 25 ∨ j = 26 ∨ j = 27 ∨ j = 28 ∨ j = 29 ∨ j = 30 ∨ j = 31 by omega) with rfl | rfl | rfl | rfl | rfl | rfl | rfl | rfl | rfl | rfl | rfl | rfl | rfl | rfl | rfl | rfl | rfl | rfl | rfl | rfl | rfl | rfl | rfl | rfl | rfl | rfl | rfl | rfl | rfl | rfl | rfl | rfl
    · refine lv_tableIn (tgt := 156) hx hb dL_law_40 (by decide) (by decide) rfl (by decide) ?_
      exact law_0 hlt C0 A hAd hA hbA D hN hT q_1 a1_5 a2_6 a3_7 a4_8 a5_9 a6_10 a7_11 m1_12 m2_13 m3_14 m4_15 m5_16 m6_17 b1_18 b2_19 b3_20 b4_21 b5_22 b6_23 p1_24 p2_25 p3_26 p4_27 p5_28 k1_29 k2_30 k3_31 k4_32 q_33 n7_37 n8_38 n9_39 n10_40 n11_41 n12_42 n13_43 n14_44 n15_45 n16_46 n17_47 n18_48 n19_49 n20_50 n21_51 n22_52 n23_53 n24_54 n28_55 n30_56 n31_57 n32_58 n33_59 n35_60 n37_61 n38_62 n39_63 n40_64 n45_65 n46_66 n47_67 n48_68 n49_69 n50_70 n51_71 n52_72 z8_73 z9_74 z10_75 z11_76 z12_77 z24_78 z37_79 z38_80 z39_81 q_82 cA_83 _ _ _ hP hD hK hS (lv_sub hl [0, 1, 2, 3, 4] rfl)
    · refine lv_tableIn (tgt := 169) hx hb dL_law_40 (by decide) (by decide) rfl (by decide) ?_
      exact law_1 hlt C0 A hAd hA hbA D hN hT q_1 a1_5 a2_6 a3_7 a4_8 a5_9 a6_10 a7_11 m1_12 m2_13 m3_14 m4_15 m5_16 m6_17 b1_18 b2_19 b3_20 b4_21 b5_22 b6_23 p1_24 p2_25 p3_26 p4_27 p5_28 k1_29 k2_30 k3_31 k4_32 q_33 n7_37 n8_38 n9_39 n10_40 n11_41 n12_42 n13_43 n14_44 n15_45 n16_46 n17_47 n18_48 n19_49 n20_50 n21_51 n22_52 n23_53 n24_54 n28_55 n30_56 n31_57 n32_58 n33_59 n35_60 n37_61 n38_62 n39_63 n40_64 n45_65 n46_66 n47_67 n48_68 n49_69 n50_70 n51_71 n52_72 z8_73 z9_74 z10_75 z11_76 z12_77 z24_78 z37_79 z38_80 z39_81 q_82 cA_83 _ _ _ hP hD hK hS (lv_sub hl [0, 1, 2, 3, 4] rfl)
    · refine lv_tableIn (tgt := 218) hx hb dL_law_40 (by decide) (by decide) rfl (by decide) ?_
      exact law_2 hlt C0 A hAd hA hbA D hN hT q_1 a1_5 a2_6 a3_7 a4_8 a5_9 a6_10 a7_11 m1_12 m2_13 m3_14 m4_15 m5_16 m6_17 b1_18 b2_19 b3_20 b4_21 b5_22 b6_23 p1_24 p2_25 p3_26 p4_27 p5_28 k1_29 k2_30 k3_31 k4_32 q_33 n7_37 n8_38 n9_39 n10_40 n11_41 n12_42 n13_43 n14_44 n15_45 n16_46 n17_47 n18_48 n19_49 n20_50 n21_51 n22_52 n23_53 n24_54 n28_55 n30_56 n31_57 n32_58 n33_59 n35_60 n37_61 n38_62 n39_63 n40_64 n45_65 n46_66 n47_67 n48_68 n49_69 n50_70 n51_71 n52_72 z8_73 z9_74 z10_75 z11_76 z12_77 z24_78 z37_79 z38_80 z39_81 q_82 cA_83 _ _ _ hP hD hK hS (lv_sub hl [0, 1, 2, 3, 4] rfl)
    · refine lv_tableIn (tgt := 323) hx hb dL_law_40 (by decide) (by decide) rfl (by decide) ?_
      exact law_3 hlt C0 A hAd hA hbA D hN hT q_1 a1_5 a2_6 a3_7 a4_8 a5_9 a6_10 a7_11 m1_12 m2_13 m3_14 m4_15 m5_16 m6_17 b1_18 b2_19 b3_20 b4_21 b5_22 b6_23 p1_24 p2_25 p3_26 p4_27 p5_28 k1_29 k2_30 k3_31 k4_32 q_33 n7_37 n8_38 n9_39 n10_40 n11_41 n12_42 n13_43 n14_44 n15_45 n16_46 n17_47 n18_48 n19_49 n20_50 n21_51 n22_52 n23_53 n24_54 n28_55 n30_56 n31_57 n32_58 n33_59 n35_60 n37_61 n38_62 n39_63 n40_64 n45_65 n46_66 n47_67 n48_68 n49_69 n50_70 n51_71 n52_72 z8_73 z9_74 z10_75 z11_76 z12_77 z24_78 z37_79 z38_80 z39_81 q_82 cA_83 _ _ _ hP hD hK hS (lv_sub hl [0, 1, 2, 3, 4] rfl)
    · refine lv_tableIn (tgt := 388) hx hb dL_law_40 (by decide) (by decide) rfl (by decide) ?_
      exact law_4 hlt C0 A hAd hA hbA D hN hT q_1 a1_5 a2_6 a3_7 a4_8 a5_9 a6_10 a7_11 m1_12 m2_13 m3_14 m4_15 m5_16 m6_17 b1_18 b2_19 b3_20 b4_21 b5_22 b6_23 p1_24 p2_25 p3_26 p4_27 p5_28 k1_29 k2_30 k3_31 k4_32 q_33 n7_37 n8_38 n9_39 n10_40 n11_41 n12_42 n13_43 n14_44 n15_45 n16_46 n17_47 n18_48 n19_49 n20_50 n21_51 n22_52 n23_53 n24_54 n28_55 n30_56 n31_57 n32_58 n33_59 n35_60 n37_61 n38_62 n39_63 n40_64 n45_65 n46_66 n47_67 n48_68 n49_69 n50_70 n51_71 n52_72 z8_73 z9_74 z10_75 z11_76 z12_77 z24_78 z37_79 z38_80 z39_81 q_82 cA_83 _ _ _ hP hD hK hS (lv_sub hl [0, 1, 2, 3, 4] rfl)
    · refine lv_tableIn (tgt := 425) hx hb dL_law_40 (by decide) (by decide) rfl (by decide) ?_
      exact law_5 hlt C0 A hAd hA hbA D hN hT q_1 a1_5 a2_6 a3_7 a4_8 a5_9 a6_10 a7_11 m1_12 m2_13 m3_14 m4_15 m5_16 m6_17 b1_18 b2_19 b3_20 b4_21 b5_22 b6_23 p1_24 p2_25 p3_26 p4_27 p5_28 k1_29 k2_30 k3_31 k4_32 q_33 n7_37 n8_38 n9_39 n10_40 n11_41 n12_42 n13_43 n14_44 n15_45 n16_46 n17_47 n18_48 n19_49 n20_50 n21_51 n22_52 n23_53 n24_54 n28_55 n30_56 n31_57 n32_58 n33_59 n35_60 n37_61 n38_62 n39_63 n40_64 n45_65 n46_66 n47_67 n48_68 n49_69 n50_70 n51_71 n52_72 z8_73 z9_74 z10_75 z11_76 z12_77 z24_78 z37_79 z38_80 z39_81 q_82 cA_83 _ _ _ hP hD hK hS (lv_sub hl [0, 1, 2, 3, 4] rfl)
    · refine lv_tableIn (tgt := 450) hx hb dL_law_40 (by decide) (by decide) rfl (by decide) ?_
      exact law_6 hlt C0 A hAd hA hbA D hN hT q_1 a1_5 a2_6 a3_7 a4_8 a5_9 a6_10 a7_11 m1_12 m2_13 m3_14 m4_15 m5_16 m6_17 b1_18 b2_19 b3_20 b4_21 b5_22 b6_23 p1_24 p2_25 p3_26 p4_27 p5_28 k1_29 k2_30 k3_31 k4_32 q_33 n7_37 n8_38 n9_39 n10_40 n11_41 n12_42 n13_43 n14_44 n15_45 n16_46 n17_47 n18_48 n19_49 n20_50 n21_51 n22_52 n23_53 n24_54 n28_55 n30_56 n31_57 n32_58 n33_59 n35_60 n37_61 n38_62 n39_63 n40_64 n45_65 n46_66 n47_67 n48_68 n49_69 n50_70 n51_71 n52_72 z8_73 z9_74 z10_75 z11_76 z12_77 z24_78 z37_79 z38_80 z39_81 q_82 cA_83 _ _ _ hP hD hK hS (lv_sub hl [0, 1, 2, 3, 4] rfl)
    · refine lv_tableIn (tgt := 523) hx hb dL_law_40 (by decide) (by decide) rfl (by decide) ?_
      exact law_7 hlt C0 A hAd hA hbA D hN hT q_1 a1_5 a2_6 a3_7 a4_8 a5_9 a6_10 a7_11 m1_12 m2_13 m3_14 m4_15 m5_16 m6_17 b1_18 b2_19 b3_20 b4_21 b5_22 b6_23 p1_24 p2_25 p3_26 p4_27 p5_28 k1_29 k2_30 k3_31 k4_32 q_33 n7_37 n8_38 n9_39 n10_40 n11_41 n12_42 n13_43 n14_44 n15_45 n16_46 n17_47 n18_48 n19_49 n20_50 n21_51 n22_52 n23_53 n24_54 n28_55 n30_56 n31_57 n32_58 n33_59 n35_60 n37_61 n38_62 n39_63 n40_64 n45_65 n46_66 n47_67 n48_68 n49_69 n50_70 n51_71 n52_72 z8_73 z9_74 z10_75 z11_76 z12_77 z24_78 z37_79 z38_80 z39_81 q_82 cA_83 _ _ _ hP hD hK hS (lv_sub hl [0, 1, 2, 3, 4] rfl)
    · refine lv_tableIn (tgt := 548) hx hb dL_law_40 (by decide) (by decide) rfl (by decide) ?_
      exact law_8 hlt C0 A hAd hA hbA D hN hT q_1 a1_5 a2_6 a3_7 a4_8 a5_9 a6_10 a7_11 m1_12 m2_13 m3_14 m4_15 m5_16 m6_17 b1_18 b2_19 b3_20 b4_21 b5_22 b6_23 p1_24 p2_25 p3_26 p4_27 p5_28 k1_29 k2_30 k3_31 k4_32 q_33 n7_37 n8_38 n9_39 n10_40 n11_41 n12_42 n13_43 n14_44 n15_45 n16_46 n17_47 n18_48 n19_49 n20_50 n21_51 n22_52 n23_53 n24_54 n28_55 n30_56 n31_57 n32_58 n33_59 n35_60 n37_61 n38_62 n39_63 n40_64 n45_65 n46_66 n47_67 n48_68 n49_69 n50_70 n51_71 n52_72 z8_73 z9_74 z10_75 z11_76 z12_77 z24_78 z37_79 z38_80 z39_81 q_82 cA_83 _ _ _ hP hD hK hS (lv_sub hl [0, 1, 2, 3, 4] rfl)
    · refine lv_tableIn (tgt := 585) hx hb dL_law_40 (by decide) (by decide) rfl (by decide) ?_
      exact law_9 hlt C0 A hAd hA hbA D hN hT q_1 a1_5 a2_6 a3_7 a4_8 a5_9 a6_10 a7_11 m1_12 m2_13 m3_14 m4_15 m5_16 m6_17 b1_18 b2_19 b3_20 b4_21 b5_22 b6_23 p1_24 p2_25 p3_26 p4_27 p5_28 k1_29 k2_30 k3_31 k4_32 q_33 n7_37 n8_38 n9_39 n10_40 n11_41 n12_42 n13_43 n14_44 n15_45 n16_46 n17_47 n18_48 n19_49 n20_50 n21_51 n22_52 n23_53 n24_54 n28_55 n30_56 n31_57 n32_58 n33_59 n35_60 n37_61 n38_62 n39_63 n40_64 n45_65 n46_66 n47_67 n48_68 n49_69 n50_70 n51_71 n52_72 z8_73 z9_74 z10_75 z11_76 z12_77 z24_78 z37_79 z38_80 z39_81 q_82 cA_83 _ _ _ hP hD hK hS (lv_sub hl [0, 1, 2, 3, 4] rfl)
    · refine lv_tableIn (tgt := 677) hx hb dL_law_40 (by decide) (by decide) rfl (by decide) ?_
      exact law_10 hlt C0 A hAd hA hbA D hN hT q_1 a1_5 a2_6 a3_7 a4_8 a5_9 a6_10 a7_11 m1_12 m2_13 m3_14 m4_15 m5_16 m6_17 b1_18 b2_19 b3_20 b4_21 b5_22 b6_23 p1_24 p2_25 p3_26 p4_27 p5_28 k1_29 k2_30 k3_31 k4_32 q_33 n7_37 n8_38 n9_39 n10_40 n11_41 n12_42 n13_43 n14_44 n15_45 n16_46 n17_47 n18_48 n19_49 n20_50 n21_51 n22_52 n23_53 n24_54 n28_55 n30_56 n31_57 n32_58 n33_59 n35_60 n37_61 n38_62 n39_63 n40_64 n45_65 n46_66 n47_67 n48_68 n49_69 n50_70 n51_71 n52_72 z8_73 z9_74 z10_75 z11_76 z12_77 z24_78 z37_79 z38_80 z39_81 q_82 cA_83 _ _ _ hP hD hK hS (lv_sub hl [0, 1, 2, 3, 4] rfl)
    · refine lv_tableIn (tgt := 745) hx hb dL_law_40 (by decide) (by decide) rfl (by decide) ?_
      exact law_11 hlt C0 A hAd hA hbA D hN hT q_1 a1_5 a2_6 a3_7 a4_8 a5_9 a6_10 a7_11 m1_12 m2_13 m3_14 m4_15 m5_16 m6_17 b1_18 b2_19 b3_20 b4_21 b5_22 b6_23 p1_24 p2_25 p3_26 p4_27 p5_28 k1_29 k2_30 k3_31 k4_32 q_33 n7_37 n8_38 n9_39 n10_40 n11_41 n12_42 n13_43 n14_44 n15_45 n16_46 n17_47 n18_48 n19_49 n20_50 n21_51 n22_52 n23_53 n24_54 n28_55 n30_56 n31_57 n32_58 n33_59 n35_60 n37_61 n38_62 n39_63 n40_64 n45_65 n46_66 n47_67 n48_68 n49_69 n50_70 n51_71 n52_72 z8_73 z9_74 z10_75 z11_76 z12_77 z24_78 z37_79 z38_80 z39_81 q_82 cA_83 _ _ _ hP hD hK hS (lv_sub hl [0, 1, 2, 3, 4] rfl)
    · refine lv_tableIn (tgt := 849) hx hb dL_law_40 (by decide) (by decide) rfl (by decide) ?_
      exact law_12 hlt C0 A hAd hA hbA D hN hT q_1 a1_5 a2_6 a3_7 a4_8 a5_9 a6_10 a7_11 m1_12 m2_13 m3_14 m4_15 m5_16 m6_17 b1_18 b2_19 b3_20 b4_21 b5_22 b6_23 p1_24 p2_25 p3_26 p4_27 p5_28 k1_29 k2_30 k3_31 k4_32 q_33 n7_37 n8_38 n9_39 n10_40 n11_41 n12_42 n13_43 n14_44 n15_45 n16_46 n17_47 n18_48 n19_49 n20_50 n21_51 n22_52 n23_53 n24_54 n28_55 n30_56 n31_57 n32_58 n33_59 n35_60 n37_61 n38_62 n39_63 n40_64 n45_65 n46_66 n47_67 n48_68 n49_69 n50_70 n51_71 n52_72 z8_73 z9_74 z10_75 z11_76 z12_77 z24_78 z37_79 z38_80 z39_81 q_82 cA_83 _ _ _ hP hD hK hS (lv_sub hl [0, 1, 2, 3, 4] rfl)
    · refine lv_tableIn (tgt := 886) hx hb dL_law_40 (by decide) (by decide) rfl (by decide) ?_
      exact law_13 hlt C0 A hAd hA hbA D hN hT q_1 a1_5 a2_6 a3_7 a4_8 a5_9 a6_10 a7_11 m1_12 m2_13 m3_14 m4_15 m5_16 m6_17 b1_18 b2_19 b3_20 b4_21 b5_22 b6_23 p1_24 p2_25 p3_26 p4_27 p5_28 k1_29 k2_30 k3_31 k4_32 q_33 n7_37 n8_38 n9_39 n10_40 n11_41 n12_42 n13_43 n14_44 n15_45 n16_46 n17_47 n18_48 n19_49 n20_50 n21_51 n22_52 n23_53 n24_54 n28_55 n30_56 n31_57 n32_58 n33_59 n35_60 n37_61 n38_62 n39_63 n40_64 n45_65 n46_66 n47_67 n48_68 n49_69 n50_70 n51_71 n52_72 z8_73 z9_74 z10_75 z11_76 z12_77 z24_78 z37_79 z38_80 z39_81 q_82 cA_83 _ _ _ hP hD hK hS (lv_sub hl [0, 1, 2, 3, 4] rfl)
    · refine lv_tableIn (tgt := 911) hx hb dL_law_40 (by decide) (by decide) rfl (by decide) ?_
      exact law_14 hlt C0 A hAd hA hbA D hN hT q_1 a1_5 a2_6 a3_7 a4_8 a5_9 a6_10 a7_11 m1_12 m2_13 m3_14 m4_15 m5_16 m6_17 b1_18 b2_19 b3_20 b4_21 b5_22 b6_23 p1_24 p2_25 p3_26 p4_27 p5_28 k1_29 k2_30 k3_31 k4_32 q_33 n7_37 n8_38 n9_39 n10_40 n11_41 n12_42 n13_43 n14_44 n15_45 n16_46 n17_47 n18_48 n19_49 n20_50 n21_51 n22_52 n23_53 n24_54 n28_55 n30_56 n31_57 n32_58 n33_59 n35_60 n37_61 n38_62 n39_63 n40_64 n45_65 n46_66 n47_67 n48_68 n49_69 n50_70 n51_71 n52_72 z8_73 z9_74 z10_75 z11_76 z12_77 z24_78 z37_79 z38_80 z39_81 q_82 cA_83 _ _ _ hP hD hK hS (lv_sub hl [0, 1, 2, 3, 4] rfl)
    · refine lv_tableIn (tgt := 936) hx hb dL_law_40 (by decide) (by decide) rfl (by decide) ?_
      exact law_15 hlt C0 A hAd hA hbA D hN hT q_1 a1_5 a2_6 a3_7 a4_8 a5_9 a6_10 a7_11 m1_12 m2_13 m3_14 m4_15 m5_16 m6_17 b1_18 b2_19 b3_20 b4_21 b5_22 b6_23 p1_24 p2_25 p3_26 p4_27 p5_28 k1_29 k2_30 k3_31 k4_32 q_33 n7_37 n8_38 n9_39 n10_40 n11_41 n12_42 n13_43 n14_44 n15_45 n16_46 n17_47 n18_48 n19_49 n20_50 n21_51 n22_52 n23_53 n24_54 n28_55 n30_56 n31_57 n32_58 n33_59 n35_60 n37_61 n38_62 n39_63 n40_64 n45_65 n46_66 n47_67 n48_68 n49_69 n50_70 n51_71 n52_72 z8_73 z9_74 z10_75 z11_76 z12_77 z24_78 z37_79 z38_80 z39_81 q_82 cA_83 _ _ _ hP hD hK hS (lv_sub hl [0, 1, 2, 3, 4] rfl)
    · refine lv_tableIn (tgt := 949) hx hb dL_law_40 (by decide) (by decide) rfl (by decide) ?_
      exact law_16 hlt C0 A hAd hA hbA D hN hT q_1 a1_5 a2_6 a3_7 a4_8 a5_9 a6_10 a7_11 m1_12 m2_13 m3_14 m4_15 m5_16 m6_17 b1_18 b2_19 b3_20 b4_21 b5_22 b6_23 p1_24 p2_25 p3_26 p4_27 p5_28 k1_29 k2_30 k3_31 k4_32 q_33 n7_37 n8_38 n9_39 n10_40 n11_41 n12_42 n13_43 n14_44 n15_45 n16_46 n17_47 n18_48 n19_49 n20_50 n21_51 n22_52 n23_53 n24_54 n28_55 n30_56 n31_57 n32_58 n33_59 n35_60 n37_61 n38_62 n39_63 n40_64 n45_65 n46_66 n47_67 n48_68 n49_69 n50_70 n51_71 n52_72 z8_73 z9_74 z10_75 z11_76 z12_77 z24_78 z37_79 z38_80 z39_81 q_82 cA_83 _ _ _ hP hD hK hS (lv_sub hl [0, 1, 2, 3, 4] rfl)
    · refine lv_tableIn (tgt := 986) hx hb dL_law_40 (by decide) (by decide) rfl (by decide) ?_
      exact law_17 hlt C0 A hAd hA hbA D hN hT q_1 a1_5 a2_6 a3_7 a4_8 a5_9 a6_10 a7_11 m1_12 m2_13 m3_14 m4_15 m5_16 m6_17 b1_18 b2_19 b3_20 b4_21 b5_22 b6_23 p1_24 p2_25 p3_26 p4_27 p5_28 k1_29 k2_30 k3_31 k4_32 q_33 n7_37 n8_38 n9_39 n10_40 n11_41 n12_42 n13_43 n14_44 n15_45 n16_46 n17_47 n18_48 n19_49 n20_50 n21_51 n22_52 n23_53 n24_54 n28_55 n30_56 n31_57 n32_58 n33_59 n35_60 n37_61 n38_62 n39_63 n40_64 n45_65 n46_66 n47_67 n48_68 n49_69 n50_70 n51_71 n52_72 z8_73 z9_74 z10_75 z11_76 z12_77 z24_78 z37_79 z38_80 z39_81 q_82 cA_83 _ _ _ hP hD hK hS (lv_sub hl [0, 1, 2, 3, 4] rfl)
    · refine lv_tableIn (tgt := 999) hx hb dL_law_40 (by decide) (by decide) rfl (by decide) ?_
      exact law_18 hlt C0 A hAd hA hbA D hN hT q_1 a1_5 a2_6 a3_7 a4_8 a5_9 a6_10 a7_11 m1_12 m2_13 m3_14 m4_15 m5_16 m6_17 b1_18 b2_19 b3_20 b4_21 b5_22 b6_23 p1_24 p2_25 p3_26 p4_27 p5_28 k1_29 k2_30 k3_31 k4_32 q_33 n7_37 n8_38 n9_39 n10_40 n11_41 n12_42 n13_43 n14_44 n15_45 n16_46 n17_47 n18_48 n19_49 n20_50 n21_51 n22_52 n23_53 n24_54 n28_55 n30_56 n31_57 n32_58 n33_59 n35_60 n37_61 n38_62 n39_63 n40_64 n45_65 n46_66 n47_67 n48_68 n49_69 n50_70 n51_71 n52_72 z8_73 z9_74 z10_75 z11_76 z12_77 z24_78 z37_79 z38_80 z39_81 q_82 cA_83 _ _ _ hP hD hK hS (lv_sub hl [0, 1, 2, 3, 4] rfl)
    · refine lv_tableIn (tgt := 1024) hx hb dL_law_40 (by decide) (by decide) rfl (by decide) ?_
      exact law_19 hlt C0 A hAd hA hbA D hN hT q_1 a1_5 a2_6 a3_7 a4_8 a5_9 a6_10 a7_11 m1_12 m2_13 m3_14 m4_15 m5_16 m6_17 b1_18 b2_19 b3_20 b4_21 b5_22 b6_23 p1_24 p2_25 p3_26 p4_27 p5_28 k1_29 k2_30 k3_31 k4_32 q_33 n7_37 n8_38 n9_39 n10_40 n11_41 n12_42 n13_43 n14_44 n15_45 n16_46 n17_47 n18_48 n19_49 n20_50 n21_51 n22_52 n23_53 n24_54 n28_55 n30_56 n31_57 n32_58 n33_59 n35_60 n37_61 n38_62 n39_63 n40_64 n45_65 n46_66 n47_67 n48_68 n49_69 n50_70 n51_71 n52_72 z8_73 z9_74 z10_75 z11_76 z12_77 z24_78 z37_79 z38_80 z39_81 q_82 cA_83 _ _ _ hP hD hK hS (lv_sub hl [0, 1, 2, 3, 4] rfl)
    · refine lv_tableIn (tgt := 1049) hx hb dL_law_40 (by decide) (by decide) rfl (by decide) ?_
      exact law_20 hlt C0 A hAd hA hbA D hN hT q_1 a1_5 a2_6 a3_7 a4_8 a5_9 a6_10 a7_11 m1_12 m2_13 m3_14 m4_15 m5_16 m6_17 b1_18 b2_19 b3_20 b4_21 b5_22 b6_23 p1_24 p2_25 p3_26 p4_27 p5_28 k1_29 k2_30 k3_31 k4_32 q_33 n7_37 n8_38 n9_39 n10_40 n11_41 n12_42 n13_43 n14_44 n15_45 n16_46 n17_47 n18_48 n19_49 n20_50 n21_51 n22_52 n23_53 n24_54 n28_55 n30_56 n31_57 n32_58 n33_59 n35_60 n37_61 n38_62 n39_63 n40_64 n45_65 n46_66 n47_67 n48_68 n49_69 n50_70 n51_71 n52_72 z8_73 z9_74 z10_75 z11_76 z12_77 z24_78 z37_79 z38_80 z39_81 q_82 cA_83 _ _ _ hP hD hK hS (lv_sub hl [0, 1, 2, 3, 4] rfl)
    · refine lv_tableIn (tgt := 1110) hx hb dL_law_40 (by decide) (by decide) rfl (by decide) ?_
      exact law_21 hlt C0 A hAd hA hbA D hN hT q_1 a1_5 a2_6 a3_7 a4_8 a5_9 a6_10 a7_11 m1_12 m2_13 m3_14 m4_15 m5_16 m6_17 b1_18 b2_19 b3_20 b4_21 b5_22 b6_23 p1_24 p2_25 p3_26 p4_27 p5_28 k1_29 k2_30 k3_31 k4_32 q_33 n7_37 n8_38 n9_39 n10_40 n11_41 n12_42 n13_43 n14_44 n15_45 n16_46 n17_47 n18_48 n19_49 n20_50 n21_51 n22_52 n23_53 n24_54 n28_55 n30_56 n31_57 n32_58 n33_59 n35_60 n37_61 n38_62 n39_63 n40_64 n45_65 n46_66 n47_67 n48_68 n49_69 n50_70 n51_71 n52_72 z8_73 z9_74 z10_75 z11_76 z12_77 z24_78 z37_79 z38_80 z39_81 q_82 cA_83 _ _ _ hP hD hK hS (lv_sub hl [0, 1, 2, 3, 4] rfl)
    · refine lv_tableIn (tgt := 1135) hx hb dL_law_40 (by decide) (by decide) rfl (by decide) ?_
      exact law_22 hlt C0 A hAd hA hbA D hN hT q_1 a1_5 a2_6 a3_7 a4_8 a5_9 a6_10 a7_11 m1_12 m2_13 m3_14 m4_15 m5_16 m6_17 b1_18 b2_19 b3_20 b4_21 b5_22 b6_23 p1_24 p2_25 p3_26 p4_27 p5_28 k1_29 k2_30 k3_31 k4_32 q_33 n7_37 n8_38 n9_39 n10_40 n11_41 n12_42 n13_43 n14_44 n15_45 n16_46 n17_47 n18_48 n19_49 n20_50 n21_51 n22_52 n23_53 n24_54 n28_55 n30_56 n31_57 n32_58 n33_59 n35_60 n37_61 n38_62 n39_63 n40_64 n45_65 n46_66 n47_67 n48_68 n49_69 n50_70 n51_71 n52_72 z8_73 z9_74 z10_75 z11_76 z12_77 z24_78 z37_79 z38_80 z39_81 q_82 cA_83 _ _ _ hP hD hK hS (lv_sub hl [0, 1, 2, 3, 4] rfl)
    · refine lv_tableIn (tgt := 1196) hx hb dL_law_40 (by decide) (by decide) rfl (by decide) ?_
      exact law_23 hlt C0 A hAd hA hbA D hN hT q_1 a1_5 a2_6 a3_7 a4_8 a5_9 a6_10 a7_11 m1_12 m2_13 m3_14 m4_15 m5_16 m6_17 b1_18 b2_19 b3_20 b4_21 b5_22 b6_23 p1_24 p2_25 p3_26 p4_27 p5_28 k1_29 k2_30 k3_31 k4_32 q_33 n7_37 n8_38 n9_39 n10_40 n11_41 n12_42 n13_43 n14_44 n15_45 n16_46 n17_47 n18_48 n19_49 n20_50 n21_51 n22_52 n23_53 n24_54 n28_55 n30_56 n31_57 n32_58 n33_59 n35_60 n37_61 n38_62 n39_63 n40_64 n45_65 n46_66 n47_67 n48_68 n49_69 n50_70 n51_71 n52_72 z8_73 z9_74 z10_75 z11_76 z12_77 z24_78 z37_79 z38_80 z39_81 q_82 cA_83 _ _ _ hP hD hK hS (lv_sub hl [0, 1, 2, 3, 4] rfl)
    · refine lv_tableIn (tgt := 1233) hx hb dL_law_40 (by decide) (by decide) rfl (by decide) ?_
      exact law_24 hlt C0 A hAd hA hbA D hN hT q_1 a1_5 a2_6 a3_7 a4_8 a5_9 a6_10 a7_11 m1_12 m2_13 m3_14 m4_15 m5_16 m6_17 b1_18 b2_19 b3_20 b4_21 b5_22 b6_23 p1_24 p2_25 p3_26 p4_27 p5_28 k1_29 k2_30 k3_31 k4_32 q_33 n7_37 n8_38 n9_39 n10_40 n11_41 n12_42 n13_43 n14_44 n15_45 n16_46 n17_47 n18_48 n19_49 n20_50 n21_51 n22_52 n23_53 n24_54 n28_55 n30_56 n31_57 n32_58 n33_59 n35_60 n37_61 n38_62 n39_63 n40_64 n45_65 n46_66 n47_67 n48_68 n49_69 n50_70 n51_71 n52_72 z8_73 z9_74 z10_75 z11_76 z12_77 z24_78 z37_79 z38_80 z39_81 q_82 cA_83 _ _ _ hP hD hK hS (lv_sub hl [0, 1, 2, 3, 4] rfl)
    · refine lv_tableOut (tgt := 1258) hx hb dL_law_40 (Or.inr (by decide)) (by decide) ?_
      exact law_end C0 A hAd hbA _ _ _ _ _ (Nat.le_of_ble_eq_true rfl) (Nat.le_of_ble_eq_true rfl) hS (lv_sub hl [0, 4] rfl)
    · refine lv_tableOut (tgt := 1258) hx hb dL_law_40 (Or.inr (by decide)) (by decide) ?_
      exact law_end C0 A hAd hbA _ _ _ _ _ (Nat.le_of_ble_eq_true rfl) (Nat.le_of_ble_eq_true rfl) hS (lv_sub hl [0, 4] rfl)
    · refine lv_tableOut (tgt := 1258) hx hb dL_law_40 (Or.inr (by decide)) (by decide) ?_
      exact law_end C0 A hAd hbA _ _ _ _ _ (Nat.le_of_ble_eq_true rfl) (Nat.le_of_ble_eq_true rfl) hS (lv_sub hl [0, 4] rfl)
    · refine lv_tableOut (tgt := 1258) hx hb dL_law_40 (Or.inr (by decide)) (by decide) ?_
      exact law_end C0 A hAd hbA _ _ _ _ _ (Nat.le_of_ble_eq_true rfl) (Nat.le_of_ble_eq_true rfl) hS (lv_sub hl [0, 4] rfl)
    · refine lv_tableOut (tgt := 1258) hx hb dL_law_40 (Or.inr (by decide)) (by decide) ?_
      exact law_end C0 A hAd hbA _ _ _ _ _ (Nat.le_of_ble_eq_true rfl) (Nat.le_of_ble_eq_true rfl) hS (lv_sub hl [0, 4] rfl)
    · refine lv_tableOut (tgt := 1258) hx hb dL_law_40 (Or.inr (by decide)) (by decide) ?_
      exact law_end C0 A hAd hbA _ _ _ _ _ (Nat.le_of_ble_eq_true rfl) (Nat.le_of_ble_eq_true rfl) hS (lv_sub hl [0, 4] rfl)
    · refine lv_tableOut (tgt := 1258) hx hb dL_law_40 (Or.inr (by decide)) (by decide) ?_
      exact law_end C0 A hAd hbA _ _ _ _ _ (Nat.le_of_ble_eq_true rfl) (Nat.le_of_ble_eq_true rfl) hS (lv_sub hl [0, 4] rfl)
