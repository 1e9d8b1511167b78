theorem dX6_clear_0 : decode cX6_clear 0 = .ok (.aload_n 0, 1) := by decide +kernel
theorem dX6_clear_1 : decode cX6_clear 1 = .ok (.iconst 0, 1) := by decide +kernel
theorem dX6_clear_2 : decode cX6_clear 2 = .ok (.putfield 30, 3) := by decide +kernel
theorem dX6_clear_5 : decode cX6_clear 5 = .ok (.aload_n 0, 1) := by decide +kernel
theorem dX6_clear_6 : decode cX6_clear 6 = .ok (.iconst 0, 1) := by decide +kernel
theorem dX6_clear_7 : decode cX6_clear 7 = .ok (.putfield 34, 3) := by decide +kernel
theorem dX6_clear_10 : decode cX6_clear 10 = .ok (.iconst 0, 1) := by decide +kernel
theorem dX6_clear_11 : decode cX6_clear 11 = .ok (.istore_n 1, 1) := by decide +kernel
theorem dX6_clear_12 : decode cX6_clear 12 = .ok (.iload_n 1, 1) := by decide +kernel
theorem dX6_clear_13 : decode cX6_clear 13 = .ok (.bipush 12, 2) := by decide +kernel
theorem dX6_clear_15 : decode cX6_clear 15 = .ok (.if_icmp .ge 23, 3) := by decide +kernel
theorem dX6_clear_38 : decode cX6_clear 38 = .ok (.return_, 1) := by decide +kernel
theorem dX6_clear_18 : decode cX6_clear 18 = .ok (.aload_n 0, 1) := by decide +kernel
theorem dX6_clear_19 : decode cX6_clear 19 = .ok (.getfield 9, 3) := by decide +kernel
theorem dX6_clear_22 : decode cX6_clear 22 = .ok (.iload_n 1, 1) := by decide +kernel
theorem dX6_clear_23 : decode cX6_clear 23 = .ok (.iconst 0, 1) := by decide +kernel
theorem dX6_clear_24 : decode cX6_clear 24 = .ok (.iastore, 1) := by decide +kernel
theorem dX6_clear_25 : decode cX6_clear 25 = .ok (.aload_n 0, 1) := by decide +kernel
theorem dX6_clear_26 : decode cX6_clear 26 = .ok (.getfield 15, 3) := by decide +kernel
theorem dX6_clear_29 : decode cX6_clear 29 = .ok (.iload_n 1, 1) := by decide +kernel
theorem dX6_clear_30 : decode cX6_clear 30 = .ok (.iconst 0, 1) := by decide +kernel
theorem dX6_clear_31 : decode cX6_clear 31 = .ok (.iastore, 1) := by decide +kernel
theorem dX6_clear_32 : decode cX6_clear 32 = .ok (.iinc 1 1, 3) := by decide +kernel
theorem dX6_clear_35 : decode cX6_clear 35 = .ok (.goto (-23), 3) := by decide +kernel
theorem dX6_areAble_0 : decode cX6_areAble 0 = .ok (.iload_n 1, 1) := by decide +kernel
theorem dX6_areAble_1 : decode cX6_areAble 1 = .ok (.aload_n 0, 1) := by decide +kernel
theorem dX6_areAble_2 : decode cX6_areAble 2 = .ok (.getfield 30, 3) := by decide +kernel
theorem dX6_areAble_5 : decode cX6_areAble 5 = .ok (.iconst (-1), 1) := by decide +kernel
theorem dX6_areAble_6 : decode cX6_areAble 6 = .ok (.ixor, 1) := by decide +kernel
theorem dX6_areAble_7 : decode cX6_areAble 7 = .ok (.iand, 1) := by decide +kernel
theorem dX6_areAble_8 : decode cX6_areAble 8 = .ok (.ifCond .ne 7, 3) := by decide +kernel
theorem dX6_areAble_15 : decode cX6_areAble 15 = .ok (.iconst 0, 1) := by decide +kernel
theorem dX6_areAble_16 : decode cX6_areAble 16 = .ok (.ireturn, 1) := by decide +kernel
theorem dX6_areAble_11 : decode cX6_areAble 11 = .ok (.iconst 1, 1) := by decide +kernel
theorem dX6_areAble_12 : decode cX6_areAble 12 = .ok (.goto 4, 3) := by decide +kernel
theorem dX6_link_0 : decode cX6_link 0 = .ok (.iconst 0, 1) := by decide +kernel
theorem dX6_link_1 : decode cX6_link 1 = .ok (.istore_n 1, 1) := by decide +kernel
theorem dX6_link_2 : decode cX6_link 2 = .ok (.iload_n 1, 1) := by decide +kernel
theorem dX6_link_3 : decode cX6_link 3 = .ok (.bipush 12, 2) := by decide +kernel
theorem dX6_link_5 : decode cX6_link 5 = .ok (.if_icmp .ge 64, 3) := by decide +kernel
theorem dX6_link_69 : decode cX6_link 69 = .ok (.return_, 1) := by decide +kernel
theorem dX6_link_8 : decode cX6_link 8 = .ok (.iconst 0, 1) := by decide +kernel
theorem dX6_link_9 : decode cX6_link 9 = .ok (.istore_n 2, 1) := by decide +kernel
theorem dX6_link_10 : decode cX6_link 10 = .ok (.iload_n 2, 1) := by decide +kernel
theorem dX6_link_11 : decode cX6_link 11 = .ok (.bipush 12, 2) := by decide +kernel
theorem dX6_link_13 : decode cX6_link 13 = .ok (.if_icmp .ge 50, 3) := by decide +kernel
theorem dX6_link_63 : decode cX6_link 63 = .ok (.iinc 1 1, 3) := by decide +kernel
theorem dX6_link_66 : decode cX6_link 66 = .ok (.goto (-64), 3) := by decide +kernel
theorem dX6_link_16 : decode cX6_link 16 = .ok (.aload_n 0, 1) := by decide +kernel
theorem dX6_link_17 : decode cX6_link 17 = .ok (.iconst 1, 1) := by decide +kernel
theorem dX6_link_18 : decode cX6_link 18 = .ok (.iload_n 1, 1) := by decide +kernel
theorem dX6_link_19 : decode cX6_link 19 = .ok (.ishl, 1) := by decide +kernel
theorem dX6_link_20 : decode cX6_link 20 = .ok (.iconst 1, 1) := by decide +kernel
theorem dX6_link_21 : decode cX6_link 21 = .ok (.iload_n 2, 1) := by decide +kernel
theorem dX6_link_22 : decode cX6_link 22 = .ok (.ishl, 1) := by decide +kernel
theorem dX6_link_23 : decode cX6_link 23 = .ok (.ior, 1) := by decide +kernel
theorem dX6_link_24 : decode cX6_link 24 = .ok (.invokevirtual 37, 3) := by decide +kernel
theorem dX6_link_27 : decode cX6_link 27 = .ok (.ifCond .eq 30, 3) := by decide +kernel
theorem dX6_link_57 : decode cX6_link 57 = .ok (.iinc 2 1, 3) := by decide +kernel
theorem dX6_link_60 : decode cX6_link 60 = .ok (.goto (-50), 3) := by decide +kernel
theorem dX5_init_0 : decode cX5_init 0 = .ok (.aload_n 0, 1) := by decide +kernel
theorem dX5_init_1 : decode cX5_init 1 = .ok (.invokespecial 3, 3) := by decide +kernel
theorem dX5_init_4 : decode cX5_init 4 = .ok (.aload_n 0, 1) := by decide +kernel
theorem dX5_init_5 : decode cX5_init 5 = .ok (.bipush 12, 2) := by decide +kernel
theorem dX5_init_7 : decode cX5_init 7 = .ok (.newarray .int, 2) := by decide +kernel
theorem dX5_init_9 : decode cX5_init 9 = .ok (.putfield 9, 3) := by decide +kernel
theorem dX5_init_12 : decode cX5_init 12 = .ok (.aload_n 0, 1) := by decide +kernel
theorem dX5_init_13 : decode cX5_init 13 = .ok (.iconst 0, 1) := by decide +kernel
theorem dX5_init_14 : decode cX5_init 14 = .ok (.putfield 15, 3) := by decide +kernel
theorem dX5_init_17 : decode cX5_init 17 = .ok (.aload_n 0, 1) := by decide +kernel
theorem dX5_init_18 : decode cX5_init 18 = .ok (.iconst 0, 1) := by decide +kernel
theorem dX5_init_19 : decode cX5_init 19 = .ok (.putfield 19, 3) := by decide +kernel
theorem dX5_init_22 : decode cX5_init 22 = .ok (.aload_n 0, 1) := by decide +kernel
theorem dX5_init_23 : decode cX5_init 23 = .ok (.sipush 1585, 3) := by decide +kernel
theorem dX5_init_26 : decode cX5_init 26 = .ok (.newarray .int, 2) := by decide +kernel
theorem dX5_init_28 : decode cX5_init 28 = .ok (.putfield 22, 3) := by decide +kernel
theorem dX5_init_31 : decode cX5_init 31 = .ok (.aload_n 0, 1) := by decide +kernel
theorem dX5_init_32 : decode cX5_init 32 = .ok (.bipush 13, 2) := by decide +kernel
theorem dX5_init_34 : decode cX5_init 34 = .ok (.newarray .int, 2) := by decide +kernel
theorem dX5_init_36 : decode cX5_init 36 = .ok (.putfield 25, 3) := by decide +kernel
theorem dX5_init_39 : decode cX5_init 39 = .ok (.aload_n 0, 1) := by decide +kernel
theorem dX5_init_40 : decode cX5_init 40 = .ok (.iconst 0, 1) := by decide +kernel
theorem dX5_init_41 : decode cX5_init 41 = .ok (.putfield 28, 3) := by decide +kernel
theorem dX5_init_44 : decode cX5_init 44 = .ok (.aload_n 0, 1) := by decide +kernel
theorem dX5_init_45 : decode cX5_init 45 = .ok (.sipush 1585, 3) := by decide +kernel
theorem dX5_init_48 : decode cX5_init 48 = .ok (.newarray .long, 2) := by decide +kernel
theorem dX5_init_50 : decode cX5_init 50 = .ok (.putfield 31, 3) := by decide +kernel
theorem dX5_init_53 : decode cX5_init 53 = .ok (.aload_n 0, 1) := by decide +kernel
theorem dX5_init_54 : decode cX5_init 54 = .ok (.sipush 4096, 3) := by decide +kernel
theorem dX5_init_57 : decode cX5_init 57 = .ok (.newarray .long, 2) := by decide +kernel
theorem dX5_init_59 : decode cX5_init 59 = .ok (.putfield 35, 3) := by decide +kernel
theorem dX5_init_62 : decode cX5_init 62 = .ok (.aload_n 0, 1) := by decide +kernel
theorem dX5_init_63 : decode cX5_init 63 = .ok (.sipush 4096, 3) := by decide +kernel
theorem dX5_init_66 : decode cX5_init 66 = .ok (.newarray .int, 2) := by decide +kernel
theorem dX5_init_68 : decode cX5_init 68 = .ok (.putfield 38, 3) := by decide +kernel
theorem dX5_init_71 : decode cX5_init 71 = .ok (.aload_n 0, 1) := by decide +kernel
theorem dX5_init_72 : decode cX5_init 72 = .ok (.iconst 0, 1) := by decide +kernel
theorem dX5_init_73 : decode cX5_init 73 = .ok (.putfield 41, 3) := by decide +kernel
theorem dX5_init_76 : decode cX5_init 76 = .ok (.aload_n 0, 1) := by decide +kernel
theorem dX5_init_77 : decode cX5_init 77 = .ok (.aload_n 1, 1) := by decide +kernel
theorem dX5_init_78 : decode cX5_init 78 = .ok (.putfield 44, 3) := by decide +kernel
theorem dX5_init_81 : decode cX5_init 81 = .ok (.aload_n 0, 1) := by decide +kernel
theorem dX5_init_82 : decode cX5_init 82 = .ok (.aload_n 2, 1) := by decide +kernel
theorem dX5_init_83 : decode cX5_init 83 = .ok (.putfield 48, 3) := by decide +kernel
theorem dX5_init_86 : decode cX5_init 86 = .ok (.return_, 1) := by decide +kernel
theorem dX5_pick_0 : decode cX5_pick 0 = .ok (.iconst 0, 1) := by decide +kernel
theorem dX5_pick_1 : decode cX5_pick 1 = .ok (.istore_n 1, 1) := by decide +kernel
theorem dX5_pick_2 : decode cX5_pick 2 = .ok (.iconst 0, 1) := by decide +kernel
theorem dX5_pick_3 : decode cX5_pick 3 = .ok (.istore_n 2, 1) := by decide +kernel
theorem dX5_pick_4 : decode cX5_pick 4 = .ok (.iload_n 2, 1) := by decide +kernel
theorem dX5_pick_5 : decode cX5_pick 5 = .ok (.aload_n 0, 1) := by decide +kernel
theorem dX5_pick_6 : decode cX5_pick 6 = .ok (.getfield 28, 3) := by decide +kernel
theorem dX5_pick_9 : decode cX5_pick 9 = .ok (.if_icmp .ge 18, 3) := by decide +kernel
theorem dX5_pick_27 : decode cX5_pick 27 = .ok (.aload_n 0, 1) := by decide +kernel
theorem dX5_pick_28 : decode cX5_pick 28 = .ok (.iconst 0, 1) := by decide +kernel
theorem dX5_pick_29 : decode cX5_pick 29 = .ok (.putfield 19, 3) := by decide +kernel
theorem dX5_pick_32 : decode cX5_pick 32 = .ok (.aload_n 0, 1) := by decide +kernel
theorem dX5_pick_33 : decode cX5_pick 33 = .ok (.iconst 0, 1) := by decide +kernel
theorem dX5_pick_34 : decode cX5_pick 34 = .ok (.putfield 15, 3) := by decide +kernel
theorem dX5_pick_37 : decode cX5_pick 37 = .ok (.iconst 0, 1) := by decide +kernel
theorem dX5_pick_38 : decode cX5_pick 38 = .ok (.istore_n 2, 1) := by decide +kernel
theorem dX5_pick_39 : decode cX5_pick 39 = .ok (.iload_n 2, 1) := by decide +kernel
theorem dX5_pick_40 : decode cX5_pick 40 = .ok (.bipush 12, 2) := by decide +kernel
theorem dX5_pick_42 : decode cX5_pick 42 = .ok (.if_icmp .ge 68, 3) := by decide +kernel
theorem dX5_pick_110 : decode cX5_pick 110 = .ok (.return_, 1) := by decide +kernel
theorem dX5_pick_45 : decode cX5_pick 45 = .ok (.iload_n 1, 1) := by decide +kernel
theorem dX5_pick_46 : decode cX5_pick 46 = .ok (.iload_n 2, 1) := by decide +kernel
theorem dX5_pick_47 : decode cX5_pick 47 = .ok (.ishr, 1) := by decide +kernel
theorem dX5_pick_48 : decode cX5_pick 48 = .ok (.iconst 1, 1) := by decide +kernel
theorem dX5_pick_49 : decode cX5_pick 49 = .ok (.iand, 1) := by decide +kernel
theorem dX5_pick_50 : decode cX5_pick 50 = .ok (.ifCond .eq 54, 3) := by decide +kernel
theorem dX5_pick_104 : decode cX5_pick 104 = .ok (.iinc 2 1, 3) := by decide +kernel
theorem dX5_pick_107 : decode cX5_pick 107 = .ok (.goto (-68), 3) := by decide +kernel
theorem dX5_choose_0 : decode cX5_choose 0 = .ok (.aload_n 0, 1) := by decide +kernel
theorem dX5_choose_1 : decode cX5_choose 1 = .ok (.dup, 1) := by decide +kernel
theorem dX5_choose_2 : decode cX5_choose 2 = .ok (.getfield 41, 3) := by decide +kernel
theorem dX5_choose_5 : decode cX5_choose 5 = .ok (.iconst 1, 1) := by decide +kernel
theorem dX5_choose_6 : decode cX5_choose 6 = .ok (.iadd, 1) := by decide +kernel
theorem dX5_choose_7 : decode cX5_choose 7 = .ok (.putfield 41, 3) := by decide +kernel
theorem dX5_choose_10 : decode cX5_choose 10 = .ok (.aload_n 0, 1) := by decide +kernel
theorem dX5_choose_11 : decode cX5_choose 11 = .ok (.iconst 0, 1) := by decide +kernel
theorem dX5_choose_12 : decode cX5_choose 12 = .ok (.putfield 28, 3) := by decide +kernel
theorem dX5_choose_15 : decode cX5_choose 15 = .ok (.iconst 0, 1) := by decide +kernel
theorem dX5_choose_16 : decode cX5_choose 16 = .ok (.istore_n 1, 1) := by decide +kernel
theorem dX5_choose_17 : decode cX5_choose 17 = .ok (.iload_n 1, 1) := by decide +kernel
theorem dX5_choose_18 : decode cX5_choose 18 = .ok (.bipush 12, 2) := by decide +kernel
theorem dX5_choose_20 : decode cX5_choose 20 = .ok (.if_icmp .ge 42, 3) := by decide +kernel
theorem dX5_choose_62 : decode cX5_choose 62 = .ok (.aload_n 0, 1) := by decide +kernel
theorem dX5_choose_63 : decode cX5_choose 63 = .ok (.getfield 25, 3) := by decide +kernel
theorem dX5_choose_66 : decode cX5_choose 66 = .ok (.bipush 12, 2) := by decide +kernel
theorem dX5_choose_68 : decode cX5_choose 68 = .ok (.aload_n 0, 1) := by decide +kernel
theorem dX5_choose_69 : decode cX5_choose 69 = .ok (.getfield 28, 3) := by decide +kernel
theorem dX5_choose_72 : decode cX5_choose 72 = .ok (.iastore, 1) := by decide +kernel
theorem dX5_choose_73 : decode cX5_choose 73 = .ok (.aload_n 0, 1) := by decide +kernel
theorem dX5_choose_74 : decode cX5_choose 74 = .ok (.invokevirtual 62, 3) := by decide +kernel
theorem dX5_choose_77 : decode cX5_choose 77 = .ok (.return_, 1) := by decide +kernel
theorem dX5_choose_23 : decode cX5_choose 23 = .ok (.aload_n 0, 1) := by decide +kernel
theorem dX5_choose_24 : decode cX5_choose 24 = .ok (.getfield 25, 3) := by decide +kernel
theorem dX5_choose_27 : decode cX5_choose 27 = .ok (.iload_n 1, 1) := by decide +kernel
theorem dX5_choose_28 : decode cX5_choose 28 = .ok (.aload_n 0, 1) := by decide +kernel
theorem dX5_choose_29 : decode cX5_choose 29 = .ok (.getfield 28, 3) := by decide +kernel
theorem dX5_choose_32 : decode cX5_choose 32 = .ok (.iastore, 1) := by decide +kernel
theorem dX5_choose_33 : decode cX5_choose 33 = .ok (.aload_n 0, 1) := by decide +kernel
theorem dX5_choose_34 : decode cX5_choose 34 = .ok (.getfield 44, 3) := by decide +kernel
theorem dX5_choose_37 : decode cX5_choose 37 = .ok (.iconst 1, 1) := by decide +kernel
theorem dX5_choose_38 : decode cX5_choose 38 = .ok (.iload_n 1, 1) := by decide +kernel
theorem dX5_choose_39 : decode cX5_choose 39 = .ok (.ishl, 1) := by decide +kernel
theorem dX5_choose_40 : decode cX5_choose 40 = .ok (.invokevirtual 52, 3) := by decide +kernel
theorem dX5_choose_43 : decode cX5_choose 43 = .ok (.ifCond .eq 13, 3) := by decide +kernel
theorem dX5_choose_56 : decode cX5_choose 56 = .ok (.iinc 1 1, 3) := by decide +kernel
theorem dX5_choose_59 : decode cX5_choose 59 = .ok (.goto (-42), 3) := by decide +kernel
set_option maxHeartbeats 4000000 in
set_option maxRecDepth 100000 in
theorem c_X6_clear (l : Launch) (D : va_G) (sz : Nat) (h0 : Nat) (qb : Nat) (qk : Nat) (s2 : Value) (s3 : Value) (s4 : Value) (s5 : Value) (x6 : Int32) (x7 : Int32) (kb : ClassId) (kk : ClassId) (fb : Nat → Int32) (fk : Nat → Int32) : Met l yX6_clear (.code yX6_clear cX6_clear 2 none :: G) ({ frames := 2, cells := 0, slots := 0, locals := 40 }) (va_Pc [.ref h0] (pw D sz [(h0, .inr (6, [.ref qb, .ref qk, s2, s3, s4, s5, .int x6, .int x7])), (qb, .inl (kb, 12, .inl fb)), (qk, .inl (kk, 12, .inl fk))] [(kb, .int), (kk, .int)])) (va_Qv (fun (u : (Nat → Int32) × (Nat → Int32)) => True) (fun (u : (Nat → Int32) × (Nat → Int32)) => qw D (va_A [(h0, .inr (6, [.ref qb, .ref qk, s2, s3, s4, s5, .int x6, .int x7])), (qb, .inl (kb, 12, .inl fb)), (qk, .inl (kk, 12, .inl fk))] sz) [(h0, .inr (6, [.ref qb, .ref qk, s2, s3, s4, s5, .int 0, .int 0])), (qb, .inl (kb, 12, .inl u.1)), (qk, .inl (kk, 12, .inl u.2))] []) (va_A [(h0, .inr (6, [.ref qb, .ref qk, s2, s3, s4, s5, .int x6, .int x7])), (qb, .inl (kb, 12, .inl fb)), (qk, .inl (kk, 12, .inl fk))] sz)) 0 0 (va_A [(h0, .inr (6, [.ref qb, .ref qk, s2, s3, s4, s5, .int x6, .int x7])), (qb, .inl (kb, 12, .inl fb)), (qk, .inl (kk, 12, .inl fk))] sz) := by
  refine Met.ofW (cc := cX6_clear) (maxL := 2) (ret := none) (by decide) rfl ?_
  intro p e s m args below meth c s₁ B hml hv
  obtain ⟨rfl, hsz, hP, hK, hD0, hN⟩ := hv
  have hx := B.exec
  have hb := B.bytes
  have hr := B.returns
  have hts := atoms_spec (ws := (.code yX6_clear cX6_clear 2 none :: G)) B.pre
  have hown : s.vm.findClass RX6 = some m.cls := findClass_of_methodNamed B.named
  have hlocks := B.notSynchronized
  subst hsz
  have hD := hD0.self (sz := s.heap.size)
  generalize hAe : va_A [(h0, .inr (6, [.ref qb, .ref qk, s2, s3, s4, s5, .int x6, .int x7])), (qb, .inl (kb, 12, .inl fb)), (qk, .inl (kk, 12, .inl fk))] s.heap.size = A at hD ⊢
  have hA : ∀ q : Nat, s.heap.size ≤ q → A q := fun q h => by rw [← hAe]; exact Or.inr h
  have hS : va_S A s.heap s.heap [] := va_S.rf
  have hP : va_P D vwCl [(h0, .inr (6, [.ref qb, .ref qk, s2, s3, s4, s5, .int x6, .int x7])), (qb, .inl (kb, 12, .inl fb)), (qk, .inl (kk, 12, .inl fk))] s.heap := hP
  have hl := lv_entry ([.ref h0]) (n := 2) (Nat.le_of_ble_eq_true rfl)
  rw [lg_entry_eq]
  generalize (lg_sl ([.ref h0]) ++ List.replicate (2 - (lg_sl ([.ref h0])).length) Slot.unset).toArray = ls at hl ⊢
  have hl : lv_has ls 2 [(0, .ref h0)] := hl
  refine lv_aload_n hx hb dX6_clear_0 rfl (lv_at hl 0 rfl) ?_
  refine lv_iconst (v := 0) hx hb dX6_clear_1 (by decide) ?_
  refine va_put (D := D) (ci := 6) (v := .int 0) (ty := .int) (C := RX6) (T := TX6) (N := 8) hx hb hts (fun w h => List.mem_cons_of_mem _ (inG6 w h)) tyX6 tyX6_ok nmX6 hown hK hP hD hS 0 rfl rfl 6 (by decide) (hts _ (List.mem_cons_of_mem _ gw_41)) (fun _ h9 => h9) rfl (by decide +kernel) rfl rfl (Nat.le_of_ble_eq_true rfl) dX6_clear_2 (fun H locs hP hD hS => ?_)
  have hP : va_P D vwCl [(h0, .inr (6, [.ref qb, .ref qk, s2, s3, s4, s5, .int 0, .int x7])), (qb, .inl (kb, 12, .inl fb)), (qk, .inl (kk, 12, .inl fk))] H := hP
  have hD : va_D A [(h0, .inr (6, [.ref qb, .ref qk, s2, s3, s4, s5, .int 0, .int x7])), (qb, .inl (kb, 12, .inl fb)), (qk, .inl (kk, 12, .inl fk))] := hD
  refine lv_aload_n hx hb dX6_clear_5 rfl (lv_at hl 0 rfl) ?_
  refine lv_iconst (v := 0) hx hb dX6_clear_6 (by decide) ?_
  refine va_put (D := D) (ci := 6) (v := .int 0) (ty := .int) (C := RX6) (T := TX6) (N := 8) hx hb hts (fun w h => List.mem_cons_of_mem _ (inG6 w h)) tyX6 tyX6_ok nmX6 hown hK hP hD hS 0 rfl rfl 7 (by decide) (hts _ (List.mem_cons_of_mem _ gw_42)) (fun _ h9 => h9) rfl (by decide +kernel) rfl rfl (Nat.le_of_ble_eq_true rfl) dX6_clear_7 (fun H locs hP hD hS => ?_)
  have hP : va_P D vwCl [(h0, .inr (6, [.ref qb, .ref qk, s2, s3, s4, s5, .int 0, .int 0])), (qb, .inl (kb, 12, .inl fb)), (qk, .inl (kk, 12, .inl fk))] H := hP
  have hD : va_D A [(h0, .inr (6, [.ref qb, .ref qk, s2, s3, s4, s5, .int 0, .int 0])), (qb, .inl (kb, 12, .inl fb)), (qk, .inl (kk, 12, .inl fk))] := hD
  refine lv_iconst (v := 0) hx hb dX6_clear_10 (by decide) ?_
  refine lv_istore_n (lv' := [(1, .int 0), (0, .ref h0)]) hx hb dX6_clear_11 rfl hl (by decide) rfl (fun ls hl => ?_)
  have lp12 : ∀ (n i1 : Nat) (f_1 : Nat → Int32) (f_2 : Nat → Int32) (H : Heap) (locs : List Loc) (ls : Array Slot), i1 ≤ 12 → 12 < i1 + n → va_P D vwCl [(h0, .inr (6, [.ref qb, .ref qk, s2, s3, s4, s5, .int 0, .int 0])), (qb, .inl (kb, 12, .inl f_1)), (qk, .inl (kk, 12, .inl f_2))] H → va_D A [(h0, .inr (6, [.ref qb, .ref qk, s2, s3, s4, s5, .int 0, .int 0])), (qb, .inl (kb, 12, .inl f_1)), (qk, .inl (kk, 12, .inl f_2))] → va_S A s.heap H locs → lv_has ls 2 [(1, .int (nI i1)), (0, .ref h0)] → W p l e ({ frames := 2, cells := 0, slots := 0, locals := 40 } : Room) s m (([.ref h0] : List Value).toArray) below meth c H locs 0 0 (MQ below (va_Qv (fun (u : (Nat → Int32) × (Nat → Int32)) => True) (fun (u : (Nat → Int32) × (Nat → Int32)) => qw D A [(h0, .inr (6, [.ref qb, .ref qk, s2, s3, s4, s5, .int 0, .int 0])), (qb, .inl (kb, 12, .inl u.1)), (qk, .inl (kk, 12, .inl u.2))] []) A) (([.ref h0] : List Value).toArray) s 0 0 A) (F0 m 12 ls []) := by
    intro n
    induction n with
    | zero => intro i1 f_1 f_2 H locs ls hi hn; exact absurd hn (by omega)
    | succ n ih12 =>
      intro i1 f_1 f_2 H locs ls hi_3 hn_4 hP hD hS hl
      refine lv_iload_n hx hb dX6_clear_12 rfl (lv_at hl 0 rfl) ?_
      refine lv_bipush (v := 12) hx hb dX6_clear_13 (by decide) ?_
      refine lv_icmp_ge (tgt := 38) hx hb dX6_clear_15 (by decide) (fun c_6 => ?_) (fun c_6 => ?_)
      · skip
        have hc_6 := ge_of (i := i1) 12 c_6 rfl (by omega) (by omega)
        have hP9 := hP.sub (ws' := [(h0, .inr (6, [.ref qb, .ref qk, s2, s3, s4, s5, .int 0, .int 0])), (qb, .inl (kb, 12, .inl f_1)), (qk, .inl (kk, 12, .inl f_2))]) [0, 1, 2] rfl
        have hD9 := hD.sub (ws' := [(h0, .inr (6, [.ref qb, .ref qk, s2, s3, s4, s5, .int 0, .int 0])), (qb, .inl (kb, 12, .inl f_1)), (qk, .inl (kk, 12, .inl f_2))]) [0, 1, 2] (by decide) rfl
        have hK9 := hK.sub (tys' := []) [] rfl
        refine W.widen (k := 0) (n := 0) (Nat.le_of_ble_eq_true rfl) (Nat.le_of_ble_eq_true rfl) ?_
        exact W.vret hx hb hr (fun t ht hW => ⟨⟨(f_1, f_2), rfl, (by first | trivial | rfl), by rw [ht]; exact hP9, va_K.moved hW.alike hK9, hD9⟩, hS.F ht⟩) hS.2.2 dX6_clear_38
      · skip
        have hc_6 := lt_of (i := i1) 12 c_6 rfl (by omega)
        refine lv_aload_n hx hb dX6_clear_18 rfl (lv_at hl 1 rfl) ?_
        refine va_get (D := D) (ci := 6) (v := .ref qb) (C := RX6) (T := TX6) (N := 8) hx hb hts (fun w h => List.mem_cons_of_mem _ (inG6 w h)) hown hK hP 0 rfl rfl 0 (by decide) (hts _ (List.mem_cons_of_mem _ gw_35)) (fun _ h9 => h9) rfl dX6_clear_19 ?_
        refine lv_iload_n hx hb dX6_clear_22 rfl (lv_at hl 0 rfl) ?_
        refine lv_iconst (v := 0) hx hb dX6_clear_23 (by decide) ?_
        refine va_iast hx hb hK hP hD hS 1 0 rfl rfl (vp_in_nI (n := i1) (N := 12) (by omega) (by omega)) dX6_clear_24 (fun H locs hP hD hS => ?_)
        obtain ⟨f_7, hP, hD⟩ : ∃ f : Nat → Int32, va_P D vwCl [(h0, .inr (6, [.ref qb, .ref qk, s2, s3, s4, s5, .int 0, .int 0])), (qb, .inl (kb, 12, .inl f)), (qk, .inl (kk, 12, .inl f_2))] H ∧ va_D A [(h0, .inr (6, [.ref qb, .ref qk, s2, s3, s4, s5, .int 0, .int 0])), (qb, .inl (kb, 12, .inl f)), (qk, .inl (kk, 12, .inl f_2))] := ⟨_, hP, hD⟩
        refine lv_aload_n hx hb dX6_clear_25 rfl (lv_at hl 1 rfl) ?_
        refine va_get (D := D) (ci := 6) (v := .ref qk) (C := RX6) (T := TX6) (N := 8) hx hb hts (fun w h => List.mem_cons_of_mem _ (inG6 w h)) hown hK hP 0 rfl rfl 1 (by decide) (hts _ (List.mem_cons_of_mem _ gw_36)) (fun _ h9 => h9) rfl dX6_clear_26 ?_
        refine lv_iload_n hx hb dX6_clear_29 rfl (lv_at hl 0 rfl) ?_
        refine lv_iconst (v := 0) hx hb dX6_clear_30 (by decide) ?_
        refine va_iast hx hb hK hP hD hS 2 1 rfl rfl (vp_in_nI (n := i1) (N := 12) (by omega) (by omega)) dX6_clear_31 (fun H locs hP hD hS => ?_)
        obtain ⟨f_8, hP, hD⟩ : ∃ f : Nat → Int32, va_P D vwCl [(h0, .inr (6, [.ref qb, .ref qk, s2, s3, s4, s5, .int 0, .int 0])), (qb, .inl (kb, 12, .inl f_7)), (qk, .inl (kk, 12, .inl f))] H ∧ va_D A [(h0, .inr (6, [.ref qb, .ref qk, s2, s3, s4, s5, .int 0, .int 0])), (qb, .inl (kb, 12, .inl f_7)), (qk, .inl (kk, 12, .inl f))] := ⟨_, hP, hD⟩
        refine lv_iinc (v := (nI (i1 + 1))) (lv' := [(1, .int (nI (i1 + 1))), (0, .ref h0)]) hx hb dX6_clear_32 hl (k := 0) rfl (nI_1 _) (by decide) rfl (fun ls hl => ?_)
        refine lv_goto (tgt := 12) hx hb dX6_clear_35 (by decide) ?_
        exact ih12 (i1 + 1) _ _ _ _ _ (by omega) (by omega) (hP.sub [0, 1, 2] rfl) (hD.sub [0, 1, 2] (by decide) rfl) hS (lv_sub hl [0, 1] rfl)
  exact lp12 (12 + 1) 0 _ _ _ _ _ (by omega) (by omega) hP hD hS (lv_sub hl [0, 1] rfl)
set_option maxHeartbeats 4000000 in
set_option maxRecDepth 100000 in
theorem c_X6_areAble (l : Launch) (D : va_G) (sz : Nat) (h0 : Nat) (x0 : Int32) (fs : List Value) (hf6 : fs[6]? = some (.int 0)) : Met l yX6_areAble (.code yX6_areAble cX6_areAble 2 (some .boolean) :: G) ({ frames := 2, cells := 0, slots := 0, locals := 40 }) (va_Pc [.ref h0, .int x0] (pw D sz [(h0, .inr (6, fs))] [])) (va_Qi (fun (r : Int32) (u : Unit) => r = (if x0 &&& (-1) = 0 then 1 else 0)) (fun (u : Unit) => qw D (va_A [(h0, .inr (6, fs))] sz) [(h0, .inr (6, fs))] []) (va_A [(h0, .inr (6, fs))] sz)) 0 0 (va_A [(h0, .inr (6, fs))] sz) := by
  refine Met.ofW (cc := cX6_areAble) (maxL := 2) (ret := (some .boolean)) (by decide) rfl ?_
  intro p e s m args below meth c s₁ B hml hv
  obtain ⟨rfl, hsz, hP, hK, hD0, hN⟩ := hv
  have hx := B.exec
  have hb := B.bytes
  have hr := B.returns
  have hts := atoms_spec (ws := (.code yX6_areAble cX6_areAble 2 (some .boolean) :: G)) B.pre
  have hown : s.vm.findClass RX6 = some m.cls := findClass_of_methodNamed B.named
  have hlocks := B.notSynchronized
  subst hsz
  have hD := hD0.self (sz := s.heap.size)
  generalize hAe : va_A [(h0, .inr (6, fs))] s.heap.size = A at hD ⊢
  have hA : ∀ q : Nat, s.heap.size ≤ q → A q := fun q h => by rw [← hAe]; exact Or.inr h
  have hS : va_S A s.heap s.heap [] := va_S.rf
  have hP : va_P D vwCl [(h0, .inr (6, fs))] s.heap := hP
  have hl := lv_entry ([.ref h0, .int x0]) (n := 2) (Nat.le_of_ble_eq_true rfl)
  rw [lg_entry_eq]
  generalize (lg_sl ([.ref h0, .int x0]) ++ List.replicate (2 - (lg_sl ([.ref h0, .int x0])).length) Slot.unset).toArray = ls at hl ⊢
  have hl : lv_has ls 2 [(0, .ref h0), (1, .int x0)] := hl
  refine lv_iload_n hx hb dX6_areAble_0 rfl (lv_at hl 1 rfl) ?_
  refine lv_aload_n hx hb dX6_areAble_1 rfl (lv_at hl 0 rfl) ?_
  refine va_get (D := D) (ci := 6) (v := .int 0) (C := RX6) (T := TX6) (N := 8) hx hb hts (fun w h => List.mem_cons_of_mem _ (inG6 w h)) hown hK hP 0 rfl rfl 6 (by decide) (hts _ (List.mem_cons_of_mem _ gw_41)) (fun _ h9 => h9) hf6 dX6_areAble_2 ?_
  refine lv_iconst (v := (-1)) hx hb dX6_areAble_5 (by decide) ?_
  refine lv_ixor hx hb dX6_areAble_6 ?_
  refine tI (y := (-1)) (by decide) ?_
  refine lv_iand hx hb dX6_areAble_7 ?_
  refine lv_if_ne (tgt := 15) hx hb dX6_areAble_8 (by decide) (fun c_1 => ?_) (fun c_1 => ?_)
  · skip
    refine lv_iconst (v := 0) hx hb dX6_areAble_15 (by decide) ?_
    have hP9 := hP.sub (ws' := [(h0, .inr (6, fs))]) [0] rfl
    have hD9 := hD.sub (ws' := [(h0, .inr (6, fs))]) [0] (by decide) rfl
    have hK9 := hK.sub (tys' := []) [] rfl
    refine W.widen (k := 0) (n := 0) (Nat.le_of_ble_eq_true rfl) (Nat.le_of_ble_eq_true rfl) ?_
    exact W.zret (v := 0) hx hb hr rfl (fun t ht hW => ⟨⟨0, (), rfl, (if_neg c_1).symm, by rw [ht]; exact hP9, va_K.moved hW.alike hK9, hD9⟩, hS.F ht⟩) hS.2.2 dX6_areAble_16
  · skip
    refine lv_iconst (v := 1) hx hb dX6_areAble_11 (by decide) ?_
    refine lv_goto (tgt := 16) hx hb dX6_areAble_12 (by decide) ?_
    have hP9 := hP.sub (ws' := [(h0, .inr (6, fs))]) [0] rfl
    have hD9 := hD.sub (ws' := [(h0, .inr (6, fs))]) [0] (by decide) rfl
    have hK9 := hK.sub (tys' := []) [] rfl
    refine W.widen (k := 0) (n := 0) (Nat.le_of_ble_eq_true rfl) (Nat.le_of_ble_eq_true rfl) ?_
    exact W.zret (v := 1) hx hb hr rfl (fun t ht hW => ⟨⟨1, (), rfl, (if_pos c_1).symm, by rw [ht]; exact hP9, va_K.moved hW.alike hK9, hD9⟩, hS.F ht⟩) hS.2.2 dX6_areAble_16
set_option maxHeartbeats 4000000 in
set_option maxRecDepth 100000 in
theorem c_X6_link (l : Launch) (D : va_G) (sz : Nat) (h0 : Nat) (fs : List Value) (hf6 : fs[6]? = some (.int 0)) : Met l yX6_link (.code yX6_link cX6_link 3 none :: G) ({ frames := 4, cells := 0, slots := 0, locals := 67 }) (va_Pc [.ref h0] (pw D sz [(h0, .inr (6, fs))] [])) (va_Qv (fun (u : Unit) => True) (fun (u : Unit) => qw D (va_A [(h0, .inr (6, fs))] sz) [(h0, .inr (6, fs))] []) (va_A [(h0, .inr (6, fs))] sz)) 0 0 (va_A [(h0, .inr (6, fs))] sz) := by
  refine Met.ofW (cc := cX6_link) (maxL := 3) (ret := none) (by decide) rfl ?_
  intro p e s m args below meth c s₁ B hml hv
  obtain ⟨rfl, hsz, hP, hK, hD0, hN⟩ := hv
  have hx := B.exec
  have hb := B.bytes
  have hr := B.returns
  have hts := atoms_spec (ws := (.code yX6_link cX6_link 3 none :: G)) B.pre
  have hown : s.vm.findClass RX6 = some m.cls := findClass_of_methodNamed B.named
  have hlocks := B.notSynchronized
  subst hsz
  have hD := hD0.self (sz := s.heap.size)
  generalize hAe : va_A [(h0, .inr (6, fs))] s.heap.size = A at hD ⊢
  have hA : ∀ q : Nat, s.heap.size ≤ q → A q := fun q h => by rw [← hAe]; exact Or.inr h
  have hS : va_S A s.heap s.heap [] := va_S.rf
  have hP : va_P D vwCl [(h0, .inr (6, fs))] s.heap := hP
  have hl := lv_entry ([.ref h0]) (n := 3) (Nat.le_of_ble_eq_true rfl)
  rw [lg_entry_eq]
  generalize (lg_sl ([.ref h0]) ++ List.replicate (3 - (lg_sl ([.ref h0])).length) Slot.unset).toArray = ls at hl ⊢
  have hl : lv_has ls 3 [(0, .ref h0)] := hl
  refine lv_iconst (v := 0) hx hb dX6_link_0 (by decide) ?_
  refine lv_istore_n (lv' := [(1, .int 0), (0, .ref h0)]) hx hb dX6_link_1 rfl hl (by decide) rfl (fun ls hl => ?_)
  have lp2 : ∀ (n i1 : Nat) (H : Heap) (locs : List Loc) (ls : Array Slot), i1 ≤ 12 → 12 < i1 + n → va_P D vwCl [(h0, .inr (6, fs))] H → va_D A [(h0, .inr (6, fs))] → va_S A s.heap H locs → lv_has ls 3 [(1, .int (nI i1)), (0, .ref h0)] → W p l e ({ frames := 4, cells := 0, slots := 0, locals := 67 } : Room) s m (([.ref h0] : List Value).toArray) below meth c H locs 0 0 (MQ below (va_Qv (fun (u : Unit) => True) (fun (u : Unit) => qw D A [(h0, .inr (6, fs))] []) A) (([.ref h0] : List Value).toArray) s 0 0 A) (F0 m 2 ls []) := by
    intro n
    induction n with
    | zero => intro i1 H locs ls hi hn; exact absurd hn (by omega)
    | succ n ih2 =>
      intro i1 H locs ls hi_1 hn_2 hP hD hS hl
      refine lv_iload_n hx hb dX6_link_2 rfl (lv_at hl 0 rfl) ?_
      refine lv_bipush (v := 12) hx hb dX6_link_3 (by decide) ?_
      refine lv_icmp_ge (tgt := 69) hx hb dX6_link_5 (by decide) (fun c_4 => ?_) (fun c_4 => ?_)
      · skip
        have hc_4 := ge_of (i := i1) 12 c_4 rfl (by omega) (by omega)
        have hP9 := hP.sub (ws' := [(h0, .inr (6, fs))]) [0] rfl
        have hD9 := hD.sub (ws' := [(h0, .inr (6, fs))]) [0] (by decide) rfl
        have hK9 := hK.sub (tys' := []) [] rfl
        refine W.widen (k := 0) (n := 0) (Nat.le_of_ble_eq_true rfl) (Nat.le_of_ble_eq_true rfl) ?_
        exact W.vret hx hb hr (fun t ht hW => ⟨⟨(), rfl, (by first | trivial | rfl), by rw [ht]; exact hP9, va_K.moved hW.alike hK9, hD9⟩, hS.F ht⟩) hS.2.2 dX6_link_69
      · skip
        have hc_4 := lt_of (i := i1) 12 c_4 rfl (by omega)
        refine lv_iconst (v := 0) hx hb dX6_link_8 (by decide) ?_
        refine lv_istore_n (lv' := [(2, .int 0), (1, .int (nI i1)), (0, .ref h0)]) hx hb dX6_link_9 rfl hl (by decide) rfl (fun ls hl => ?_)
        have lp10 : ∀ (n i2 : Nat) (H : Heap) (locs : List Loc) (ls : Array Slot), i2 ≤ 12 → 12 < i2 + n → va_P D vwCl [(h0, .inr (6, fs))] H → va_D A [(h0, .inr (6, fs))] → va_S A s.heap H locs → lv_has ls 3 [(2, .int (nI i2)), (1, .int (nI i1)), (0, .ref h0)] → W p l e ({ frames := 4, cells := 0, slots := 0, locals := 67 } : Room) s m (([.ref h0] : List Value).toArray) below meth c H locs 0 0 (MQ below (va_Qv (fun (u : Unit) => True) (fun (u : Unit) => qw D A [(h0, .inr (6, fs))] []) A) (([.ref h0] : List Value).toArray) s 0 0 A) (F0 m 10 ls []) := by
          intro n
          induction n with
          | zero => intro i2 H locs ls hi hn; exact absurd hn (by omega)
          | succ n ih10 =>
            intro i2 H locs ls hi_5 hn_6 hP hD hS hl
            refine lv_iload_n hx hb dX6_link_10 rfl (lv_at hl 0 rfl) ?_
            refine lv_bipush (v := 12) hx hb dX6_link_11 (by decide) ?_
            refine lv_icmp_ge (tgt := 63) hx hb dX6_link_13 (by decide) (fun c_8 => ?_) (fun c_8 => ?_)
            · skip
              have hc_8 := ge_of (i := i2) 12 c_8 rfl (by omega) (by omega)
              refine lv_iinc (v := (nI (i1 + 1))) (lv' := [(1, .int (nI (i1 + 1))), (2, .int (nI i2)), (0, .ref h0)]) hx hb dX6_link_63 hl (k := 1) rfl (nI_1 _) (by decide) rfl (fun ls hl => ?_)
              refine lv_goto (tgt := 2) hx hb dX6_link_66 (by decide) ?_
              exact ih2 (i1 + 1) _ _ _ (by omega) (by omega) (hP.sub [0] rfl) (hD.sub [0] (by decide) rfl) hS (lv_sub hl [0, 2] rfl)
            · skip
              have hc_8 := lt_of (i := i2) 12 c_8 rfl (by omega)
              refine lv_aload_n hx hb dX6_link_16 rfl (lv_at hl 2 rfl) ?_
              refine lv_iconst (v := 1) hx hb dX6_link_17 (by decide) ?_
              refine lv_iload_n hx hb dX6_link_18 rfl (lv_at hl 1 rfl) ?_
              refine lv_ishl hx hb dX6_link_19 ?_
              refine lv_iconst (v := 1) hx hb dX6_link_20 (by decide) ?_
              refine lv_iload_n hx hb dX6_link_21 rfl (lv_at hl 0 rfl) ?_
              refine lv_ishl hx hb dX6_link_22 ?_
              refine lv_ior hx hb dX6_link_23 ?_
              refine fr_i (wr := []) (va_runV (As := [.int ((1 <<< ((nI i1) &&& 31)) ||| (1 <<< ((nI i2) &&& 31)))]) (rest := []) ⟨hx, hb, hml, hown, hts⟩ (c_X6_areAble l D H.size h0 ((1 <<< ((nI i1) &&& 31)) ||| (1 <<< ((nI i2) &&& 31))) fs hf6) (cwV 1 hts (gV (fun w h => List.mem_cons_of_mem _ h) gw_91 gw_92 gw_93 gw_94 gw_90) rfl rfl rfl (by decide +kernel) ⟨Nat.le_of_ble_eq_true rfl, Nat.le_of_ble_eq_true rfl⟩) (pw_V [0] [] hP hD hK hN rfl rfl (by decide) rfl (ci := 6) (q0 := 0) rfl rfl) rfl rfl hl.1 rfl (lv_room (Nat.le_of_ble_eq_true rfl)) dX6_link_24 ⟨Nat.le_of_ble_eq_true rfl, Nat.le_of_ble_eq_true rfl⟩) hP hD hK hS hA [0] [] rfl rfl (by decide) (by decide) (fun r_10 u_9 H locs hw_11 hP hD hK hS => ?_)
              try dsimp only at hw_11
              have hP : va_P D vwCl [(h0, .inr (6, fs))] H := hP
              have hD : va_D A [(h0, .inr (6, fs))] := hD
              have hK : va_K D vwCl [] s := hK
              refine W.widen (k := 0) (n := 0) (Nat.le_of_ble_eq_true rfl) (Nat.le_of_ble_eq_true rfl) ?_
              refine tI (y := if ((1 <<< ((nI i1) &&& 31)) ||| (1 <<< ((nI i2) &&& 31))) &&& (-1) = 0 then 1 else 0) hw_11 ?_
              refine lv_if_eq (tgt := 57) hx hb dX6_link_27 (by decide) (fun c_12 => ?_) (fun c_12 => absurd (able2 i1 (by omega) i2 (by omega)) c_12)
              refine lv_iinc (v := (nI (i2 + 1))) (lv' := [(2, .int (nI (i2 + 1))), (1, .int (nI i1)), (0, .ref h0)]) hx hb dX6_link_57 hl (k := 0) rfl (nI_1 _) (by decide) rfl (fun ls hl => ?_)
              refine lv_goto (tgt := 10) hx hb dX6_link_60 (by decide) ?_
              exact ih10 (i2 + 1) _ _ _ (by omega) (by omega) (hP.sub [0] rfl) (hD.sub [0] (by decide) rfl) hS (lv_sub hl [0, 1, 2] rfl)
        exact lp10 (12 + 1) 0 _ _ _ (by omega) (by omega) hP hD hS (lv_sub hl [0, 1, 2] rfl)
  exact lp2 (12 + 1) 0 _ _ _ (by omega) (by omega) hP hD hS (lv_sub hl [0, 1] rfl)
set_option maxHeartbeats 4000000 in
set_option maxRecDepth 100000 in
theorem c_X5_init (l : Launch) (D : va_G) (sz : Nat) (h0 : Nat) (qr : Nat) (qo : Nat) : Met l yX5_init (.code yX5_init cX5_init 3 none :: G) ({ frames := 2, cells := 6, slots := 11387, locals := 40 }) (va_Pc [.ref h0, .ref qr, .ref qo] (pw D sz [(h0, .inr (5, [.null, .int 0, .int 0, .null, .null, .null, .null, .int 0, .null, .null, .null, .int 0]))] [])) (va_Qv (fun (u : (Nat) × (Nat) × (Nat) × (Nat) × (Nat) × (Nat) × (ClassId)) => True) (fun (u : (Nat) × (Nat) × (Nat) × (Nat) × (Nat) × (Nat) × (ClassId)) => qw D (va_A [(h0, .inr (5, [.null, .int 0, .int 0, .null, .null, .null, .null, .int 0, .null, .null, .null, .int 0]))] sz) [(h0, .inr (5, [.ref u.1, .int 0, .int 0, .ref qr, .ref qo, .ref u.2.1, .ref u.2.2.1, .int 0, .ref u.2.2.2.1, .ref u.2.2.2.2.1, .ref u.2.2.2.2.2.1, .int 0])), (u.2.2.1, .inl (u.2.2.2.2.2.2, 13, .inl (fun _ => 0)))] [(u.2.2.2.2.2.2, .int)]) (va_A [(h0, .inr (5, [.null, .int 0, .int 0, .null, .null, .null, .null, .int 0, .null, .null, .null, .int 0]))] sz)) 6 11387 (va_A [(h0, .inr (5, [.null, .int 0, .int 0, .null, .null, .null, .null, .int 0, .null, .null, .null, .int 0]))] sz) := by
  refine Met.ofW (cc := cX5_init) (maxL := 3) (ret := none) (by decide) rfl ?_
  intro p e s m args below meth c s₁ B hml hv
  obtain ⟨rfl, hsz, hP, hK, hD0, hN⟩ := hv
  have hx := B.exec
  have hb := B.bytes
  have hr := B.returns
  have hts := atoms_spec (ws := (.code yX5_init cX5_init 3 none :: G)) B.pre
  have hown : s.vm.findClass RX5 = some m.cls := findClass_of_methodNamed B.named
  have hlocks := B.notSynchronized
  have hin : meth.name = "<init>" := (name_of_methodNamed B.named B.method).1
  subst hsz
  have hD := hD0.self (sz := s.heap.size)
  generalize hAe : va_A [(h0, .inr (5, [.null, .int 0, .int 0, .null, .null, .null, .null, .int 0, .null, .null, .null, .int 0]))] s.heap.size = A at hD ⊢
  have hA : ∀ q : Nat, s.heap.size ≤ q → A q := fun q h => by rw [← hAe]; exact Or.inr h
  have hS : va_S A s.heap s.heap [] := va_S.rf
  have hP : va_P D vwCl [(h0, .inr (5, [.null, .int 0, .int 0, .null, .null, .null, .null, .int 0, .null, .null, .null, .int 0]))] s.heap := hP
  have hl := lv_entry ([.ref h0, .ref qr, .ref qo]) (n := 3) (Nat.le_of_ble_eq_true rfl)
  rw [lg_entry_eq]
  generalize (lg_sl ([.ref h0, .ref qr, .ref qo]) ++ List.replicate (3 - (lg_sl ([.ref h0, .ref qr, .ref qo])).length) Slot.unset).toArray = ls at hl ⊢
  have hl : lv_has ls 3 [(0, .ref h0), (1, .ref qr), (2, .ref qo)] := hl
  refine lv_aload_n hx hb dX5_init_0 rfl (lv_at hl 0 rfl) ?_
  refine W.objInit hx hb hown (hts _ (List.mem_cons_of_mem _ gw_95)) (hts _ (List.mem_cons_of_mem _ gw_12)) (hts _ (List.mem_cons_of_mem _ gw_13)) rfl (by rw [hml]; exact hl.1) rfl dX5_init_1 (Nat.le_of_ble_eq_true rfl) (Nat.le_of_ble_eq_true rfl) ?_
  refine W.eq (g2 := F0 m 4 ls []) rfl ?_
  refine lv_aload_n hx hb dX5_init_4 rfl (lv_at hl 0 rfl) ?_
  refine lv_bipush (v := 12) hx hb dX5_init_5 (by decide) ?_
  refine va_newa (atype := .int) (ty := .int) (N' := 12) (a0 := (12, .inl (fun _ => 0))) hx hb (hts _ (List.mem_cons_of_mem _ gw_14)) rfl hK hP hD hS hA (fun _ => rfl) (by decide) (by decide +kernel) (by decide) (Nat.le_of_ble_eq_true rfl) (Nat.le_of_ble_eq_true rfl) dX5_init_7 (fun q_1 cA_2 H hK hP hD hS => ?_)
  have hP : va_P D vwCl [(h0, .inr (5, [.null, .int 0, .int 0, .null, .null, .null, .null, .int 0, .null, .null, .null, .int 0])), (q_1, .inl (cA_2, 12, .inl (fun _ => 0)))] H := hP
  have hD : va_D A [(h0, .inr (5, [.null, .int 0, .int 0, .null, .null, .null, .null, .int 0, .null, .null, .null, .int 0])), (q_1, .inl (cA_2, 12, .inl (fun _ => 0)))] := hD
  have hK : va_K D vwCl [(cA_2, .int)] s := hK
  refine W.widen (k := 1) (n := 12) (Nat.le_of_ble_eq_true rfl) (Nat.le_of_ble_eq_true rfl) ?_
  refine va_putF (D := D) (ci := 5) (v := .ref q_1) (ty := .array .int) (C := RX5) (T := TX5) (N := 12) hx hb hts (fun w h => List.mem_cons_of_mem _ (inG5 w h)) tyX5 tyX5_ok nmX5 hown hK hP hD hS 0 rfl rfl 0 (by decide) (hts _ (List.mem_cons_of_mem _ gw_96)) (fun _ h9 => h9) rfl hin rfl (by decide +kernel) rfl rfl (Nat.le_of_ble_eq_true rfl) dX5_init_9 (fun H locs hP hD hS => ?_)
  have hP : va_P D vwCl [(h0, .inr (5, [.ref q_1, .int 0, .int 0, .null, .null, .null, .null, .int 0, .null, .null, .null, .int 0])), (q_1, .inl (cA_2, 12, .inl (fun _ => 0)))] H := hP
  have hD : va_D A [(h0, .inr (5, [.ref q_1, .int 0, .int 0, .null, .null, .null, .null, .int 0, .null, .null, .null, .int 0])), (q_1, .inl (cA_2, 12, .inl (fun _ => 0)))] := hD
  refine lv_aload_n hx hb dX5_init_12 rfl (lv_at hl 0 rfl) ?_
  refine lv_iconst (v := 0) hx hb dX5_init_13 (by decide) ?_
  refine va_put (D := D) (ci := 5) (v := .int 0) (ty := .int) (C := RX5) (T := TX5) (N := 12) hx hb hts (fun w h => List.mem_cons_of_mem _ (inG5 w h)) tyX5 tyX5_ok nmX5 hown hK hP hD hS 0 rfl rfl 1 (by decide) (hts _ (List.mem_cons_of_mem _ gw_97)) (fun _ h9 => h9) rfl (by decide +kernel) rfl rfl (Nat.le_of_ble_eq_true rfl) dX5_init_14 (fun H locs hP hD hS => ?_)
  have hP : va_P D vwCl [(h0, .inr (5, [.ref q_1, .int 0, .int 0, .null, .null, .null, .null, .int 0, .null, .null, .null, .int 0])), (q_1, .inl (cA_2, 12, .inl (fun _ => 0)))] H := hP
  have hD : va_D A [(h0, .inr (5, [.ref q_1, .int 0, .int 0, .null, .null, .null, .null, .int 0, .null, .null, .null, .int 0])), (q_1, .inl (cA_2, 12, .inl (fun _ => 0)))] := hD
  refine lv_aload_n hx hb dX5_init_17 rfl (lv_at hl 0 rfl) ?_
  refine lv_iconst (v := 0) hx hb dX5_init_18 (by decide) ?_
  refine va_put (D := D) (ci := 5) (v := .int 0) (ty := .int) (C := RX5) (T := TX5) (N := 12) hx hb hts (fun w h => List.mem_cons_of_mem _ (inG5 w h)) tyX5 tyX5_ok nmX5 hown hK hP hD hS 0 rfl rfl 2 (by decide) (hts _ (List.mem_cons_of_mem _ gw_98)) (fun _ h9 => h9) rfl (by decide +kernel) rfl rfl (Nat.le_of_ble_eq_true rfl) dX5_init_19 (fun H locs hP hD hS => ?_)
  have hP : va_P D vwCl [(h0, .inr (5, [.ref q_1, .int 0, .int 0, .null, .null, .null, .null, .int 0, .null, .null, .null, .int 0])), (q_1, .inl (cA_2, 12, .inl (fun _ => 0)))] H := hP
  have hD : va_D A [(h0, .inr (5, [.ref q_1, .int 0, .int 0, .null, .null, .null, .null, .int 0, .null, .null, .null, .int 0])), (q_1, .inl (cA_2, 12, .inl (fun _ => 0)))] := hD
  refine lv_aload_n hx hb dX5_init_22 rfl (lv_at hl 0 rfl) ?_
  refine lv_sipush (v := 1585) hx hb dX5_init_23 (by decide) ?_
  refine va_newa (atype := .int) (ty := .int) (N' := 1585) (a0 := (1585, .inl (fun _ => 0))) hx hb (hts _ (List.mem_cons_of_mem _ gw_14)) rfl hK hP hD hS hA (fun _ => rfl) (by decide) (by decide +kernel) (by decide) (Nat.le_of_ble_eq_true rfl) (Nat.le_of_ble_eq_true rfl) dX5_init_26 (fun q_3 cA_4 H hK hP hD hS => ?_)
  have hP : va_P D vwCl [(h0, .inr (5, [.ref q_1, .int 0, .int 0, .null, .null, .null, .null, .int 0, .null, .null, .null, .int 0])), (q_1, .inl (cA_2, 12, .inl (fun _ => 0))), (q_3, .inl (cA_4, 1585, .inl (fun _ => 0)))] H := hP
  have hD : va_D A [(h0, .inr (5, [.ref q_1, .int 0, .int 0, .null, .null, .null, .null, .int 0, .null, .null, .null, .int 0])), (q_1, .inl (cA_2, 12, .inl (fun _ => 0))), (q_3, .inl (cA_4, 1585, .inl (fun _ => 0)))] := hD
  have hK : va_K D vwCl [(cA_2, .int), (cA_4, .int)] s := hK
  refine W.widen (k := 2) (n := 1597) (Nat.le_of_ble_eq_true rfl) (Nat.le_of_ble_eq_true rfl) ?_
  refine va_putF (D := D) (ci := 5) (v := .ref q_3) (ty := .array .int) (C := RX5) (T := TX5) (N := 12) hx hb hts (fun w h => List.mem_cons_of_mem _ (inG5 w h)) tyX5 tyX5_ok nmX5 hown hK hP hD hS 0 rfl rfl 5 (by decide) (hts _ (List.mem_cons_of_mem _ gw_99)) (fun _ h9 => h9) rfl hin rfl (by decide +kernel) rfl rfl (Nat.le_of_ble_eq_true rfl) dX5_init_28 (fun H locs hP hD hS => ?_)
  have hP : va_P D vwCl [(h0, .inr (5, [.ref q_1, .int 0, .int 0, .null, .null, .ref q_3, .null, .int 0, .null, .null, .null, .int 0])), (q_1, .inl (cA_2, 12, .inl (fun _ => 0))), (q_3, .inl (cA_4, 1585, .inl (fun _ => 0)))] H := hP
  have hD : va_D A [(h0, .inr (5, [.ref q_1, .int 0, .int 0, .null, .null, .ref q_3, .null, .int 0, .null, .null, .null, .int 0])), (q_1, .inl (cA_2, 12, .inl (fun _ => 0))), (q_3, .inl (cA_4, 1585, .inl (fun _ => 0)))] := hD
  refine lv_aload_n hx hb dX5_init_31 rfl (lv_at hl 0 rfl) ?_
  refine lv_bipush (v := 13) hx hb dX5_init_32 (by decide) ?_
  refine va_newa (atype := .int) (ty := .int) (N' := 13) (a0 := (13, .inl (fun _ => 0))) hx hb (hts _ (List.mem_cons_of_mem _ gw_14)) rfl hK hP hD hS hA (fun _ => rfl) (by decide) (by decide +kernel) (by decide) (Nat.le_of_ble_eq_true rfl) (Nat.le_of_ble_eq_true rfl) dX5_init_34 (fun q_5 cA_6 H hK hP hD hS => ?_)
  have hP : va_P D vwCl [(h0, .inr (5, [.ref q_1, .int 0, .int 0, .null, .null, .ref q_3, .null, .int 0, .null, .null, .null, .int 0])), (q_1, .inl (cA_2, 12, .inl (fun _ => 0))), (q_3, .inl (cA_4, 1585, .inl (fun _ => 0))), (q_5, .inl (cA_6, 13, .inl (fun _ => 0)))] H := hP
  have hD : va_D A [(h0, .inr (5, [.ref q_1, .int 0, .int 0, .null, .null, .ref q_3, .null, .int 0, .null, .null, .null, .int 0])), (q_1, .inl (cA_2, 12, .inl (fun _ => 0))), (q_3, .inl (cA_4, 1585, .inl (fun _ => 0))), (q_5, .inl (cA_6, 13, .inl (fun _ => 0)))] := hD
  have hK : va_K D vwCl [(cA_2, .int), (cA_4, .int), (cA_6, .int)] s := hK
  refine W.widen (k := 3) (n := 1610) (Nat.le_of_ble_eq_true rfl) (Nat.le_of_ble_eq_true rfl) ?_
  refine va_putF (D := D) (ci := 5) (v := .ref q_5) (ty := .array .int) (C := RX5) (T := TX5) (N := 12) hx hb hts (fun w h => List.mem_cons_of_mem _ (inG5 w h)) tyX5 tyX5_ok nmX5 hown hK hP hD hS 0 rfl rfl 6 (by decide) (hts _ (List.mem_cons_of_mem _ gw_100)) (fun _ h9 => h9) rfl hin rfl (by decide +kernel) rfl rfl (Nat.le_of_ble_eq_true rfl) dX5_init_36 (fun H locs hP hD hS => ?_)
  have hP : va_P D vwCl [(h0, .inr (5, [.ref q_1, .int 0, .int 0, .null, .null, .ref q_3, .ref q_5, .int 0, .null, .null, .null, .int 0])), (q_1, .inl (cA_2, 12, .inl (fun _ => 0))), (q_3, .inl (cA_4, 1585, .inl (fun _ => 0))), (q_5, .inl (cA_6, 13, .inl (fun _ => 0)))] H := hP
  have hD : va_D A [(h0, .inr (5, [.ref q_1, .int 0, .int 0, .null, .null, .ref q_3, .ref q_5, .int 0, .null, .null, .null, .int 0])), (q_1, .inl (cA_2, 12, .inl (fun _ => 0))), (q_3, .inl (cA_4, 1585, .inl (fun _ => 0))), (q_5, .inl (cA_6, 13, .inl (fun _ => 0)))] := hD
  refine lv_aload_n hx hb dX5_init_39 rfl (lv_at hl 0 rfl) ?_
  refine lv_iconst (v := 0) hx hb dX5_init_40 (by decide) ?_
  refine va_put (D := D) (ci := 5) (v := .int 0) (ty := .int) (C := RX5) (T := TX5) (N := 12) hx hb hts (fun w h => List.mem_cons_of_mem _ (inG5 w h)) tyX5 tyX5_ok nmX5 hown hK hP hD hS 0 rfl rfl 7 (by decide) (hts _ (List.mem_cons_of_mem _ gw_101)) (fun _ h9 => h9) rfl (by decide +kernel) rfl rfl (Nat.le_of_ble_eq_true rfl) dX5_init_41 (fun H locs hP hD hS => ?_)
  have hP : va_P D vwCl [(h0, .inr (5, [.ref q_1, .int 0, .int 0, .null, .null, .ref q_3, .ref q_5, .int 0, .null, .null, .null, .int 0])), (q_1, .inl (cA_2, 12, .inl (fun _ => 0))), (q_3, .inl (cA_4, 1585, .inl (fun _ => 0))), (q_5, .inl (cA_6, 13, .inl (fun _ => 0)))] H := hP
  have hD : va_D A [(h0, .inr (5, [.ref q_1, .int 0, .int 0, .null, .null, .ref q_3, .ref q_5, .int 0, .null, .null, .null, .int 0])), (q_1, .inl (cA_2, 12, .inl (fun _ => 0))), (q_3, .inl (cA_4, 1585, .inl (fun _ => 0))), (q_5, .inl (cA_6, 13, .inl (fun _ => 0)))] := hD
  refine lv_aload_n hx hb dX5_init_44 rfl (lv_at hl 0 rfl) ?_
  refine lv_sipush (v := 1585) hx hb dX5_init_45 (by decide) ?_
  refine va_newa (atype := .long) (ty := .long) (N' := 1585) (a0 := (1585, .inr (.inl (fun _ => 0)))) hx hb (hts _ (List.mem_cons_of_mem _ gw_102)) rfl hK hP hD hS hA (fun _ => rfl) (by decide) (by decide +kernel) (by decide) (Nat.le_of_ble_eq_true rfl) (Nat.le_of_ble_eq_true rfl) dX5_init_48 (fun q_7 cA_8 H hK hP hD hS => ?_)
  have hP : va_P D vwCl [(h0, .inr (5, [.ref q_1, .int 0, .int 0, .null, .null, .ref q_3, .ref q_5, .int 0, .null, .null, .null, .int 0])), (q_1, .inl (cA_2, 12, .inl (fun _ => 0))), (q_3, .inl (cA_4, 1585, .inl (fun _ => 0))), (q_5, .inl (cA_6, 13, .inl (fun _ => 0))), (q_7, .inl (cA_8, 1585, .inr (.inl (fun _ => 0))))] H := hP
  have hD : va_D A [(h0, .inr (5, [.ref q_1, .int 0, .int 0, .null, .null, .ref q_3, .ref q_5, .int 0, .null, .null, .null, .int 0])), (q_1, .inl (cA_2, 12, .inl (fun _ => 0))), (q_3, .inl (cA_4, 1585, .inl (fun _ => 0))), (q_5, .inl (cA_6, 13, .inl (fun _ => 0))), (q_7, .inl (cA_8, 1585, .inr (.inl (fun _ => 0))))] := hD
  have hK : va_K D vwCl [(cA_2, .int), (cA_4, .int), (cA_6, .int), (cA_8, .long)] s := hK
  refine W.widen (k := 4) (n := 3195) (Nat.le_of_ble_eq_true rfl) (Nat.le_of_ble_eq_true rfl) ?_
  refine va_putF (D := D) (ci := 5) (v := .ref q_7) (ty := .array .long) (C := RX5) (T := TX5) (N := 12) hx hb hts (fun w h => List.mem_cons_of_mem _ (inG5 w h)) tyX5 tyX5_ok nmX5 hown hK hP hD hS 0 rfl rfl 8 (by decide) (hts _ (List.mem_cons_of_mem _ gw_103)) (fun _ h9 => h9) rfl hin rfl (by decide +kernel) rfl rfl (Nat.le_of_ble_eq_true rfl) dX5_init_50 (fun H locs hP hD hS => ?_)
  have hP : va_P D vwCl [(h0, .inr (5, [.ref q_1, .int 0, .int 0, .null, .null, .ref q_3, .ref q_5, .int 0, .ref q_7, .null, .null, .int 0])), (q_1, .inl (cA_2, 12, .inl (fun _ => 0))), (q_3, .inl (cA_4, 1585, .inl (fun _ => 0))), (q_5, .inl (cA_6, 13, .inl (fun _ => 0))), (q_7, .inl (cA_8, 1585, .inr (.inl (fun _ => 0))))] H := hP
  have hD : va_D A [(h0, .inr (5, [.ref q_1, .int 0, .int 0, .null, .null, .ref q_3, .ref q_5, .int 0, .ref q_7, .null, .null, .int 0])), (q_1, .inl (cA_2, 12, .inl (fun _ => 0))), (q_3, .inl (cA_4, 1585, .inl (fun _ => 0))), (q_5, .inl (cA_6, 13, .inl (fun _ => 0))), (q_7, .inl (cA_8, 1585, .inr (.inl (fun _ => 0))))] := hD
  refine lv_aload_n hx hb dX5_init_53 rfl (lv_at hl 0 rfl) ?_
  refine lv_sipush (v := 4096) hx hb dX5_init_54 (by decide) ?_
  refine va_newa (atype := .long) (ty := .long) (N' := 4096) (a0 := (4096, .inr (.inl (fun _ => 0)))) hx hb (hts _ (List.mem_cons_of_mem _ gw_102)) rfl hK hP hD hS hA (fun _ => rfl) (by decide) (by decide +kernel) (by decide) (Nat.le_of_ble_eq_true rfl) (Nat.le_of_ble_eq_true rfl) dX5_init_57 (fun q_9 cA_10 H hK hP hD hS => ?_)
  have hP : va_P D vwCl [(h0, .inr (5, [.ref q_1, .int 0, .int 0, .null, .null, .ref q_3, .ref q_5, .int 0, .ref q_7, .null, .null, .int 0])), (q_1, .inl (cA_2, 12, .inl (fun _ => 0))), (q_3, .inl (cA_4, 1585, .inl (fun _ => 0))), (q_5, .inl (cA_6, 13, .inl (fun _ => 0))), (q_7, .inl (cA_8, 1585, .inr (.inl (fun _ => 0)))), (q_9, .inl (cA_10, 4096, .inr (.inl (fun _ => 0))))] H := hP
  have hD : va_D A [(h0, .inr (5, [.ref q_1, .int 0, .int 0, .null, .null, .ref q_3, .ref q_5, .int 0, .ref q_7, .null, .null, .int 0])), (q_1, .inl (cA_2, 12, .inl (fun _ => 0))), (q_3, .inl (cA_4, 1585, .inl (fun _ => 0))), (q_5, .inl (cA_6, 13, .inl (fun _ => 0))), (q_7, .inl (cA_8, 1585, .inr (.inl (fun _ => 0)))), (q_9, .inl (cA_10, 4096, .inr (.inl (fun _ => 0))))] := hD
  have hK : va_K D vwCl [(cA_2, .int), (cA_4, .int), (cA_6, .int), (cA_8, .long), (cA_10, .long)] s := hK
  refine W.widen (k := 5) (n := 7291) (Nat.le_of_ble_eq_true rfl) (Nat.le_of_ble_eq_true rfl) ?_
  refine va_putF (D := D) (ci := 5) (v := .ref q_9) (ty := .array .long) (C := RX5) (T := TX5) (N := 12) hx hb hts (fun w h => List.mem_cons_of_mem _ (inG5 w h)) tyX5 tyX5_ok nmX5 hown hK hP hD hS 0 rfl rfl 9 (by decide) (hts _ (List.mem_cons_of_mem _ gw_104)) (fun _ h9 => h9) rfl hin rfl (by decide +kernel) rfl rfl (Nat.le_of_ble_eq_true rfl) dX5_init_59 (fun H locs hP hD hS => ?_)
  have hP : va_P D vwCl [(h0, .inr (5, [.ref q_1, .int 0, .int 0, .null, .null, .ref q_3, .ref q_5, .int 0, .ref q_7, .ref q_9, .null, .int 0])), (q_1, .inl (cA_2, 12, .inl (fun _ => 0))), (q_3, .inl (cA_4, 1585, .inl (fun _ => 0))), (q_5, .inl (cA_6, 13, .inl (fun _ => 0))), (q_7, .inl (cA_8, 1585, .inr (.inl (fun _ => 0)))), (q_9, .inl (cA_10, 4096, .inr (.inl (fun _ => 0))))] H := hP
  have hD : va_D A [(h0, .inr (5, [.ref q_1, .int 0, .int 0, .null, .null, .ref q_3, .ref q_5, .int 0, .ref q_7, .ref q_9, .null, .int 0])), (q_1, .inl (cA_2, 12, .inl (fun _ => 0))), (q_3, .inl (cA_4, 1585, .inl (fun _ => 0))), (q_5, .inl (cA_6, 13, .inl (fun _ => 0))), (q_7, .inl (cA_8, 1585, .inr (.inl (fun _ => 0)))), (q_9, .inl (cA_10, 4096, .inr (.inl (fun _ => 0))))] := hD
  refine lv_aload_n hx hb dX5_init_62 rfl (lv_at hl 0 rfl) ?_
  refine lv_sipush (v := 4096) hx hb dX5_init_63 (by decide) ?_
  refine va_newa (atype := .int) (ty := .int) (N' := 4096) (a0 := (4096, .inl (fun _ => 0))) hx hb (hts _ (List.mem_cons_of_mem _ gw_14)) rfl hK hP hD hS hA (fun _ => rfl) (by decide) (by decide +kernel) (by decide) (Nat.le_of_ble_eq_true rfl) (Nat.le_of_ble_eq_true rfl) dX5_init_66 (fun q_11 cA_12 H hK hP hD hS => ?_)
  have hP : va_P D vwCl [(h0, .inr (5, [.ref q_1, .int 0, .int 0, .null, .null, .ref q_3, .ref q_5, .int 0, .ref q_7, .ref q_9, .null, .int 0])), (q_1, .inl (cA_2, 12, .inl (fun _ => 0))), (q_3, .inl (cA_4, 1585, .inl (fun _ => 0))), (q_5, .inl (cA_6, 13, .inl (fun _ => 0))), (q_7, .inl (cA_8, 1585, .inr (.inl (fun _ => 0)))), (q_9, .inl (cA_10, 4096, .inr (.inl (fun _ => 0)))), (q_11, .inl (cA_12, 4096, .inl (fun _ => 0)))] H := hP
  have hD : va_D A [(h0, .inr (5, [.ref q_1, .int 0, .int 0, .null, .null, .ref q_3, .ref q_5, .int 0, .ref q_7, .ref q_9, .null, .int 0])), (q_1, .inl (cA_2, 12, .inl (fun _ => 0))), (q_3, .inl (cA_4, 1585, .inl (fun _ => 0))), (q_5, .inl (cA_6, 13, .inl (fun _ => 0))), (q_7, .inl (cA_8, 1585, .inr (.inl (fun _ => 0)))), (q_9, .inl (cA_10, 4096, .inr (.inl (fun _ => 0)))), (q_11, .inl (cA_12, 4096, .inl (fun _ => 0)))] := hD
  have hK : va_K D vwCl [(cA_2, .int), (cA_4, .int), (cA_6, .int), (cA_8, .long), (cA_10, .long), (cA_12, .int)] s := hK
  refine W.widen (k := 6) (n := 11387) (Nat.le_of_ble_eq_true rfl) (Nat.le_of_ble_eq_true rfl) ?_
  refine va_putF (D := D) (ci := 5) (v := .ref q_11) (ty := .array .int) (C := RX5) (T := TX5) (N := 12) hx hb hts (fun w h => List.mem_cons_of_mem _ (inG5 w h)) tyX5 tyX5_ok nmX5 hown hK hP hD hS 0 rfl rfl 10 (by decide) (hts _ (List.mem_cons_of_mem _ gw_105)) (fun _ h9 => h9) rfl hin rfl (by decide +kernel) rfl rfl (Nat.le_of_ble_eq_true rfl) dX5_init_68 (fun H locs hP hD hS => ?_)
  have hP : va_P D vwCl [(h0, .inr (5, [.ref q_1, .int 0, .int 0, .null, .null, .ref q_3, .ref q_5, .int 0, .ref q_7, .ref q_9, .ref q_11, .int 0])), (q_1, .inl (cA_2, 12, .inl (fun _ => 0))), (q_3, .inl (cA_4, 1585, .inl (fun _ => 0))), (q_5, .inl (cA_6, 13, .inl (fun _ => 0))), (q_7, .inl (cA_8, 1585, .inr (.inl (fun _ => 0)))), (q_9, .inl (cA_10, 4096, .inr (.inl (fun _ => 0)))), (q_11, .inl (cA_12, 4096, .inl (fun _ => 0)))] H := hP
  have hD : va_D A [(h0, .inr (5, [.ref q_1, .int 0, .int 0, .null, .null, .ref q_3, .ref q_5, .int 0, .ref q_7, .ref q_9, .ref q_11, .int 0])), (q_1, .inl (cA_2, 12, .inl (fun _ => 0))), (q_3, .inl (cA_4, 1585, .inl (fun _ => 0))), (q_5, .inl (cA_6, 13, .inl (fun _ => 0))), (q_7, .inl (cA_8, 1585, .inr (.inl (fun _ => 0)))), (q_9, .inl (cA_10, 4096, .inr (.inl (fun _ => 0)))), (q_11, .inl (cA_12, 4096, .inl (fun _ => 0)))] := hD
  refine lv_aload_n hx hb dX5_init_71 rfl (lv_at hl 0 rfl) ?_
  refine lv_iconst (v := 0) hx hb dX5_init_72 (by decide) ?_
  refine va_put (D := D) (ci := 5) (v := .int 0) (ty := .int) (C := RX5) (T := TX5) (N := 12) hx hb hts (fun w h => List.mem_cons_of_mem _ (inG5 w h)) tyX5 tyX5_ok nmX5 hown hK hP hD hS 0 rfl rfl 11 (by decide) (hts _ (List.mem_cons_of_mem _ gw_106)) (fun _ h9 => h9) rfl (by decide +kernel) rfl rfl (Nat.le_of_ble_eq_true rfl) dX5_init_73 (fun H locs hP hD hS => ?_)
  have hP : va_P D vwCl [(h0, .inr (5, [.ref q_1, .int 0, .int 0, .null, .null, .ref q_3, .ref q_5, .int 0, .ref q_7, .ref q_9, .ref q_11, .int 0])), (q_1, .inl (cA_2, 12, .inl (fun _ => 0))), (q_3, .inl (cA_4, 1585, .inl (fun _ => 0))), (q_5, .inl (cA_6, 13, .inl (fun _ => 0))), (q_7, .inl (cA_8, 1585, .inr (.inl (fun _ => 0)))), (q_9, .inl (cA_10, 4096, .inr (.inl (fun _ => 0)))), (q_11, .inl (cA_12, 4096, .inl (fun _ => 0)))] H := hP
  have hD : va_D A [(h0, .inr (5, [.ref q_1, .int 0, .int 0, .null, .null, .ref q_3, .ref q_5, .int 0, .ref q_7, .ref q_9, .ref q_11, .int 0])), (q_1, .inl (cA_2, 12, .inl (fun _ => 0))), (q_3, .inl (cA_4, 1585, .inl (fun _ => 0))), (q_5, .inl (cA_6, 13, .inl (fun _ => 0))), (q_7, .inl (cA_8, 1585, .inr (.inl (fun _ => 0)))), (q_9, .inl (cA_10, 4096, .inr (.inl (fun _ => 0)))), (q_11, .inl (cA_12, 4096, .inl (fun _ => 0)))] := hD
  refine lv_aload_n hx hb dX5_init_76 rfl (lv_at hl 0 rfl) ?_
  refine lv_aload_n hx hb dX5_init_77 rfl (lv_at hl 1 rfl) ?_
  refine va_putF (D := D) (ci := 5) (v := .ref qr) (ty := .object "OddShoes$Rings") (C := RX5) (T := TX5) (N := 12) hx hb hts (fun w h => List.mem_cons_of_mem _ (inG5 w h)) tyX5 tyX5_ok nmX5 hown hK hP hD hS 0 rfl rfl 3 (by decide) (hts _ (List.mem_cons_of_mem _ gw_107)) (fun _ h9 => h9) rfl hin rfl (by decide +kernel) rfl rfl (Nat.le_of_ble_eq_true rfl) dX5_init_78 (fun H locs hP hD hS => ?_)
  have hP : va_P D vwCl [(h0, .inr (5, [.ref q_1, .int 0, .int 0, .ref qr, .null, .ref q_3, .ref q_5, .int 0, .ref q_7, .ref q_9, .ref q_11, .int 0])), (q_1, .inl (cA_2, 12, .inl (fun _ => 0))), (q_3, .inl (cA_4, 1585, .inl (fun _ => 0))), (q_5, .inl (cA_6, 13, .inl (fun _ => 0))), (q_7, .inl (cA_8, 1585, .inr (.inl (fun _ => 0)))), (q_9, .inl (cA_10, 4096, .inr (.inl (fun _ => 0)))), (q_11, .inl (cA_12, 4096, .inl (fun _ => 0)))] H := hP
  have hD : va_D A [(h0, .inr (5, [.ref q_1, .int 0, .int 0, .ref qr, .null, .ref q_3, .ref q_5, .int 0, .ref q_7, .ref q_9, .ref q_11, .int 0])), (q_1, .inl (cA_2, 12, .inl (fun _ => 0))), (q_3, .inl (cA_4, 1585, .inl (fun _ => 0))), (q_5, .inl (cA_6, 13, .inl (fun _ => 0))), (q_7, .inl (cA_8, 1585, .inr (.inl (fun _ => 0)))), (q_9, .inl (cA_10, 4096, .inr (.inl (fun _ => 0)))), (q_11, .inl (cA_12, 4096, .inl (fun _ => 0)))] := hD
  refine lv_aload_n hx hb dX5_init_81 rfl (lv_at hl 0 rfl) ?_
  refine lv_aload_n hx hb dX5_init_82 rfl (lv_at hl 2 rfl) ?_
  refine va_putF (D := D) (ci := 5) (v := .ref qo) (ty := .object "OddShoes$Offers") (C := RX5) (T := TX5) (N := 12) hx hb hts (fun w h => List.mem_cons_of_mem _ (inG5 w h)) tyX5 tyX5_ok nmX5 hown hK hP hD hS 0 rfl rfl 4 (by decide) (hts _ (List.mem_cons_of_mem _ gw_108)) (fun _ h9 => h9) rfl hin rfl (by decide +kernel) rfl rfl (Nat.le_of_ble_eq_true rfl) dX5_init_83 (fun H locs hP hD hS => ?_)
  have hP : va_P D vwCl [(h0, .inr (5, [.ref q_1, .int 0, .int 0, .ref qr, .ref qo, .ref q_3, .ref q_5, .int 0, .ref q_7, .ref q_9, .ref q_11, .int 0])), (q_1, .inl (cA_2, 12, .inl (fun _ => 0))), (q_3, .inl (cA_4, 1585, .inl (fun _ => 0))), (q_5, .inl (cA_6, 13, .inl (fun _ => 0))), (q_7, .inl (cA_8, 1585, .inr (.inl (fun _ => 0)))), (q_9, .inl (cA_10, 4096, .inr (.inl (fun _ => 0)))), (q_11, .inl (cA_12, 4096, .inl (fun _ => 0)))] H := hP
  have hD : va_D A [(h0, .inr (5, [.ref q_1, .int 0, .int 0, .ref qr, .ref qo, .ref q_3, .ref q_5, .int 0, .ref q_7, .ref q_9, .ref q_11, .int 0])), (q_1, .inl (cA_2, 12, .inl (fun _ => 0))), (q_3, .inl (cA_4, 1585, .inl (fun _ => 0))), (q_5, .inl (cA_6, 13, .inl (fun _ => 0))), (q_7, .inl (cA_8, 1585, .inr (.inl (fun _ => 0)))), (q_9, .inl (cA_10, 4096, .inr (.inl (fun _ => 0)))), (q_11, .inl (cA_12, 4096, .inl (fun _ => 0)))] := hD
  have hP9 := hP.sub (ws' := [(h0, .inr (5, [.ref q_1, .int 0, .int 0, .ref qr, .ref qo, .ref q_3, .ref q_5, .int 0, .ref q_7, .ref q_9, .ref q_11, .int 0])), (q_5, .inl (cA_6, 13, .inl (fun _ => 0)))]) [0, 3] rfl
  have hD9 := hD.sub (ws' := [(h0, .inr (5, [.ref q_1, .int 0, .int 0, .ref qr, .ref qo, .ref q_3, .ref q_5, .int 0, .ref q_7, .ref q_9, .ref q_11, .int 0])), (q_5, .inl (cA_6, 13, .inl (fun _ => 0)))]) [0, 3] (by decide) rfl
  have hK9 := hK.sub (tys' := [(cA_6, .int)]) [2] rfl
  refine W.widen (k := 6) (n := 11387) (Nat.le_of_ble_eq_true rfl) (Nat.le_of_ble_eq_true rfl) ?_
  exact W.vret hx hb hr (fun t ht hW => ⟨⟨(q_1, q_3, q_5, q_7, q_9, q_11, cA_6), rfl, (by first | trivial | rfl), by rw [ht]; exact hP9, va_K.moved hW.alike hK9, hD9⟩, hS.F ht⟩) hS.2.2 dX5_init_86
set_option maxHeartbeats 4000000 in
set_option maxRecDepth 100000 in
theorem c_X5_pick (l : Launch) (D : va_G) (sz : Nat) (h0 : Nat) (t0 : Value) (qr : Nat) (t4 : Value) (t5 : Value) (qf : Nat) (t8 : Value) (t9 : Value) (t10 : Value) (y1 : Int32) (y2 : Int32) (y11 : Int32) : Met l yX5_pick (.code yX5_pick cX5_pick 4 none :: G) ({ frames := 2, cells := 0, slots := 0, locals := 40 }) (va_Pc [.ref h0] (pw D sz [(h0, .inr (5, [t0, .int y1, .int y2, .ref qr, t4, t5, .ref qf, .int 0, t8, t9, t10, .int y11]))] [])) (va_Qv (fun (u : Unit) => True) (fun (u : Unit) => qw D (va_A [(h0, .inr (5, [t0, .int y1, .int y2, .ref qr, t4, t5, .ref qf, .int 0, t8, t9, t10, .int y11]))] sz) [(h0, .inr (5, [t0, .int 0, .int 0, .ref qr, t4, t5, .ref qf, .int 0, t8, t9, t10, .int y11]))] []) (va_A [(h0, .inr (5, [t0, .int y1, .int y2, .ref qr, t4, t5, .ref qf, .int 0, t8, t9, t10, .int y11]))] sz)) 0 0 (va_A [(h0, .inr (5, [t0, .int y1, .int y2, .ref qr, t4, t5, .ref qf, .int 0, t8, t9, t10, .int y11]))] sz) := by
  refine Met.ofW (cc := cX5_pick) (maxL := 4) (ret := none) (by decide) rfl ?_
  intro p e s m args below meth c s₁ B hml hv
  obtain ⟨rfl, hsz, hP, hK, hD0, hN⟩ := hv
  have hx := B.exec
  have hb := B.bytes
  have hr := B.returns
  have hts := atoms_spec (ws := (.code yX5_pick cX5_pick 4 none :: G)) B.pre
  have hown : s.vm.findClass RX5 = some m.cls := findClass_of_methodNamed B.named
  have hlocks := B.notSynchronized
  subst hsz
  have hD := hD0.self (sz := s.heap.size)
  generalize hAe : va_A [(h0, .inr (5, [t0, .int y1, .int y2, .ref qr, t4, t5, .ref qf, .int 0, t8, t9, t10, .int y11]))] s.heap.size = A at hD ⊢
  have hA : ∀ q : Nat, s.heap.size ≤ q → A q := fun q h => by rw [← hAe]; exact Or.inr h
  have hS : va_S A s.heap s.heap [] := va_S.rf
  have hP : va_P D vwCl [(h0, .inr (5, [t0, .int y1, .int y2, .ref qr, t4, t5, .ref qf, .int 0, t8, t9, t10, .int y11]))] s.heap := hP
  have hl := lv_entry ([.ref h0]) (n := 4) (Nat.le_of_ble_eq_true rfl)
  rw [lg_entry_eq]
  generalize (lg_sl ([.ref h0]) ++ List.replicate (4 - (lg_sl ([.ref h0])).length) Slot.unset).toArray = ls at hl ⊢
  have hl : lv_has ls 4 [(0, .ref h0)] := hl
  refine lv_iconst (v := 0) hx hb dX5_pick_0 (by decide) ?_
  refine lv_istore_n (lv' := [(1, .int 0), (0, .ref h0)]) hx hb dX5_pick_1 rfl hl (by decide) rfl (fun ls hl => ?_)
  refine lv_iconst (v := 0) hx hb dX5_pick_2 (by decide) ?_
  refine lv_istore_n (lv' := [(2, .int 0), (1, .int 0), (0, .ref h0)]) hx hb dX5_pick_3 rfl hl (by decide) rfl (fun ls hl => ?_)
  refine lv_iload_n hx hb dX5_pick_4 rfl (lv_at hl 0 rfl) ?_
  refine lv_aload_n hx hb dX5_pick_5 rfl (lv_at hl 2 rfl) ?_
  refine va_get (D := D) (ci := 5) (v := .int 0) (C := RX5) (T := TX5) (N := 12) hx hb hts (fun w h => List.mem_cons_of_mem _ (inG5 w h)) hown hK hP 0 rfl rfl 7 (by decide) (hts _ (List.mem_cons_of_mem _ gw_101)) (fun _ h9 => h9) rfl dX5_pick_6 ?_
  refine lv_icmp_ge (tgt := 27) hx hb dX5_pick_9 (by decide) (fun c_1 => ?_) (fun c_1 => absurd (by decide) c_1)
  refine lv_aload_n hx hb dX5_pick_27 rfl (lv_at hl 2 rfl) ?_
  refine lv_iconst (v := 0) hx hb dX5_pick_28 (by decide) ?_
  refine va_put (D := D) (ci := 5) (v := .int 0) (ty := .int) (C := RX5) (T := TX5) (N := 12) hx hb hts (fun w h => List.mem_cons_of_mem _ (inG5 w h)) tyX5 tyX5_ok nmX5 hown hK hP hD hS 0 rfl rfl 2 (by decide) (hts _ (List.mem_cons_of_mem _ gw_98)) (fun _ h9 => h9) rfl (by decide +kernel) rfl rfl (Nat.le_of_ble_eq_true rfl) dX5_pick_29 (fun H locs hP hD hS => ?_)
  have hP : va_P D vwCl [(h0, .inr (5, [t0, .int y1, .int 0, .ref qr, t4, t5, .ref qf, .int 0, t8, t9, t10, .int y11]))] H := hP
  have hD : va_D A [(h0, .inr (5, [t0, .int y1, .int 0, .ref qr, t4, t5, .ref qf, .int 0, t8, t9, t10, .int y11]))] := hD
  refine lv_aload_n hx hb dX5_pick_32 rfl (lv_at hl 2 rfl) ?_
  refine lv_iconst (v := 0) hx hb dX5_pick_33 (by decide) ?_
  refine va_put (D := D) (ci := 5) (v := .int 0) (ty := .int) (C := RX5) (T := TX5) (N := 12) hx hb hts (fun w h => List.mem_cons_of_mem _ (inG5 w h)) tyX5 tyX5_ok nmX5 hown hK hP hD hS 0 rfl rfl 1 (by decide) (hts _ (List.mem_cons_of_mem _ gw_97)) (fun _ h9 => h9) rfl (by decide +kernel) rfl rfl (Nat.le_of_ble_eq_true rfl) dX5_pick_34 (fun H locs hP hD hS => ?_)
  have hP : va_P D vwCl [(h0, .inr (5, [t0, .int 0, .int 0, .ref qr, t4, t5, .ref qf, .int 0, t8, t9, t10, .int y11]))] H := hP
  have hD : va_D A [(h0, .inr (5, [t0, .int 0, .int 0, .ref qr, t4, t5, .ref qf, .int 0, t8, t9, t10, .int y11]))] := hD
  refine lv_iconst (v := 0) hx hb dX5_pick_37 (by decide) ?_
  refine lv_istore_n (lv' := [(2, .int 0), (1, .int 0), (0, .ref h0)]) hx hb dX5_pick_38 rfl hl (by decide) rfl (fun ls hl => ?_)
  have lp39 : ∀ (n i2 : Nat) (H : Heap) (locs : List Loc) (ls : Array Slot), i2 ≤ 12 → 12 < i2 + n → va_P D vwCl [(h0, .inr (5, [t0, .int 0, .int 0, .ref qr, t4, t5, .ref qf, .int 0, t8, t9, t10, .int y11]))] H → va_D A [(h0, .inr (5, [t0, .int 0, .int 0, .ref qr, t4, t5, .ref qf, .int 0, t8, t9, t10, .int y11]))] → va_S A s.heap H locs → lv_has ls 4 [(2, .int (nI i2)), (1, .int 0), (0, .ref h0)] → W p l e ({ frames := 2, cells := 0, slots := 0, locals := 40 } : Room) s m (([.ref h0] : List Value).toArray) below meth c H locs 0 0 (MQ below (va_Qv (fun (u : Unit) => True) (fun (u : Unit) => qw D A [(h0, .inr (5, [t0, .int 0, .int 0, .ref qr, t4, t5, .ref qf, .int 0, t8, t9, t10, .int y11]))] []) A) (([.ref h0] : List Value).toArray) s 0 0 A) (F0 m 39 ls []) := by
    intro n
    induction n with
    | zero => intro i2 H locs ls hi hn; exact absurd hn (by omega)
    | succ n ih39 =>
      intro i2 H locs ls hi_2 hn_3 hP hD hS hl
      refine lv_iload_n hx hb dX5_pick_39 rfl (lv_at hl 0 rfl) ?_
      refine lv_bipush (v := 12) hx hb dX5_pick_40 (by decide) ?_
      refine lv_icmp_ge (tgt := 110) hx hb dX5_pick_42 (by decide) (fun c_5 => ?_) (fun c_5 => ?_)
      · skip
        have hc_5 := ge_of (i := i2) 12 c_5 rfl (by omega) (by omega)
        have hP9 := hP.sub (ws' := [(h0, .inr (5, [t0, .int 0, .int 0, .ref qr, t4, t5, .ref qf, .int 0, t8, t9, t10, .int y11]))]) [0] rfl
        have hD9 := hD.sub (ws' := [(h0, .inr (5, [t0, .int 0, .int 0, .ref qr, t4, t5, .ref qf, .int 0, t8, t9, t10, .int y11]))]) [0] (by decide) rfl
        have hK9 := hK.sub (tys' := []) [] rfl
        refine W.widen (k := 0) (n := 0) (Nat.le_of_ble_eq_true rfl) (Nat.le_of_ble_eq_true rfl) ?_
        exact W.vret hx hb hr (fun t ht hW => ⟨⟨(), rfl, (by first | trivial | rfl), by rw [ht]; exact hP9, va_K.moved hW.alike hK9, hD9⟩, hS.F ht⟩) hS.2.2 dX5_pick_110
      · skip
        have hc_5 := lt_of (i := i2) 12 c_5 rfl (by omega)
        refine lv_iload_n hx hb dX5_pick_45 rfl (lv_at hl 1 rfl) ?_
        refine lv_iload_n hx hb dX5_pick_46 rfl (lv_at hl 0 rfl) ?_
        refine lv_ishr hx hb dX5_pick_47 ?_
        refine lv_iconst (v := 1) hx hb dX5_pick_48 (by decide) ?_
        refine lv_iand hx hb dX5_pick_49 ?_
        refine lv_if_eq (tgt := 104) hx hb dX5_pick_50 (by decide) (fun c_6 => ?_) (fun c_6 => absurd (pick0 i2 (by omega)) c_6)
        refine lv_iinc (v := (nI (i2 + 1))) (lv' := [(2, .int (nI (i2 + 1))), (1, .int 0), (0, .ref h0)]) hx hb dX5_pick_104 hl (k := 0) rfl (nI_1 _) (by decide) rfl (fun ls hl => ?_)
        refine lv_goto (tgt := 39) hx hb dX5_pick_107 (by decide) ?_
        exact ih39 (i2 + 1) _ _ _ (by omega) (by omega) (hP.sub [0] rfl) (hD.sub [0] (by decide) rfl) hS (lv_sub hl [0, 1, 2] rfl)
  exact lp39 (12 + 1) 0 _ _ _ (by omega) (by omega) hP hD hS (lv_sub hl [0, 1, 2] rfl)
set_option maxHeartbeats 4000000 in
set_option maxRecDepth 100000 in
theorem c_X5_choose (l : Launch) (D : va_G) (sz : Nat) (h0 : Nat) (t0 : Value) (qr : Nat) (t4 : Value) (t5 : Value) (qf : Nat) (t8 : Value) (t9 : Value) (t10 : Value) (y1 : Int32) (y2 : Int32) (y7 : Int32) (y11 : Int32) (kf : ClassId) (ff : Nat → Int32) (fs : List Value) (hf6 : fs[6]? = some (.int 0)) : Met l yX5_choose (.code yX5_choose cX5_choose 2 none :: G) ({ frames := 4, cells := 0, slots := 0, locals := 69 }) (va_Pc [.ref h0] (pw D sz [(h0, .inr (5, [t0, .int y1, .int y2, .ref qr, t4, t5, .ref qf, .int y7, t8, t9, t10, .int y11])), (qf, .inl (kf, 13, .inl ff)), (qr, .inr (6, fs))] [(kf, .int)])) (va_Qv (fun (u : (Nat → Int32) × (Int32)) => True) (fun (u : (Nat → Int32) × (Int32)) => qw D (va_A [(h0, .inr (5, [t0, .int y1, .int y2, .ref qr, t4, t5, .ref qf, .int y7, t8, t9, t10, .int y11])), (qf, .inl (kf, 13, .inl ff)), (qr, .inr (6, fs))] sz) [(h0, .inr (5, [t0, .int 0, .int 0, .ref qr, t4, t5, .ref qf, .int 0, t8, t9, t10, .int u.2])), (qf, .inl (kf, 13, .inl u.1)), (qr, .inr (6, fs))] []) (va_A [(h0, .inr (5, [t0, .int y1, .int y2, .ref qr, t4, t5, .ref qf, .int y7, t8, t9, t10, .int y11])), (qf, .inl (kf, 13, .inl ff)), (qr, .inr (6, fs))] sz)) 0 0 (va_A [(h0, .inr (5, [t0, .int y1, .int y2, .ref qr, t4, t5, .ref qf, .int y7, t8, t9, t10, .int y11])), (qf, .inl (kf, 13, .inl ff)), (qr, .inr (6, fs))] sz) := by
  refine Met.ofW (cc := cX5_choose) (maxL := 2) (ret := none) (by decide) rfl ?_
  intro p e s m args below meth c s₁ B hml hv
  obtain ⟨rfl, hsz, hP, hK, hD0, hN⟩ := hv
  have hx := B.exec
  have hb := B.bytes
  have hr := B.returns
  have hts := atoms_spec (ws := (.code yX5_choose cX5_choose 2 none :: G)) B.pre
  have hown : s.vm.findClass RX5 = some m.cls := findClass_of_methodNamed B.named
  have hlocks := B.notSynchronized
  subst hsz
  have hD := hD0.self (sz := s.heap.size)
  generalize hAe : va_A [(h0, .inr (5, [t0, .int y1, .int y2, .ref qr, t4, t5, .ref qf, .int y7, t8, t9, t10, .int y11])), (qf, .inl (kf, 13, .inl ff)), (qr, .inr (6, fs))] s.heap.size = A at hD ⊢
  have hA : ∀ q : Nat, s.heap.size ≤ q → A q := fun q h => by rw [← hAe]; exact Or.inr h
  have hS : va_S A s.heap s.heap [] := va_S.rf
  have hP : va_P D vwCl [(h0, .inr (5, [t0, .int y1, .int y2, .ref qr, t4, t5, .ref qf, .int y7, t8, t9, t10, .int y11])), (qf, .inl (kf, 13, .inl ff)), (qr, .inr (6, fs))] s.heap := hP
  have hl := lv_entry ([.ref h0]) (n := 2) (Nat.le_of_ble_eq_true rfl)
  rw [lg_entry_eq]
  generalize (lg_sl ([.ref h0]) ++ List.replicate (2 - (lg_sl ([.ref h0])).length) Slot.unset).toArray = ls at hl ⊢
  have hl : lv_has ls 2 [(0, .ref h0)] := hl
  refine lv_aload_n hx hb dX5_choose_0 rfl (lv_at hl 0 rfl) ?_
  refine lv_dup hx hb dX5_choose_1 rfl ?_
  refine va_get (D := D) (ci := 5) (v := .int y11) (C := RX5) (T := TX5) (N := 12) hx hb hts (fun w h => List.mem_cons_of_mem _ (inG5 w h)) hown hK hP 0 rfl rfl 11 (by decide) (hts _ (List.mem_cons_of_mem _ gw_106)) (fun _ h9 => h9) rfl dX5_choose_2 ?_
  refine lv_iconst (v := 1) hx hb dX5_choose_5 (by decide) ?_
  refine lv_iadd hx hb dX5_choose_6 ?_
  refine va_put (D := D) (ci := 5) (v := .int (y11 + 1)) (ty := .int) (C := RX5) (T := TX5) (N := 12) hx hb hts (fun w h => List.mem_cons_of_mem _ (inG5 w h)) tyX5 tyX5_ok nmX5 hown hK hP hD hS 0 rfl rfl 11 (by decide) (hts _ (List.mem_cons_of_mem _ gw_106)) (fun _ h9 => h9) rfl (by decide +kernel) rfl rfl (Nat.le_of_ble_eq_true rfl) dX5_choose_7 (fun H locs hP hD hS => ?_)
  have hP : va_P D vwCl [(h0, .inr (5, [t0, .int y1, .int y2, .ref qr, t4, t5, .ref qf, .int y7, t8, t9, t10, .int (y11 + 1)])), (qf, .inl (kf, 13, .inl ff)), (qr, .inr (6, fs))] H := hP
  have hD : va_D A [(h0, .inr (5, [t0, .int y1, .int y2, .ref qr, t4, t5, .ref qf, .int y7, t8, t9, t10, .int (y11 + 1)])), (qf, .inl (kf, 13, .inl ff)), (qr, .inr (6, fs))] := hD
  refine lv_aload_n hx hb dX5_choose_10 rfl (lv_at hl 0 rfl) ?_
  refine lv_iconst (v := 0) hx hb dX5_choose_11 (by decide) ?_
  refine va_put (D := D) (ci := 5) (v := .int 0) (ty := .int) (C := RX5) (T := TX5) (N := 12) hx hb hts (fun w h => List.mem_cons_of_mem _ (inG5 w h)) tyX5 tyX5_ok nmX5 hown hK hP hD hS 0 rfl rfl 7 (by decide) (hts _ (List.mem_cons_of_mem _ gw_101)) (fun _ h9 => h9) rfl (by decide +kernel) rfl rfl (Nat.le_of_ble_eq_true rfl) dX5_choose_12 (fun H locs hP hD hS => ?_)
  have hP : va_P D vwCl [(h0, .inr (5, [t0, .int y1, .int y2, .ref qr, t4, t5, .ref qf, .int 0, t8, t9, t10, .int (y11 + 1)])), (qf, .inl (kf, 13, .inl ff)), (qr, .inr (6, fs))] H := hP
  have hD : va_D A [(h0, .inr (5, [t0, .int y1, .int y2, .ref qr, t4, t5, .ref qf, .int 0, t8, t9, t10, .int (y11 + 1)])), (qf, .inl (kf, 13, .inl ff)), (qr, .inr (6, fs))] := hD
  refine lv_iconst (v := 0) hx hb dX5_choose_15 (by decide) ?_
  refine lv_istore_n (lv' := [(1, .int 0), (0, .ref h0)]) hx hb dX5_choose_16 rfl hl (by decide) rfl (fun ls hl => ?_)
  have lp17 : ∀ (n i1 : Nat) (f_1 : Nat → Int32) (H : Heap) (locs : List Loc) (ls : Array Slot), i1 ≤ 12 → 12 < i1 + n → va_P D vwCl [(h0, .inr (5, [t0, .int y1, .int y2, .ref qr, t4, t5, .ref qf, .int 0, t8, t9, t10, .int (y11 + 1)])), (qf, .inl (kf, 13, .inl f_1)), (qr, .inr (6, fs))] H → va_D A [(h0, .inr (5, [t0, .int y1, .int y2, .ref qr, t4, t5, .ref qf, .int 0, t8, t9, t10, .int (y11 + 1)])), (qf, .inl (kf, 13, .inl f_1)), (qr, .inr (6, fs))] → va_S A s.heap H locs → lv_has ls 2 [(1, .int (nI i1)), (0, .ref h0)] → W p l e ({ frames := 4, cells := 0, slots := 0, locals := 69 } : Room) s m (([.ref h0] : List Value).toArray) below meth c H locs 0 0 (MQ below (va_Qv (fun (u : (Nat → Int32) × (Int32)) => True) (fun (u : (Nat → Int32) × (Int32)) => qw D A [(h0, .inr (5, [t0, .int 0, .int 0, .ref qr, t4, t5, .ref qf, .int 0, t8, t9, t10, .int u.2])), (qf, .inl (kf, 13, .inl u.1)), (qr, .inr (6, fs))] []) A) (([.ref h0] : List Value).toArray) s 0 0 A) (F0 m 17 ls []) := by
    intro n
    induction n with
    | zero => intro i1 f_1 H locs ls hi hn; exact absurd hn (by omega)
    | succ n ih17 =>
      intro i1 f_1 H locs ls hi_2 hn_3 hP hD hS hl
      refine lv_iload_n hx hb dX5_choose_17 rfl (lv_at hl 0 rfl) ?_
      refine lv_bipush (v := 12) hx hb dX5_choose_18 (by decide) ?_
      refine lv_icmp_ge (tgt := 62) hx hb dX5_choose_20 (by decide) (fun c_5 => ?_) (fun c_5 => ?_)
      · skip
        have hc_5 := ge_of (i := i1) 12 c_5 rfl (by omega) (by omega)
        refine lv_aload_n hx hb dX5_choose_62 rfl (lv_at hl 1 rfl) ?_
        refine va_get (D := D) (ci := 5) (v := .ref qf) (C := RX5) (T := TX5) (N := 12) hx hb hts (fun w h => List.mem_cons_of_mem _ (inG5 w h)) hown hK hP 0 rfl rfl 6 (by decide) (hts _ (List.mem_cons_of_mem _ gw_100)) (fun _ h9 => h9) rfl dX5_choose_63 ?_
        refine lv_bipush (v := 12) hx hb dX5_choose_66 (by decide) ?_
        refine lv_aload_n hx hb dX5_choose_68 rfl (lv_at hl 1 rfl) ?_
        refine va_get (D := D) (ci := 5) (v := .int 0) (C := RX5) (T := TX5) (N := 12) hx hb hts (fun w h => List.mem_cons_of_mem _ (inG5 w h)) hown hK hP 0 rfl rfl 7 (by decide) (hts _ (List.mem_cons_of_mem _ gw_101)) (fun _ h9 => h9) rfl dX5_choose_69 ?_
        refine va_iast hx hb hK hP hD hS 1 0 rfl rfl (vp_in_nI (n := 12) (N := 13) (by omega) (by omega)) dX5_choose_72 (fun H locs hP hD hS => ?_)
        obtain ⟨f_6, hP, hD⟩ : ∃ f : Nat → Int32, va_P D vwCl [(h0, .inr (5, [t0, .int y1, .int y2, .ref qr, t4, t5, .ref qf, .int 0, t8, t9, t10, .int (y11 + 1)])), (qf, .inl (kf, 13, .inl f)), (qr, .inr (6, fs))] H ∧ va_D A [(h0, .inr (5, [t0, .int y1, .int y2, .ref qr, t4, t5, .ref qf, .int 0, t8, t9, t10, .int (y11 + 1)])), (qf, .inl (kf, 13, .inl f)), (qr, .inr (6, fs))] := ⟨_, hP, hD⟩
        refine lv_aload_n hx hb dX5_choose_73 rfl (lv_at hl 1 rfl) ?_
        refine fr_v (wr := [(qf, .inl (kf, 13, .inl f_6)), (qr, .inr (6, fs))]) (va_runV (As := []) (rest := []) ⟨hx, hb, hml, hown, hts⟩ (c_X5_pick l D H.size h0 t0 qr t4 t5 qf t8 t9 t10 y1 y2 (y11 + 1) ) (cwV 0 hts (gV (fun w h => List.mem_cons_of_mem _ h) gw_110 gw_111 gw_112 gw_113 gw_109) rfl rfl rfl (by decide +kernel) ⟨Nat.le_of_ble_eq_true rfl, Nat.le_of_ble_eq_true rfl⟩) (pw_V [0] [] hP hD hK hN rfl rfl (by decide) rfl (ci := 5) (q0 := 0) rfl rfl) rfl rfl hl.1 rfl (lv_room (Nat.le_of_ble_eq_true rfl)) dX5_choose_74 ⟨Nat.le_of_ble_eq_true rfl, Nat.le_of_ble_eq_true rfl⟩) hP hD hK hS hA [0] [1, 2] rfl rfl (by decide) (by decide) (fun u_7 H locs hw_9 hP hD hK hS => ?_)
        try dsimp only at hw_9
        have hP : va_P D vwCl [(qf, .inl (kf, 13, .inl f_6)), (qr, .inr (6, fs)), (h0, .inr (5, [t0, .int 0, .int 0, .ref qr, t4, t5, .ref qf, .int 0, t8, t9, t10, .int (y11 + 1)]))] H := hP
        have hD : va_D A [(qf, .inl (kf, 13, .inl f_6)), (qr, .inr (6, fs)), (h0, .inr (5, [t0, .int 0, .int 0, .ref qr, t4, t5, .ref qf, .int 0, t8, t9, t10, .int (y11 + 1)]))] := hD
        have hK : va_K D vwCl [(kf, .int)] s := hK
        refine W.widen (k := 0) (n := 0) (Nat.le_of_ble_eq_true rfl) (Nat.le_of_ble_eq_true rfl) ?_
        have hP9 := hP.sub (ws' := [(h0, .inr (5, [t0, .int 0, .int 0, .ref qr, t4, t5, .ref qf, .int 0, t8, t9, t10, .int (y11 + 1)])), (qf, .inl (kf, 13, .inl f_6)), (qr, .inr (6, fs))]) [2, 0, 1] rfl
        have hD9 := hD.sub (ws' := [(h0, .inr (5, [t0, .int 0, .int 0, .ref qr, t4, t5, .ref qf, .int 0, t8, t9, t10, .int (y11 + 1)])), (qf, .inl (kf, 13, .inl f_6)), (qr, .inr (6, fs))]) [2, 0, 1] (by decide) rfl
        have hK9 := hK.sub (tys' := []) [] rfl
        refine W.widen (k := 0) (n := 0) (Nat.le_of_ble_eq_true rfl) (Nat.le_of_ble_eq_true rfl) ?_
        exact W.vret hx hb hr (fun t ht hW => ⟨⟨(f_6, (y11 + 1)), rfl, (by first | trivial | rfl), by rw [ht]; exact hP9, va_K.moved hW.alike hK9, hD9⟩, hS.F ht⟩) hS.2.2 dX5_choose_77
      · skip
        have hc_5 := lt_of (i := i1) 12 c_5 rfl (by omega)
        refine lv_aload_n hx hb dX5_choose_23 rfl (lv_at hl 1 rfl) ?_
        refine va_get (D := D) (ci := 5) (v := .ref qf) (C := RX5) (T := TX5) (N := 12) hx hb hts (fun w h => List.mem_cons_of_mem _ (inG5 w h)) hown hK hP 0 rfl rfl 6 (by decide) (hts _ (List.mem_cons_of_mem _ gw_100)) (fun _ h9 => h9) rfl dX5_choose_24 ?_
        refine lv_iload_n hx hb dX5_choose_27 rfl (lv_at hl 0 rfl) ?_
        refine lv_aload_n hx hb dX5_choose_28 rfl (lv_at hl 1 rfl) ?_
        refine va_get (D := D) (ci := 5) (v := .int 0) (C := RX5) (T := TX5) (N := 12) hx hb hts (fun w h => List.mem_cons_of_mem _ (inG5 w h)) hown hK hP 0 rfl rfl 7 (by decide) (hts _ (List.mem_cons_of_mem _ gw_101)) (fun _ h9 => h9) rfl dX5_choose_29 ?_
        refine va_iast hx hb hK hP hD hS 1 0 rfl rfl (vp_in_nI (n := i1) (N := 13) (by omega) (by omega)) dX5_choose_32 (fun H locs hP hD hS => ?_)
        obtain ⟨f_10, hP, hD⟩ : ∃ f : Nat → Int32, va_P D vwCl [(h0, .inr (5, [t0, .int y1, .int y2, .ref qr, t4, t5, .ref qf, .int 0, t8, t9, t10, .int (y11 + 1)])), (qf, .inl (kf, 13, .inl f)), (qr, .inr (6, fs))] H ∧ va_D A [(h0, .inr (5, [t0, .int y1, .int y2, .ref qr, t4, t5, .ref qf, .int 0, t8, t9, t10, .int (y11 + 1)])), (qf, .inl (kf, 13, .inl f)), (qr, .inr (6, fs))] := ⟨_, hP, hD⟩
        refine lv_aload_n hx hb dX5_choose_33 rfl (lv_at hl 1 rfl) ?_
        refine va_get (D := D) (ci := 5) (v := .ref qr) (C := RX5) (T := TX5) (N := 12) hx hb hts (fun w h => List.mem_cons_of_mem _ (inG5 w h)) hown hK hP 0 rfl rfl 3 (by decide) (hts _ (List.mem_cons_of_mem _ gw_107)) (fun _ h9 => h9) rfl dX5_choose_34 ?_
        refine lv_iconst (v := 1) hx hb dX5_choose_37 (by decide) ?_
        refine lv_iload_n hx hb dX5_choose_38 rfl (lv_at hl 0 rfl) ?_
        refine lv_ishl hx hb dX5_choose_39 ?_
        refine fr_i (wr := [(h0, .inr (5, [t0, .int y1, .int y2, .ref qr, t4, t5, .ref qf, .int 0, t8, t9, t10, .int (y11 + 1)])), (qf, .inl (kf, 13, .inl f_10))]) (va_runV (As := [.int (1 <<< ((nI i1) &&& 31))]) (rest := []) ⟨hx, hb, hml, hown, hts⟩ (c_X6_areAble l D H.size qr (1 <<< ((nI i1) &&& 31)) fs hf6) (cwV 1 hts (gV (fun w h => List.mem_cons_of_mem _ h) gw_114 gw_92 gw_93 gw_94 gw_90) rfl rfl rfl (by decide +kernel) ⟨Nat.le_of_ble_eq_true rfl, Nat.le_of_ble_eq_true rfl⟩) (pw_V [2] [] hP hD hK hN rfl rfl (by decide) rfl (ci := 6) (q0 := 2) rfl rfl) rfl rfl hl.1 rfl (lv_room (Nat.le_of_ble_eq_true rfl)) dX5_choose_40 ⟨Nat.le_of_ble_eq_true rfl, Nat.le_of_ble_eq_true rfl⟩) hP hD hK hS hA [2] [0, 1] rfl rfl (by decide) (by decide) (fun r_12 u_11 H locs hw_13 hP hD hK hS => ?_)
        try dsimp only at hw_13
        have hP : va_P D vwCl [(h0, .inr (5, [t0, .int y1, .int y2, .ref qr, t4, t5, .ref qf, .int 0, t8, t9, t10, .int (y11 + 1)])), (qf, .inl (kf, 13, .inl f_10)), (qr, .inr (6, fs))] H := hP
        have hD : va_D A [(h0, .inr (5, [t0, .int y1, .int y2, .ref qr, t4, t5, .ref qf, .int 0, t8, t9, t10, .int (y11 + 1)])), (qf, .inl (kf, 13, .inl f_10)), (qr, .inr (6, fs))] := hD
        have hK : va_K D vwCl [(kf, .int)] s := hK
        refine W.widen (k := 0) (n := 0) (Nat.le_of_ble_eq_true rfl) (Nat.le_of_ble_eq_true rfl) ?_
        refine tI (y := if (1 <<< ((nI i1) &&& 31)) &&& (-1) = 0 then 1 else 0) hw_13 ?_
        refine lv_if_eq (tgt := 56) hx hb dX5_choose_43 (by decide) (fun c_14 => ?_) (fun c_14 => absurd (able1 i1 (by omega)) c_14)
        refine lv_iinc (v := (nI (i1 + 1))) (lv' := [(1, .int (nI (i1 + 1))), (0, .ref h0)]) hx hb dX5_choose_56 hl (k := 0) rfl (nI_1 _) (by decide) rfl (fun ls hl => ?_)
        refine lv_goto (tgt := 17) hx hb dX5_choose_59 (by decide) ?_
        exact ih17 (i1 + 1) _ _ _ _ (by omega) (by omega) (hP.sub [0, 1, 2] rfl) (hD.sub [0, 1, 2] (by decide) rfl) hS (lv_sub hl [0, 1] rfl)
  exact lp17 (12 + 1) 0 _ _ _ _ (by omega) (by omega) hP hD hS (lv_sub hl [0, 1] rfl)
