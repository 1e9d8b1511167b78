theorem dX1_setNeeds_0 : decode cX1_setNeeds 0 = .ok (.iconst 0, 1) := by decide +kernel
theorem dX1_setNeeds_1 : decode cX1_setNeeds 1 = .ok (.istore_n 1, 1) := by decide +kernel
theorem dX1_setNeeds_2 : decode cX1_setNeeds 2 = .ok (.iload_n 1, 1) := by decide +kernel
theorem dX1_setNeeds_3 : decode cX1_setNeeds 3 = .ok (.bipush 24, 2) := by decide +kernel
theorem dX1_setNeeds_5 : decode cX1_setNeeds 5 = .ok (.if_icmp .ge 143, 3) := by decide +kernel
theorem dX1_setNeeds_148 : decode cX1_setNeeds 148 = .ok (.return_, 1) := by decide +kernel
theorem dX1_setNeeds_8 : decode cX1_setNeeds 8 = .ok (.iconst 0, 1) := by decide +kernel
theorem dX1_setNeeds_9 : decode cX1_setNeeds 9 = .ok (.istore_n 2, 1) := by decide +kernel
theorem dX1_setNeeds_10 : decode cX1_setNeeds 10 = .ok (.iload_n 2, 1) := by decide +kernel
theorem dX1_setNeeds_11 : decode cX1_setNeeds 11 = .ok (.iconst 4, 1) := by decide +kernel
theorem dX1_setNeeds_12 : decode cX1_setNeeds 12 = .ok (.if_icmp .ge 130, 3) := by decide +kernel
theorem dX1_setNeeds_142 : decode cX1_setNeeds 142 = .ok (.iinc 1 1, 3) := by decide +kernel
theorem dX1_setNeeds_145 : decode cX1_setNeeds 145 = .ok (.goto (-143), 3) := by decide +kernel
theorem dX1_setNeeds_15 : decode cX1_setNeeds 15 = .ok (.iload_n 1, 1) := by decide +kernel
theorem dX1_setNeeds_16 : decode cX1_setNeeds 16 = .ok (.iconst 4, 1) := by decide +kernel
theorem dX1_setNeeds_17 : decode cX1_setNeeds 17 = .ok (.imul, 1) := by decide +kernel
theorem dX1_setNeeds_18 : decode cX1_setNeeds 18 = .ok (.iload_n 2, 1) := by decide +kernel
theorem dX1_setNeeds_19 : decode cX1_setNeeds 19 = .ok (.iadd, 1) := by decide +kernel
theorem dX1_setNeeds_20 : decode cX1_setNeeds 20 = .ok (.istore_n 3, 1) := by decide +kernel
theorem dX1_setNeeds_21 : decode cX1_setNeeds 21 = .ok (.aload_n 0, 1) := by decide +kernel
theorem dX1_setNeeds_22 : decode cX1_setNeeds 22 = .ok (.getfield 28, 3) := by decide +kernel
theorem dX1_setNeeds_25 : decode cX1_setNeeds 25 = .ok (.iload_n 3, 1) := by decide +kernel
theorem dX1_setNeeds_26 : decode cX1_setNeeds 26 = .ok (.aload_n 0, 1) := by decide +kernel
theorem dX1_setNeeds_27 : decode cX1_setNeeds 27 = .ok (.getfield 21, 3) := by decide +kernel
theorem dX1_setNeeds_30 : decode cX1_setNeeds 30 = .ok (.iload_n 3, 1) := by decide +kernel
theorem dX1_setNeeds_31 : decode cX1_setNeeds 31 = .ok (.iaload, 1) := by decide +kernel
theorem dX1_setNeeds_32 : decode cX1_setNeeds 32 = .ok (.iastore, 1) := by decide +kernel
theorem dX1_setNeeds_33 : decode cX1_setNeeds 33 = .ok (.aload_n 0, 1) := by decide +kernel
theorem dX1_setNeeds_34 : decode cX1_setNeeds 34 = .ok (.getfield 31, 3) := by decide +kernel
theorem dX1_setNeeds_37 : decode cX1_setNeeds 37 = .ok (.iload_n 3, 1) := by decide +kernel
theorem dX1_setNeeds_38 : decode cX1_setNeeds 38 = .ok (.aload_n 0, 1) := by decide +kernel
theorem dX1_setNeeds_39 : decode cX1_setNeeds 39 = .ok (.getfield 25, 3) := by decide +kernel
theorem dX1_setNeeds_42 : decode cX1_setNeeds 42 = .ok (.iload_n 3, 1) := by decide +kernel
theorem dX1_setNeeds_43 : decode cX1_setNeeds 43 = .ok (.iaload, 1) := by decide +kernel
theorem dX1_setNeeds_44 : decode cX1_setNeeds 44 = .ok (.iastore, 1) := by decide +kernel
theorem dX1_setNeeds_45 : decode cX1_setNeeds 45 = .ok (.iconst 0, 1) := by decide +kernel
theorem dX1_setNeeds_46 : decode cX1_setNeeds 46 = .ok (.istore 4, 2) := by decide +kernel
theorem dX1_setNeeds_48 : decode cX1_setNeeds 48 = .ok (.iload 4, 2) := by decide +kernel
theorem dX1_setNeeds_50 : decode cX1_setNeeds 50 = .ok (.iconst 4, 1) := by decide +kernel
theorem dX1_setNeeds_51 : decode cX1_setNeeds 51 = .ok (.if_icmp .ge 85, 3) := by decide +kernel
theorem dX1_setNeeds_136 : decode cX1_setNeeds 136 = .ok (.iinc 2 1, 3) := by decide +kernel
theorem dX1_setNeeds_139 : decode cX1_setNeeds 139 = .ok (.goto (-129), 3) := by decide +kernel
theorem dX1_setNeeds_54 : decode cX1_setNeeds 54 = .ok (.iload_n 1, 1) := by decide +kernel
theorem dX1_setNeeds_55 : decode cX1_setNeeds 55 = .ok (.iconst 4, 1) := by decide +kernel
theorem dX1_setNeeds_56 : decode cX1_setNeeds 56 = .ok (.imul, 1) := by decide +kernel
theorem dX1_setNeeds_57 : decode cX1_setNeeds 57 = .ok (.iload 4, 2) := by decide +kernel
theorem dX1_setNeeds_59 : decode cX1_setNeeds 59 = .ok (.iadd, 1) := by decide +kernel
theorem dX1_setNeeds_60 : decode cX1_setNeeds 60 = .ok (.istore 5, 2) := by decide +kernel
theorem dX1_setNeeds_62 : decode cX1_setNeeds 62 = .ok (.aload_n 0, 1) := by decide +kernel
theorem dX1_setNeeds_63 : decode cX1_setNeeds 63 = .ok (.getfield 28, 3) := by decide +kernel
theorem dX1_setNeeds_66 : decode cX1_setNeeds 66 = .ok (.iload_n 3, 1) := by decide +kernel
theorem dX1_setNeeds_67 : decode cX1_setNeeds 67 = .ok (.aload_n 0, 1) := by decide +kernel
theorem dX1_setNeeds_68 : decode cX1_setNeeds 68 = .ok (.getfield 28, 3) := by decide +kernel
theorem dX1_setNeeds_71 : decode cX1_setNeeds 71 = .ok (.iload_n 3, 1) := by decide +kernel
theorem dX1_setNeeds_72 : decode cX1_setNeeds 72 = .ok (.iaload, 1) := by decide +kernel
theorem dX1_setNeeds_73 : decode cX1_setNeeds 73 = .ok (.aload_n 0, 1) := by decide +kernel
theorem dX1_setNeeds_74 : decode cX1_setNeeds 74 = .ok (.getfield 21, 3) := by decide +kernel
theorem dX1_setNeeds_77 : decode cX1_setNeeds 77 = .ok (.iload 5, 2) := by decide +kernel
theorem dX1_setNeeds_79 : decode cX1_setNeeds 79 = .ok (.iaload, 1) := by decide +kernel
theorem dX1_setNeeds_80 : decode cX1_setNeeds 80 = .ok (.aload_n 0, 1) := by decide +kernel
theorem dX1_setNeeds_81 : decode cX1_setNeeds 81 = .ok (.getfield 34, 3) := by decide +kernel
theorem dX1_setNeeds_84 : decode cX1_setNeeds 84 = .ok (.iload_n 2, 1) := by decide +kernel
theorem dX1_setNeeds_85 : decode cX1_setNeeds 85 = .ok (.iconst 4, 1) := by decide +kernel
theorem dX1_setNeeds_86 : decode cX1_setNeeds 86 = .ok (.imul, 1) := by decide +kernel
theorem dX1_setNeeds_87 : decode cX1_setNeeds 87 = .ok (.iload 4, 2) := by decide +kernel
theorem dX1_setNeeds_89 : decode cX1_setNeeds 89 = .ok (.iadd, 1) := by decide +kernel
theorem dX1_setNeeds_90 : decode cX1_setNeeds 90 = .ok (.iaload, 1) := by decide +kernel
theorem dX1_setNeeds_91 : decode cX1_setNeeds 91 = .ok (.isub, 1) := by decide +kernel
theorem dX1_setNeeds_92 : decode cX1_setNeeds 92 = .ok (.invokestatic 94, 3) := by decide +kernel
theorem dX1_setNeeds_95 : decode cX1_setNeeds 95 = .ok (.iastore, 1) := by decide +kernel
theorem dX1_setNeeds_96 : decode cX1_setNeeds 96 = .ok (.aload_n 0, 1) := by decide +kernel
theorem dX1_setNeeds_97 : decode cX1_setNeeds 97 = .ok (.getfield 31, 3) := by decide +kernel
theorem dX1_setNeeds_100 : decode cX1_setNeeds 100 = .ok (.iload_n 3, 1) := by decide +kernel
theorem dX1_setNeeds_101 : decode cX1_setNeeds 101 = .ok (.aload_n 0, 1) := by decide +kernel
theorem dX1_setNeeds_102 : decode cX1_setNeeds 102 = .ok (.getfield 31, 3) := by decide +kernel
theorem dX1_setNeeds_105 : decode cX1_setNeeds 105 = .ok (.iload_n 3, 1) := by decide +kernel
theorem dX1_setNeeds_106 : decode cX1_setNeeds 106 = .ok (.iaload, 1) := by decide +kernel
theorem dX1_setNeeds_107 : decode cX1_setNeeds 107 = .ok (.aload_n 0, 1) := by decide +kernel
theorem dX1_setNeeds_108 : decode cX1_setNeeds 108 = .ok (.getfield 25, 3) := by decide +kernel
theorem dX1_setNeeds_111 : decode cX1_setNeeds 111 = .ok (.iload 5, 2) := by decide +kernel
theorem dX1_setNeeds_113 : decode cX1_setNeeds 113 = .ok (.iaload, 1) := by decide +kernel
theorem dX1_setNeeds_114 : decode cX1_setNeeds 114 = .ok (.aload_n 0, 1) := by decide +kernel
theorem dX1_setNeeds_115 : decode cX1_setNeeds 115 = .ok (.getfield 34, 3) := by decide +kernel
theorem dX1_setNeeds_118 : decode cX1_setNeeds 118 = .ok (.iload 4, 2) := by decide +kernel
theorem dX1_setNeeds_120 : decode cX1_setNeeds 120 = .ok (.iconst 4, 1) := by decide +kernel
theorem dX1_setNeeds_121 : decode cX1_setNeeds 121 = .ok (.imul, 1) := by decide +kernel
theorem dX1_setNeeds_122 : decode cX1_setNeeds 122 = .ok (.iload_n 2, 1) := by decide +kernel
theorem dX1_setNeeds_123 : decode cX1_setNeeds 123 = .ok (.iadd, 1) := by decide +kernel
theorem dX1_setNeeds_124 : decode cX1_setNeeds 124 = .ok (.iaload, 1) := by decide +kernel
theorem dX1_setNeeds_125 : decode cX1_setNeeds 125 = .ok (.iadd, 1) := by decide +kernel
theorem dX1_setNeeds_126 : decode cX1_setNeeds 126 = .ok (.invokestatic 55, 3) := by decide +kernel
theorem dX1_setNeeds_129 : decode cX1_setNeeds 129 = .ok (.iastore, 1) := by decide +kernel
theorem dX1_setNeeds_130 : decode cX1_setNeeds 130 = .ok (.iinc 4 1, 3) := by decide +kernel
theorem dX1_setNeeds_133 : decode cX1_setNeeds 133 = .ok (.goto (-85), 3) := by decide +kernel
theorem dX1_settle_0 : decode cX1_settle 0 = .ok (.aload_n 0, 1) := by decide +kernel
theorem dX1_settle_1 : decode cX1_settle 1 = .ok (.invokevirtual 60, 3) := by decide +kernel
theorem dX1_settle_4 : decode cX1_settle 4 = .ok (.iconst 0, 1) := by decide +kernel
theorem dX1_settle_5 : decode cX1_settle 5 = .ok (.istore_n 1, 1) := by decide +kernel
theorem dX1_settle_6 : decode cX1_settle 6 = .ok (.iload_n 1, 1) := by decide +kernel
theorem dX1_settle_7 : decode cX1_settle 7 = .ok (.aload_n 0, 1) := by decide +kernel
theorem dX1_settle_8 : decode cX1_settle 8 = .ok (.getfield 9, 3) := by decide +kernel
theorem dX1_settle_11 : decode cX1_settle 11 = .ok (.if_icmp .ge 31, 3) := by decide +kernel
theorem dX1_settle_42 : decode cX1_settle 42 = .ok (.aload_n 0, 1) := by decide +kernel
theorem dX1_settle_43 : decode cX1_settle 43 = .ok (.invokevirtual 67, 3) := by decide +kernel
theorem dX1_settle_46 : decode cX1_settle 46 = .ok (.iconst 0, 1) := by decide +kernel
theorem dX1_settle_47 : decode cX1_settle 47 = .ok (.istore_n 1, 1) := by decide +kernel
theorem dX1_settle_48 : decode cX1_settle 48 = .ok (.iload_n 1, 1) := by decide +kernel
theorem dX1_settle_49 : decode cX1_settle 49 = .ok (.iconst 4, 1) := by decide +kernel
theorem dX1_settle_50 : decode cX1_settle 50 = .ok (.if_icmp .ge 24, 3) := by decide +kernel
theorem dX1_settle_74 : decode cX1_settle 74 = .ok (.aload_n 0, 1) := by decide +kernel
theorem dX1_settle_75 : decode cX1_settle 75 = .ok (.invokevirtual 70, 3) := by decide +kernel
theorem dX1_settle_78 : decode cX1_settle 78 = .ok (.iconst 1, 1) := by decide +kernel
theorem dX1_settle_79 : decode cX1_settle 79 = .ok (.ireturn, 1) := by decide +kernel
theorem dX1_settle_53 : decode cX1_settle 53 = .ok (.aload_n 0, 1) := by decide +kernel
theorem dX1_settle_54 : decode cX1_settle 54 = .ok (.getfield 34, 3) := by decide +kernel
theorem dX1_settle_57 : decode cX1_settle 57 = .ok (.iload_n 1, 1) := by decide +kernel
theorem dX1_settle_58 : decode cX1_settle 58 = .ok (.iconst 4, 1) := by decide +kernel
theorem dX1_settle_59 : decode cX1_settle 59 = .ok (.imul, 1) := by decide +kernel
theorem dX1_settle_60 : decode cX1_settle 60 = .ok (.iload_n 1, 1) := by decide +kernel
theorem dX1_settle_61 : decode cX1_settle 61 = .ok (.iadd, 1) := by decide +kernel
theorem dX1_settle_62 : decode cX1_settle 62 = .ok (.iaload, 1) := by decide +kernel
theorem dX1_settle_63 : decode cX1_settle 63 = .ok (.ifCond .ge 5, 3) := by decide +kernel
theorem dX1_settle_68 : decode cX1_settle 68 = .ok (.iinc 1 1, 3) := by decide +kernel
theorem dX1_settle_71 : decode cX1_settle 71 = .ok (.goto (-23), 3) := by decide +kernel
theorem dX1_settle_66 : decode cX1_settle 66 = .ok (.iconst 0, 1) := by decide +kernel
theorem dX1_settle_67 : decode cX1_settle 67 = .ok (.ireturn, 1) := by decide +kernel
theorem dX1_init_0 : decode cX1_init 0 = .ok (.aload_n 0, 1) := by decide +kernel
theorem dX1_init_1 : decode cX1_init 1 = .ok (.invokespecial 3, 3) := by decide +kernel
theorem dX1_init_4 : decode cX1_init 4 = .ok (.aload_n 0, 1) := by decide +kernel
theorem dX1_init_5 : decode cX1_init 5 = .ok (.iconst 0, 1) := by decide +kernel
theorem dX1_init_6 : decode cX1_init 6 = .ok (.putfield 9, 3) := by decide +kernel
theorem dX1_init_9 : decode cX1_init 9 = .ok (.aload_n 0, 1) := by decide +kernel
theorem dX1_init_10 : decode cX1_init 10 = .ok (.bipush 100, 2) := by decide +kernel
theorem dX1_init_12 : decode cX1_init 12 = .ok (.anewarray 15, 3) := by decide +kernel
theorem dX1_init_15 : decode cX1_init 15 = .ok (.putfield 17, 3) := by decide +kernel
theorem dX1_init_18 : decode cX1_init 18 = .ok (.aload_n 0, 1) := by decide +kernel
theorem dX1_init_19 : decode cX1_init 19 = .ok (.bipush 96, 2) := by decide +kernel
theorem dX1_init_21 : decode cX1_init 21 = .ok (.newarray .int, 2) := by decide +kernel
theorem dX1_init_23 : decode cX1_init 23 = .ok (.putfield 21, 3) := by decide +kernel
theorem dX1_init_26 : decode cX1_init 26 = .ok (.aload_n 0, 1) := by decide +kernel
theorem dX1_init_27 : decode cX1_init 27 = .ok (.bipush 96, 2) := by decide +kernel
theorem dX1_init_29 : decode cX1_init 29 = .ok (.newarray .int, 2) := by decide +kernel
theorem dX1_init_31 : decode cX1_init 31 = .ok (.putfield 25, 3) := by decide +kernel
theorem dX1_init_34 : decode cX1_init 34 = .ok (.aload_n 0, 1) := by decide +kernel
theorem dX1_init_35 : decode cX1_init 35 = .ok (.bipush 96, 2) := by decide +kernel
theorem dX1_init_37 : decode cX1_init 37 = .ok (.newarray .int, 2) := by decide +kernel
theorem dX1_init_39 : decode cX1_init 39 = .ok (.putfield 28, 3) := by decide +kernel
theorem dX1_init_42 : decode cX1_init 42 = .ok (.aload_n 0, 1) := by decide +kernel
theorem dX1_init_43 : decode cX1_init 43 = .ok (.bipush 96, 2) := by decide +kernel
theorem dX1_init_45 : decode cX1_init 45 = .ok (.newarray .int, 2) := by decide +kernel
theorem dX1_init_47 : decode cX1_init 47 = .ok (.putfield 31, 3) := by decide +kernel
theorem dX1_init_50 : decode cX1_init 50 = .ok (.aload_n 0, 1) := by decide +kernel
theorem dX1_init_51 : decode cX1_init 51 = .ok (.bipush 16, 2) := by decide +kernel
theorem dX1_init_53 : decode cX1_init 53 = .ok (.newarray .int, 2) := by decide +kernel
theorem dX1_init_55 : decode cX1_init 55 = .ok (.putfield 34, 3) := by decide +kernel
theorem dX1_init_58 : decode cX1_init 58 = .ok (.aload_n 0, 1) := by decide +kernel
theorem dX1_init_59 : decode cX1_init 59 = .ok (.invokevirtual 37, 3) := by decide +kernel
theorem dX1_init_62 : decode cX1_init 62 = .ok (.pop, 1) := by decide +kernel
theorem dX1_init_63 : decode cX1_init 63 = .ok (.return_, 1) := by decide +kernel
set_option maxHeartbeats 4000000 in
set_option maxRecDepth 100000 in
theorem c_X1_setNeeds (l : Launch) (D : va_G) (sz : Nat) (h0 : Nat) (fs : List Value) (ql : Nat) (qh : Nat) (qe : Nat) (qg : Nat) (qp : Nat) (kl : ClassId) (kh : ClassId) (ke : ClassId) (kg : ClassId) (kp : ClassId) (fl : Nat → Int32) (fh : Nat → Int32) (fe : Nat → Int32) (fg : Nat → Int32) (fp : Nat → Int32) (hf2 : fs[2]? = some (.ref ql)) (hf3 : fs[3]? = some (.ref qh)) (hf4 : fs[4]? = some (.ref qe)) (hf5 : fs[5]? = some (.ref qg)) (hf6 : fs[6]? = some (.ref qp)) : Met l yX1_setNeeds (.code yX1_setNeeds cX1_setNeeds 6 none :: G) ({ frames := 2, cells := 0, slots := 0, locals := 60 }) (va_Pc [.ref h0] (pw D sz [(h0, .inr (1, fs)), (ql, .inl (kl, 96, .inl fl)), (qh, .inl (kh, 96, .inl fh)), (qe, .inl (ke, 96, .inl fe)), (qg, .inl (kg, 96, .inl fg)), (qp, .inl (kp, 16, .inl fp))] [(kl, .int), (kh, .int), (ke, .int), (kg, .int), (kp, .int)])) (va_Qv (fun (u : (Nat → Int32) × (Nat → Int32) × (Nat → Int32) × (Nat → Int32) × (Nat → Int32)) => True) (fun (u : (Nat → Int32) × (Nat → Int32) × (Nat → Int32) × (Nat → Int32) × (Nat → Int32)) => qw D (va_A [(h0, .inr (1, fs)), (ql, .inl (kl, 96, .inl fl)), (qh, .inl (kh, 96, .inl fh)), (qe, .inl (ke, 96, .inl fe)), (qg, .inl (kg, 96, .inl fg)), (qp, .inl (kp, 16, .inl fp))] sz) [(h0, .inr (1, fs)), (ql, .inl (kl, 96, .inl u.1)), (qh, .inl (kh, 96, .inl u.2.1)), (qe, .inl (ke, 96, .inl u.2.2.1)), (qg, .inl (kg, 96, .inl u.2.2.2.1)), (qp, .inl (kp, 16, .inl u.2.2.2.2))] []) (va_A [(h0, .inr (1, fs)), (ql, .inl (kl, 96, .inl fl)), (qh, .inl (kh, 96, .inl fh)), (qe, .inl (ke, 96, .inl fe)), (qg, .inl (kg, 96, .inl fg)), (qp, .inl (kp, 16, .inl fp))] sz)) 0 0 (va_A [(h0, .inr (1, fs)), (ql, .inl (kl, 96, .inl fl)), (qh, .inl (kh, 96, .inl fh)), (qe, .inl (ke, 96, .inl fe)), (qg, .inl (kg, 96, .inl fg)), (qp, .inl (kp, 16, .inl fp))] sz) := by
  refine Met.ofW (cc := cX1_setNeeds) (maxL := 6) (ret := none) (by decide) rfl ?_
  intro p e s m args below meth c s₁ B hml hv
  obtain ⟨rfl, hsz, hP, hK, hD0, hN⟩ := hv
  have hx := B.exec
  have hb := B.bytes
  have hr := B.returns
  have hts := atoms_spec (ws := (.code yX1_setNeeds cX1_setNeeds 6 none :: G)) B.pre
  have hown : s.vm.findClass RX1 = some m.cls := findClass_of_methodNamed B.named
  have hlocks := B.notSynchronized
  subst hsz
  have hD := hD0.self (sz := s.heap.size)
  generalize hAe : va_A [(h0, .inr (1, fs)), (ql, .inl (kl, 96, .inl fl)), (qh, .inl (kh, 96, .inl fh)), (qe, .inl (ke, 96, .inl fe)), (qg, .inl (kg, 96, .inl fg)), (qp, .inl (kp, 16, .inl fp))] s.heap.size = A at hD ⊢
  have hA : ∀ q : Nat, s.heap.size ≤ q → A q := fun q h => by rw [← hAe]; exact Or.inr h
  have hS : va_S A s.heap s.heap [] := va_S.rf
  have hP : va_P D vwCl [(h0, .inr (1, fs)), (ql, .inl (kl, 96, .inl fl)), (qh, .inl (kh, 96, .inl fh)), (qe, .inl (ke, 96, .inl fe)), (qg, .inl (kg, 96, .inl fg)), (qp, .inl (kp, 16, .inl fp))] s.heap := hP
  have hl := lv_entry ([.ref h0]) (n := 6) (Nat.le_of_ble_eq_true rfl)
  rw [lg_entry_eq]
  generalize (lg_sl ([.ref h0]) ++ List.replicate (6 - (lg_sl ([.ref h0])).length) Slot.unset).toArray = ls at hl ⊢
  have hl : lv_has ls 6 [(0, .ref h0)] := hl
  refine lv_iconst (v := 0) hx hb dX1_setNeeds_0 (by decide) ?_
  refine lv_istore_n (lv' := [(1, .int 0), (0, .ref h0)]) hx hb dX1_setNeeds_1 rfl hl (by decide) rfl (fun ls hl => ?_)
  have lp2 : ∀ (n i1 : Nat) (f_1 : Nat → Int32) (f_2 : Nat → Int32) (f_3 : Nat → Int32) (f_4 : Nat → Int32) (f_5 : Nat → Int32) (H : Heap) (locs : List Loc) (ls : Array Slot), i1 ≤ 24 → 24 < i1 + n → va_P D vwCl [(h0, .inr (1, fs)), (ql, .inl (kl, 96, .inl f_1)), (qh, .inl (kh, 96, .inl f_2)), (qe, .inl (ke, 96, .inl f_3)), (qg, .inl (kg, 96, .inl f_4)), (qp, .inl (kp, 16, .inl f_5))] H → va_D A [(h0, .inr (1, fs)), (ql, .inl (kl, 96, .inl f_1)), (qh, .inl (kh, 96, .inl f_2)), (qe, .inl (ke, 96, .inl f_3)), (qg, .inl (kg, 96, .inl f_4)), (qp, .inl (kp, 16, .inl f_5))] → va_S A s.heap H locs → lv_has ls 6 [(1, .int (nI i1)), (0, .ref h0)] → W p l e ({ frames := 2, cells := 0, slots := 0, locals := 60 } : Room) s m (([.ref h0] : List Value).toArray) below meth c H locs 0 0 (MQ below (va_Qv (fun (u : (Nat → Int32) × (Nat → Int32) × (Nat → Int32) × (Nat → Int32) × (Nat → Int32)) => True) (fun (u : (Nat → Int32) × (Nat → Int32) × (Nat → Int32) × (Nat → Int32) × (Nat → Int32)) => qw D A [(h0, .inr (1, fs)), (ql, .inl (kl, 96, .inl u.1)), (qh, .inl (kh, 96, .inl u.2.1)), (qe, .inl (ke, 96, .inl u.2.2.1)), (qg, .inl (kg, 96, .inl u.2.2.2.1)), (qp, .inl (kp, 16, .inl u.2.2.2.2))] []) A) (([.ref h0] : List Value).toArray) s 0 0 A) (F0 m 2 ls []) := by
    intro n
    induction n with
    | zero => intro i1 f_1 f_2 f_3 f_4 f_5 H locs ls hi hn; exact absurd hn (by omega)
    | succ n ih2 =>
      intro i1 f_1 f_2 f_3 f_4 f_5 H locs ls hi_6 hn_7 hP hD hS hl
      refine lv_iload_n hx hb dX1_setNeeds_2 rfl (lv_at hl 0 rfl) ?_
      refine lv_bipush (v := 24) hx hb dX1_setNeeds_3 (by decide) ?_
      refine lv_icmp_ge (tgt := 148) hx hb dX1_setNeeds_5 (by decide) (fun c_9 => ?_) (fun c_9 => ?_)
      · skip
        have hc_9 := ge_of (i := i1) 24 c_9 rfl (by omega) (by omega)
        have hP9 := hP.sub (ws' := [(h0, .inr (1, fs)), (ql, .inl (kl, 96, .inl f_1)), (qh, .inl (kh, 96, .inl f_2)), (qe, .inl (ke, 96, .inl f_3)), (qg, .inl (kg, 96, .inl f_4)), (qp, .inl (kp, 16, .inl f_5))]) [0, 1, 2, 3, 4, 5] rfl
        have hD9 := hD.sub (ws' := [(h0, .inr (1, fs)), (ql, .inl (kl, 96, .inl f_1)), (qh, .inl (kh, 96, .inl f_2)), (qe, .inl (ke, 96, .inl f_3)), (qg, .inl (kg, 96, .inl f_4)), (qp, .inl (kp, 16, .inl f_5))]) [0, 1, 2, 3, 4, 5] (by decide) rfl
        have hK9 := hK.sub (tys' := []) [] rfl
        refine W.widen (k := 0) (n := 0) (Nat.le_of_ble_eq_true rfl) (Nat.le_of_ble_eq_true rfl) ?_
        exact W.vret hx hb hr (fun t ht hW => ⟨⟨(f_1, f_2, f_3, f_4, f_5), rfl, (by first | trivial | rfl), by rw [ht]; exact hP9, va_K.moved hW.alike hK9, hD9⟩, hS.F ht⟩) hS.2.2 dX1_setNeeds_148
      · skip
        have hc_9 := lt_of (i := i1) 24 c_9 rfl (by omega)
        refine lv_iconst (v := 0) hx hb dX1_setNeeds_8 (by decide) ?_
        refine lv_istore_n (lv' := [(2, .int 0), (1, .int (nI i1)), (0, .ref h0)]) hx hb dX1_setNeeds_9 rfl hl (by decide) rfl (fun ls hl => ?_)
        have lp10 : ∀ (n i2 : Nat) (f_10 : Nat → Int32) (f_11 : Nat → Int32) (f_12 : Nat → Int32) (f_13 : Nat → Int32) (f_14 : Nat → Int32) (H : Heap) (locs : List Loc) (ls : Array Slot), i2 ≤ 4 → 4 < i2 + n → va_P D vwCl [(h0, .inr (1, fs)), (ql, .inl (kl, 96, .inl f_10)), (qh, .inl (kh, 96, .inl f_11)), (qe, .inl (ke, 96, .inl f_12)), (qg, .inl (kg, 96, .inl f_13)), (qp, .inl (kp, 16, .inl f_14))] H → va_D A [(h0, .inr (1, fs)), (ql, .inl (kl, 96, .inl f_10)), (qh, .inl (kh, 96, .inl f_11)), (qe, .inl (ke, 96, .inl f_12)), (qg, .inl (kg, 96, .inl f_13)), (qp, .inl (kp, 16, .inl f_14))] → va_S A s.heap H locs → lv_has ls 6 [(2, .int (nI i2)), (1, .int (nI i1)), (0, .ref h0)] → W p l e ({ frames := 2, cells := 0, slots := 0, locals := 60 } : Room) s m (([.ref h0] : List Value).toArray) below meth c H locs 0 0 (MQ below (va_Qv (fun (u : (Nat → Int32) × (Nat → Int32) × (Nat → Int32) × (Nat → Int32) × (Nat → Int32)) => True) (fun (u : (Nat → Int32) × (Nat → Int32) × (Nat → Int32) × (Nat → Int32) × (Nat → Int32)) => qw D A [(h0, .inr (1, fs)), (ql, .inl (kl, 96, .inl u.1)), (qh, .inl (kh, 96, .inl u.2.1)), (qe, .inl (ke, 96, .inl u.2.2.1)), (qg, .inl (kg, 96, .inl u.2.2.2.1)), (qp, .inl (kp, 16, .inl u.2.2.2.2))] []) A) (([.ref h0] : List Value).toArray) s 0 0 A) (F0 m 10 ls []) := by
          intro n
          induction n with
          | zero => intro i2 f_10 f_11 f_12 f_13 f_14 H locs ls hi hn; exact absurd hn (by omega)
          | succ n ih10 =>
            intro i2 f_10 f_11 f_12 f_13 f_14 H locs ls hi_15 hn_16 hP hD hS hl
            refine lv_iload_n hx hb dX1_setNeeds_10 rfl (lv_at hl 0 rfl) ?_
            refine lv_iconst (v := 4) hx hb dX1_setNeeds_11 (by decide) ?_
            refine lv_icmp_ge (tgt := 142) hx hb dX1_setNeeds_12 (by decide) (fun c_18 => ?_) (fun c_18 => ?_)
            · skip
              have hc_18 := ge_of (i := i2) 4 c_18 rfl (by omega) (by omega)
              refine lv_iinc (v := (nI (i1 + 1))) (lv' := [(1, .int (nI (i1 + 1))), (2, .int (nI i2)), (0, .ref h0)]) hx hb dX1_setNeeds_142 hl (k := 1) rfl (nI_1 _) (by decide) rfl (fun ls hl => ?_)
              refine lv_goto (tgt := 2) hx hb dX1_setNeeds_145 (by decide) ?_
              exact ih2 (i1 + 1) _ _ _ _ _ _ _ _ (by omega) (by omega) (hP.sub [0, 1, 2, 3, 4, 5] rfl) (hD.sub [0, 1, 2, 3, 4, 5] (by decide) rfl) hS (lv_sub hl [0, 2] rfl)
            · skip
              have hc_18 := lt_of (i := i2) 4 c_18 rfl (by omega)
              refine lv_iload_n hx hb dX1_setNeeds_15 rfl (lv_at hl 1 rfl) ?_
              refine lv_iconst (v := 4) hx hb dX1_setNeeds_16 (by decide) ?_
              refine lv_imul hx hb dX1_setNeeds_17 ?_
              refine tI (y := nI (i1 * 4)) (pk_mul i1 4) ?_
              refine lv_iload_n hx hb dX1_setNeeds_18 rfl (lv_at hl 0 rfl) ?_
              refine lv_iadd hx hb dX1_setNeeds_19 ?_
              refine tI (y := nI ((i1 * 4) + i2)) (nI_add (i1 * 4) i2) ?_
              refine lv_istore_n (lv' := [(3, .int (nI ((i1 * 4) + i2))), (2, .int (nI i2)), (1, .int (nI i1)), (0, .ref h0)]) hx hb dX1_setNeeds_20 rfl hl (by decide) rfl (fun ls hl => ?_)
              refine lv_aload_n hx hb dX1_setNeeds_21 rfl (lv_at hl 3 rfl) ?_
              refine va_get (D := D) (ci := 1) (v := .ref qe) (C := RX1) (T := TX1) (N := 7) hx hb hts (fun w h => List.mem_cons_of_mem _ (inG1 w h)) hown hK hP 0 rfl rfl 4 (by decide) (hts _ (List.mem_cons_of_mem _ gw_66)) (fun _ h9 => h9) hf4 dX1_setNeeds_22 ?_
              refine lv_iload_n hx hb dX1_setNeeds_25 rfl (lv_at hl 0 rfl) ?_
              refine lv_aload_n hx hb dX1_setNeeds_26 rfl (lv_at hl 3 rfl) ?_
              refine va_get (D := D) (ci := 1) (v := .ref ql) (C := RX1) (T := TX1) (N := 7) hx hb hts (fun w h => List.mem_cons_of_mem _ (inG1 w h)) hown hK hP 0 rfl rfl 2 (by decide) (hts _ (List.mem_cons_of_mem _ gw_54)) (fun _ h9 => h9) hf2 dX1_setNeeds_27 ?_
              refine lv_iload_n hx hb dX1_setNeeds_30 rfl (lv_at hl 0 rfl) ?_
              refine va_iald hx hb hK hP 1 0 rfl rfl (vp_in_nI (n := (i1 * 4) + i2) (N := 96) (by omega) (by omega)) dX1_setNeeds_31 ?_
              refine tF (fun v_19 => ?_)
              refine va_iast hx hb hK hP hD hS 3 2 rfl rfl (vp_in_nI (n := (i1 * 4) + i2) (N := 96) (by omega) (by omega)) dX1_setNeeds_32 (fun H locs hP hD hS => ?_)
              obtain ⟨f_20, hP, hD⟩ : ∃ f : Nat → Int32, va_P D vwCl [(h0, .inr (1, fs)), (ql, .inl (kl, 96, .inl f_10)), (qh, .inl (kh, 96, .inl f_11)), (qe, .inl (ke, 96, .inl f)), (qg, .inl (kg, 96, .inl f_13)), (qp, .inl (kp, 16, .inl f_14))] H ∧ va_D A [(h0, .inr (1, fs)), (ql, .inl (kl, 96, .inl f_10)), (qh, .inl (kh, 96, .inl f_11)), (qe, .inl (ke, 96, .inl f)), (qg, .inl (kg, 96, .inl f_13)), (qp, .inl (kp, 16, .inl f_14))] := ⟨_, hP, hD⟩
              refine lv_aload_n hx hb dX1_setNeeds_33 rfl (lv_at hl 3 rfl) ?_
              refine va_get (D := D) (ci := 1) (v := .ref qg) (C := RX1) (T := TX1) (N := 7) hx hb hts (fun w h => List.mem_cons_of_mem _ (inG1 w h)) hown hK hP 0 rfl rfl 5 (by decide) (hts _ (List.mem_cons_of_mem _ gw_67)) (fun _ h9 => h9) hf5 dX1_setNeeds_34 ?_
              refine lv_iload_n hx hb dX1_setNeeds_37 rfl (lv_at hl 0 rfl) ?_
              refine lv_aload_n hx hb dX1_setNeeds_38 rfl (lv_at hl 3 rfl) ?_
              refine va_get (D := D) (ci := 1) (v := .ref qh) (C := RX1) (T := TX1) (N := 7) hx hb hts (fun w h => List.mem_cons_of_mem _ (inG1 w h)) hown hK hP 0 rfl rfl 3 (by decide) (hts _ (List.mem_cons_of_mem _ gw_55)) (fun _ h9 => h9) hf3 dX1_setNeeds_39 ?_
              refine lv_iload_n hx hb dX1_setNeeds_42 rfl (lv_at hl 0 rfl) ?_
              refine va_iald hx hb hK hP 2 1 rfl rfl (vp_in_nI (n := (i1 * 4) + i2) (N := 96) (by omega) (by omega)) dX1_setNeeds_43 ?_
              refine tF (fun v_21 => ?_)
              refine va_iast hx hb hK hP hD hS 4 3 rfl rfl (vp_in_nI (n := (i1 * 4) + i2) (N := 96) (by omega) (by omega)) dX1_setNeeds_44 (fun H locs hP hD hS => ?_)
              obtain ⟨f_22, hP, hD⟩ : ∃ f : Nat → Int32, va_P D vwCl [(h0, .inr (1, fs)), (ql, .inl (kl, 96, .inl f_10)), (qh, .inl (kh, 96, .inl f_11)), (qe, .inl (ke, 96, .inl f_20)), (qg, .inl (kg, 96, .inl f)), (qp, .inl (kp, 16, .inl f_14))] H ∧ va_D A [(h0, .inr (1, fs)), (ql, .inl (kl, 96, .inl f_10)), (qh, .inl (kh, 96, .inl f_11)), (qe, .inl (ke, 96, .inl f_20)), (qg, .inl (kg, 96, .inl f)), (qp, .inl (kp, 16, .inl f_14))] := ⟨_, hP, hD⟩
              refine lv_iconst (v := 0) hx hb dX1_setNeeds_45 (by decide) ?_
              refine lv_istore (lv' := [(4, .int 0), (3, .int (nI ((i1 * 4) + i2))), (2, .int (nI i2)), (1, .int (nI i1)), (0, .ref h0)]) hx hb dX1_setNeeds_46 hl (by decide) rfl (fun ls hl => ?_)
              have lp48 : ∀ (n i4 : Nat) (f_23 : Nat → Int32) (f_24 : Nat → Int32) (f_25 : Nat → Int32) (f_26 : Nat → Int32) (f_27 : Nat → Int32) (H : Heap) (locs : List Loc) (ls : Array Slot), i4 ≤ 4 → 4 < i4 + n → va_P D vwCl [(h0, .inr (1, fs)), (ql, .inl (kl, 96, .inl f_23)), (qh, .inl (kh, 96, .inl f_24)), (qe, .inl (ke, 96, .inl f_25)), (qg, .inl (kg, 96, .inl f_26)), (qp, .inl (kp, 16, .inl f_27))] H → va_D A [(h0, .inr (1, fs)), (ql, .inl (kl, 96, .inl f_23)), (qh, .inl (kh, 96, .inl f_24)), (qe, .inl (ke, 96, .inl f_25)), (qg, .inl (kg, 96, .inl f_26)), (qp, .inl (kp, 16, .inl f_27))] → va_S A s.heap H locs → lv_has ls 6 [(4, .int (nI i4)), (3, .int (nI ((i1 * 4) + i2))), (2, .int (nI i2)), (1, .int (nI i1)), (0, .ref h0)] → W p l e ({ frames := 2, cells := 0, slots := 0, locals := 60 } : Room) s m (([.ref h0] : List Value).toArray) below meth c H locs 0 0 (MQ below (va_Qv (fun (u : (Nat → Int32) × (Nat → Int32) × (Nat → Int32) × (Nat → Int32) × (Nat → Int32)) => True) (fun (u : (Nat → Int32) × (Nat → Int32) × (Nat → Int32) × (Nat → Int32) × (Nat → Int32)) => qw D A [(h0, .inr (1, fs)), (ql, .inl (kl, 96, .inl u.1)), (qh, .inl (kh, 96, .inl u.2.1)), (qe, .inl (ke, 96, .inl u.2.2.1)), (qg, .inl (kg, 96, .inl u.2.2.2.1)), (qp, .inl (kp, 16, .inl u.2.2.2.2))] []) A) (([.ref h0] : List Value).toArray) s 0 0 A) (F0 m 48 ls []) := by
                intro n
                induction n with
                | zero => intro i4 f_23 f_24 f_25 f_26 f_27 H locs ls hi hn; exact absurd hn (by omega)
                | succ n ih48 =>
                  intro i4 f_23 f_24 f_25 f_26 f_27 H locs ls hi_28 hn_29 hP hD hS hl
                  refine lv_iload hx hb dX1_setNeeds_48 (lv_at hl 0 rfl) ?_
                  refine lv_iconst (v := 4) hx hb dX1_setNeeds_50 (by decide) ?_
                  refine lv_icmp_ge (tgt := 136) hx hb dX1_setNeeds_51 (by decide) (fun c_31 => ?_) (fun c_31 => ?_)
                  · skip
                    have hc_31 := ge_of (i := i4) 4 c_31 rfl (by omega) (by omega)
                    refine lv_iinc (v := (nI (i2 + 1))) (lv' := [(2, .int (nI (i2 + 1))), (4, .int (nI i4)), (3, .int (nI ((i1 * 4) + i2))), (1, .int (nI i1)), (0, .ref h0)]) hx hb dX1_setNeeds_136 hl (k := 2) rfl (nI_1 _) (by decide) rfl (fun ls hl => ?_)
                    refine lv_goto (tgt := 10) hx hb dX1_setNeeds_139 (by decide) ?_
                    exact ih10 (i2 + 1) _ _ _ _ _ _ _ _ (by omega) (by omega) (hP.sub [0, 1, 2, 3, 4, 5] rfl) (hD.sub [0, 1, 2, 3, 4, 5] (by decide) rfl) hS (lv_sub hl [0, 3, 4] rfl)
                  · skip
                    have hc_31 := lt_of (i := i4) 4 c_31 rfl (by omega)
                    refine lv_iload_n hx hb dX1_setNeeds_54 rfl (lv_at hl 3 rfl) ?_
                    refine lv_iconst (v := 4) hx hb dX1_setNeeds_55 (by decide) ?_
                    refine lv_imul hx hb dX1_setNeeds_56 ?_
                    refine tI (y := nI (i1 * 4)) (pk_mul i1 4) ?_
                    refine lv_iload hx hb dX1_setNeeds_57 (lv_at hl 0 rfl) ?_
                    refine lv_iadd hx hb dX1_setNeeds_59 ?_
                    refine tI (y := nI ((i1 * 4) + i4)) (nI_add (i1 * 4) i4) ?_
                    refine lv_istore (lv' := [(5, .int (nI ((i1 * 4) + i4))), (4, .int (nI i4)), (3, .int (nI ((i1 * 4) + i2))), (2, .int (nI i2)), (1, .int (nI i1)), (0, .ref h0)]) hx hb dX1_setNeeds_60 hl (by decide) rfl (fun ls hl => ?_)
                    refine lv_aload_n hx hb dX1_setNeeds_62 rfl (lv_at hl 5 rfl) ?_
                    refine va_get (D := D) (ci := 1) (v := .ref qe) (C := RX1) (T := TX1) (N := 7) hx hb hts (fun w h => List.mem_cons_of_mem _ (inG1 w h)) hown hK hP 0 rfl rfl 4 (by decide) (hts _ (List.mem_cons_of_mem _ gw_66)) (fun _ h9 => h9) hf4 dX1_setNeeds_63 ?_
                    refine lv_iload_n hx hb dX1_setNeeds_66 rfl (lv_at hl 2 rfl) ?_
                    refine lv_aload_n hx hb dX1_setNeeds_67 rfl (lv_at hl 5 rfl) ?_
                    refine va_get (D := D) (ci := 1) (v := .ref qe) (C := RX1) (T := TX1) (N := 7) hx hb hts (fun w h => List.mem_cons_of_mem _ (inG1 w h)) hown hK hP 0 rfl rfl 4 (by decide) (hts _ (List.mem_cons_of_mem _ gw_66)) (fun _ h9 => h9) hf4 dX1_setNeeds_68 ?_
                    refine lv_iload_n hx hb dX1_setNeeds_71 rfl (lv_at hl 2 rfl) ?_
                    refine va_iald hx hb hK hP 3 2 rfl rfl (vp_in_nI (n := (i1 * 4) + i2) (N := 96) (by omega) (by omega)) dX1_setNeeds_72 ?_
                    refine tF (fun v_32 => ?_)
                    refine lv_aload_n hx hb dX1_setNeeds_73 rfl (lv_at hl 5 rfl) ?_
                    refine va_get (D := D) (ci := 1) (v := .ref ql) (C := RX1) (T := TX1) (N := 7) hx hb hts (fun w h => List.mem_cons_of_mem _ (inG1 w h)) hown hK hP 0 rfl rfl 2 (by decide) (hts _ (List.mem_cons_of_mem _ gw_54)) (fun _ h9 => h9) hf2 dX1_setNeeds_74 ?_
                    refine lv_iload hx hb dX1_setNeeds_77 (lv_at hl 0 rfl) ?_
                    refine va_iald hx hb hK hP 1 0 rfl rfl (vp_in_nI (n := (i1 * 4) + i4) (N := 96) (by omega) (by omega)) dX1_setNeeds_79 ?_
                    refine tF (fun v_33 => ?_)
                    refine lv_aload_n hx hb dX1_setNeeds_80 rfl (lv_at hl 5 rfl) ?_
                    refine va_get (D := D) (ci := 1) (v := .ref qp) (C := RX1) (T := TX1) (N := 7) hx hb hts (fun w h => List.mem_cons_of_mem _ (inG1 w h)) hown hK hP 0 rfl rfl 6 (by decide) (hts _ (List.mem_cons_of_mem _ gw_60)) (fun _ h9 => h9) hf6 dX1_setNeeds_81 ?_
                    refine lv_iload_n hx hb dX1_setNeeds_84 rfl (lv_at hl 3 rfl) ?_
                    refine lv_iconst (v := 4) hx hb dX1_setNeeds_85 (by decide) ?_
                    refine lv_imul hx hb dX1_setNeeds_86 ?_
                    refine tI (y := nI (i2 * 4)) (pk_mul i2 4) ?_
                    refine lv_iload hx hb dX1_setNeeds_87 (lv_at hl 1 rfl) ?_
                    refine lv_iadd hx hb dX1_setNeeds_89 ?_
                    refine tI (y := nI ((i2 * 4) + i4)) (nI_add (i2 * 4) i4) ?_
                    refine va_iald hx hb hK hP 5 4 rfl rfl (vp_in_nI (n := (i2 * 4) + i4) (N := 16) (by omega) (by omega)) dX1_setNeeds_90 ?_
                    refine tF (fun v_34 => ?_)
                    refine lv_isub hx hb dX1_setNeeds_91 ?_
                    refine tF (fun v_35 => ?_)
                    refine va_mmax hx hb (by rw [hml]; exact hl.1.symm) hown (hts _ (List.mem_cons_of_mem _ gw_68)) (hts _ (List.mem_cons_of_mem _ gw_69)) (hts _ (List.mem_cons_of_mem _ gw_58)) (hts _ (List.mem_cons_of_mem _ gw_70)) (Nat.le_of_ble_eq_true rfl) (Nat.le_of_ble_eq_true rfl) (Nat.le_of_ble_eq_true rfl) (Nat.le_of_ble_eq_true rfl) dX1_setNeeds_92 ?_
                    refine tF (fun v_36 => ?_)
                    refine va_iast hx hb hK hP hD hS 3 2 rfl rfl (vp_in_nI (n := (i1 * 4) + i2) (N := 96) (by omega) (by omega)) dX1_setNeeds_95 (fun H locs hP hD hS => ?_)
                    obtain ⟨f_37, hP, hD⟩ : ∃ f : Nat → Int32, va_P D vwCl [(h0, .inr (1, fs)), (ql, .inl (kl, 96, .inl f_23)), (qh, .inl (kh, 96, .inl f_24)), (qe, .inl (ke, 96, .inl f)), (qg, .inl (kg, 96, .inl f_26)), (qp, .inl (kp, 16, .inl f_27))] H ∧ va_D A [(h0, .inr (1, fs)), (ql, .inl (kl, 96, .inl f_23)), (qh, .inl (kh, 96, .inl f_24)), (qe, .inl (ke, 96, .inl f)), (qg, .inl (kg, 96, .inl f_26)), (qp, .inl (kp, 16, .inl f_27))] := ⟨_, hP, hD⟩
                    refine lv_aload_n hx hb dX1_setNeeds_96 rfl (lv_at hl 5 rfl) ?_
                    refine va_get (D := D) (ci := 1) (v := .ref qg) (C := RX1) (T := TX1) (N := 7) hx hb hts (fun w h => List.mem_cons_of_mem _ (inG1 w h)) hown hK hP 0 rfl rfl 5 (by decide) (hts _ (List.mem_cons_of_mem _ gw_67)) (fun _ h9 => h9) hf5 dX1_setNeeds_97 ?_
                    refine lv_iload_n hx hb dX1_setNeeds_100 rfl (lv_at hl 2 rfl) ?_
                    refine lv_aload_n hx hb dX1_setNeeds_101 rfl (lv_at hl 5 rfl) ?_
                    refine va_get (D := D) (ci := 1) (v := .ref qg) (C := RX1) (T := TX1) (N := 7) hx hb hts (fun w h => List.mem_cons_of_mem _ (inG1 w h)) hown hK hP 0 rfl rfl 5 (by decide) (hts _ (List.mem_cons_of_mem _ gw_67)) (fun _ h9 => h9) hf5 dX1_setNeeds_102 ?_
                    refine lv_iload_n hx hb dX1_setNeeds_105 rfl (lv_at hl 2 rfl) ?_
                    refine va_iald hx hb hK hP 4 3 rfl rfl (vp_in_nI (n := (i1 * 4) + i2) (N := 96) (by omega) (by omega)) dX1_setNeeds_106 ?_
                    refine tF (fun v_38 => ?_)
                    refine lv_aload_n hx hb dX1_setNeeds_107 rfl (lv_at hl 5 rfl) ?_
                    refine va_get (D := D) (ci := 1) (v := .ref qh) (C := RX1) (T := TX1) (N := 7) hx hb hts (fun w h => List.mem_cons_of_mem _ (inG1 w h)) hown hK hP 0 rfl rfl 3 (by decide) (hts _ (List.mem_cons_of_mem _ gw_55)) (fun _ h9 => h9) hf3 dX1_setNeeds_108 ?_
                    refine lv_iload hx hb dX1_setNeeds_111 (lv_at hl 0 rfl) ?_
                    refine va_iald hx hb hK hP 2 1 rfl rfl (vp_in_nI (n := (i1 * 4) + i4) (N := 96) (by omega) (by omega)) dX1_setNeeds_113 ?_
                    refine tF (fun v_39 => ?_)
                    refine lv_aload_n hx hb dX1_setNeeds_114 rfl (lv_at hl 5 rfl) ?_
                    refine va_get (D := D) (ci := 1) (v := .ref qp) (C := RX1) (T := TX1) (N := 7) hx hb hts (fun w h => List.mem_cons_of_mem _ (inG1 w h)) hown hK hP 0 rfl rfl 6 (by decide) (hts _ (List.mem_cons_of_mem _ gw_60)) (fun _ h9 => h9) hf6 dX1_setNeeds_115 ?_
                    refine lv_iload hx hb dX1_setNeeds_118 (lv_at hl 1 rfl) ?_
                    refine lv_iconst (v := 4) hx hb dX1_setNeeds_120 (by decide) ?_
                    refine lv_imul hx hb dX1_setNeeds_121 ?_
                    refine tI (y := nI (i4 * 4)) (pk_mul i4 4) ?_
                    refine lv_iload_n hx hb dX1_setNeeds_122 rfl (lv_at hl 3 rfl) ?_
                    refine lv_iadd hx hb dX1_setNeeds_123 ?_
                    refine tI (y := nI ((i4 * 4) + i2)) (nI_add (i4 * 4) i2) ?_
                    refine va_iald hx hb hK hP 5 4 rfl rfl (vp_in_nI (n := (i4 * 4) + i2) (N := 16) (by omega) (by omega)) dX1_setNeeds_124 ?_
                    refine tF (fun v_40 => ?_)
                    refine lv_iadd hx hb dX1_setNeeds_125 ?_
                    refine tF (fun v_41 => ?_)
                    refine va_mmin hx hb (by rw [hml]; exact hl.1.symm) hown (hts _ (List.mem_cons_of_mem _ gw_56)) (hts _ (List.mem_cons_of_mem _ gw_57)) (hts _ (List.mem_cons_of_mem _ gw_58)) (hts _ (List.mem_cons_of_mem _ gw_59)) (Nat.le_of_ble_eq_true rfl) (Nat.le_of_ble_eq_true rfl) (Nat.le_of_ble_eq_true rfl) (Nat.le_of_ble_eq_true rfl) dX1_setNeeds_126 ?_
                    refine tF (fun v_42 => ?_)
                    refine va_iast hx hb hK hP hD hS 4 3 rfl rfl (vp_in_nI (n := (i1 * 4) + i2) (N := 96) (by omega) (by omega)) dX1_setNeeds_129 (fun H locs hP hD hS => ?_)
                    obtain ⟨f_43, hP, hD⟩ : ∃ f : Nat → Int32, va_P D vwCl [(h0, .inr (1, fs)), (ql, .inl (kl, 96, .inl f_23)), (qh, .inl (kh, 96, .inl f_24)), (qe, .inl (ke, 96, .inl f_37)), (qg, .inl (kg, 96, .inl f)), (qp, .inl (kp, 16, .inl f_27))] H ∧ va_D A [(h0, .inr (1, fs)), (ql, .inl (kl, 96, .inl f_23)), (qh, .inl (kh, 96, .inl f_24)), (qe, .inl (ke, 96, .inl f_37)), (qg, .inl (kg, 96, .inl f)), (qp, .inl (kp, 16, .inl f_27))] := ⟨_, hP, hD⟩
                    refine lv_iinc (v := (nI (i4 + 1))) (lv' := [(4, .int (nI (i4 + 1))), (5, .int (nI ((i1 * 4) + i4))), (3, .int (nI ((i1 * 4) + i2))), (2, .int (nI i2)), (1, .int (nI i1)), (0, .ref h0)]) hx hb dX1_setNeeds_130 hl (k := 1) rfl (nI_1 _) (by decide) rfl (fun ls hl => ?_)
                    refine lv_goto (tgt := 48) hx hb dX1_setNeeds_133 (by decide) ?_
                    exact ih48 (i4 + 1) _ _ _ _ _ _ _ _ (by omega) (by omega) (hP.sub [0, 1, 2, 3, 4, 5] rfl) (hD.sub [0, 1, 2, 3, 4, 5] (by decide) rfl) hS (lv_sub hl [0, 2, 3, 4, 5] rfl)
              exact lp48 (4 + 1) 0 _ _ _ _ _ _ _ _ (by omega) (by omega) hP hD hS (lv_sub hl [0, 1, 2, 3, 4] rfl)
        exact lp10 (4 + 1) 0 _ _ _ _ _ _ _ _ (by omega) (by omega) hP hD hS (lv_sub hl [0, 1, 2] rfl)
  exact lp2 (24 + 1) 0 _ _ _ _ _ _ _ _ (by omega) (by omega) hP hD hS (lv_sub hl [0, 1] rfl)
set_option maxHeartbeats 4000000 in
set_option maxRecDepth 100000 in
theorem c_X1_settle (l : Launch) (D : va_G) (sz : Nat) (h0 : Nat) (fs : List Value) (ql : Nat) (qh : Nat) (qe : Nat) (qg : Nat) (qp : Nat) (kl : ClassId) (kh : ClassId) (ke : ClassId) (kg : ClassId) (kp : ClassId) (fl : Nat → Int32) (fh : Nat → Int32) (fe : Nat → Int32) (fg : Nat → Int32) (fp : Nat → Int32) (hf0 : fs[0]? = some (.int 0)) (hf2 : fs[2]? = some (.ref ql)) (hf3 : fs[3]? = some (.ref qh)) (hf4 : fs[4]? = some (.ref qe)) (hf5 : fs[5]? = some (.ref qg)) (hf6 : fs[6]? = some (.ref qp)) : Met l yX1_settle (.code yX1_settle cX1_settle 2 (some .boolean) :: G) ({ frames := 6, cells := 0, slots := 0, locals := 120 }) (va_Pc [.ref h0] (pw D sz [(h0, .inr (1, fs)), (ql, .inl (kl, 96, .inl fl)), (qh, .inl (kh, 96, .inl fh)), (qe, .inl (ke, 96, .inl fe)), (qg, .inl (kg, 96, .inl fg)), (qp, .inl (kp, 16, .inl fp))] [(kl, .int), (kh, .int), (ke, .int), (kg, .int), (kp, .int)])) (va_Qi (fun (r : Int32) (u : (Nat → Int32) × (Nat → Int32) × (Nat → Int32) × (Nat → Int32) × (Nat → Int32)) => True) (fun (u : (Nat → Int32) × (Nat → Int32) × (Nat → Int32) × (Nat → Int32) × (Nat → Int32)) => qw D (va_A [(h0, .inr (1, fs)), (ql, .inl (kl, 96, .inl fl)), (qh, .inl (kh, 96, .inl fh)), (qe, .inl (ke, 96, .inl fe)), (qg, .inl (kg, 96, .inl fg)), (qp, .inl (kp, 16, .inl fp))] sz) [(h0, .inr (1, fs)), (ql, .inl (kl, 96, .inl u.1)), (qh, .inl (kh, 96, .inl u.2.1)), (qe, .inl (ke, 96, .inl u.2.2.1)), (qg, .inl (kg, 96, .inl u.2.2.2.1)), (qp, .inl (kp, 16, .inl u.2.2.2.2))] []) (va_A [(h0, .inr (1, fs)), (ql, .inl (kl, 96, .inl fl)), (qh, .inl (kh, 96, .inl fh)), (qe, .inl (ke, 96, .inl fe)), (qg, .inl (kg, 96, .inl fg)), (qp, .inl (kp, 16, .inl fp))] sz)) 0 0 (va_A [(h0, .inr (1, fs)), (ql, .inl (kl, 96, .inl fl)), (qh, .inl (kh, 96, .inl fh)), (qe, .inl (ke, 96, .inl fe)), (qg, .inl (kg, 96, .inl fg)), (qp, .inl (kp, 16, .inl fp))] sz) := by
  refine Met.ofW (cc := cX1_settle) (maxL := 2) (ret := (some .boolean)) (by decide) rfl ?_
  intro p e s m args below meth c s₁ B hml hv
  obtain ⟨rfl, hsz, hP, hK, hD0, hN⟩ := hv
  have hx := B.exec
  have hb := B.bytes
  have hr := B.returns
  have hts := atoms_spec (ws := (.code yX1_settle cX1_settle 2 (some .boolean) :: G)) B.pre
  have hown : s.vm.findClass RX1 = some m.cls := findClass_of_methodNamed B.named
  have hlocks := B.notSynchronized
  subst hsz
  have hD := hD0.self (sz := s.heap.size)
  generalize hAe : va_A [(h0, .inr (1, fs)), (ql, .inl (kl, 96, .inl fl)), (qh, .inl (kh, 96, .inl fh)), (qe, .inl (ke, 96, .inl fe)), (qg, .inl (kg, 96, .inl fg)), (qp, .inl (kp, 16, .inl fp))] s.heap.size = A at hD ⊢
  have hA : ∀ q : Nat, s.heap.size ≤ q → A q := fun q h => by rw [← hAe]; exact Or.inr h
  have hS : va_S A s.heap s.heap [] := va_S.rf
  have hP : va_P D vwCl [(h0, .inr (1, fs)), (ql, .inl (kl, 96, .inl fl)), (qh, .inl (kh, 96, .inl fh)), (qe, .inl (ke, 96, .inl fe)), (qg, .inl (kg, 96, .inl fg)), (qp, .inl (kp, 16, .inl fp))] s.heap := hP
  have hl := lv_entry ([.ref h0]) (n := 2) (Nat.le_of_ble_eq_true rfl)
  rw [lg_entry_eq]
  generalize (lg_sl ([.ref h0]) ++ List.replicate (2 - (lg_sl ([.ref h0])).length) Slot.unset).toArray = ls at hl ⊢
  have hl : lv_has ls 2 [(0, .ref h0)] := hl
  refine lv_aload_n hx hb dX1_settle_0 rfl (lv_at hl 0 rfl) ?_
  refine fr_v (wr := [(qe, .inl (ke, 96, .inl fe)), (qg, .inl (kg, 96, .inl fg)), (qp, .inl (kp, 16, .inl fp))]) (va_runV (As := []) (rest := []) ⟨hx, hb, hml, hown, hts⟩ (c_X1_setFirstBounds l D s.heap.size h0 fs ql qh kl kh fl fh hf2 hf3) (cwV 0 hts (gV (fun w h => List.mem_cons_of_mem _ h) gw_72 gw_73 gw_74 gw_65 gw_71) rfl rfl rfl (by decide +kernel) ⟨Nat.le_of_ble_eq_true rfl, Nat.le_of_ble_eq_true rfl⟩) (pw_V [0, 1, 2] [0, 1] hP hD hK hN rfl rfl (by decide) rfl (ci := 1) (q0 := 0) rfl rfl) rfl rfl hl.1 rfl (lv_room (Nat.le_of_ble_eq_true rfl)) dX1_settle_1 ⟨Nat.le_of_ble_eq_true rfl, Nat.le_of_ble_eq_true rfl⟩) hP hD hK hS hA [0, 1, 2] [3, 4, 5] rfl rfl (by decide) (by decide) (fun u_1 H locs hw_3 hP hD hK hS => ?_)
  obtain ⟨ufl_4, ufh_5⟩ := u_1
  try dsimp only at hw_3
  have hP : va_P D vwCl [(qe, .inl (ke, 96, .inl fe)), (qg, .inl (kg, 96, .inl fg)), (qp, .inl (kp, 16, .inl fp)), (h0, .inr (1, fs)), (ql, .inl (kl, 96, .inl ufl_4)), (qh, .inl (kh, 96, .inl ufh_5))] H := hP
  have hD : va_D A [(qe, .inl (ke, 96, .inl fe)), (qg, .inl (kg, 96, .inl fg)), (qp, .inl (kp, 16, .inl fp)), (h0, .inr (1, fs)), (ql, .inl (kl, 96, .inl ufl_4)), (qh, .inl (kh, 96, .inl ufh_5))] := hD
  have hK : va_K D vwCl [(kl, .int), (kh, .int), (ke, .int), (kg, .int), (kp, .int)] s := hK
  refine W.widen (k := 0) (n := 0) (Nat.le_of_ble_eq_true rfl) (Nat.le_of_ble_eq_true rfl) ?_
  refine lv_iconst (v := 0) hx hb dX1_settle_4 (by decide) ?_
  refine lv_istore_n (lv' := [(1, .int 0), (0, .ref h0)]) hx hb dX1_settle_5 rfl hl (by decide) rfl (fun ls hl => ?_)
  refine lv_iload_n hx hb dX1_settle_6 rfl (lv_at hl 0 rfl) ?_
  refine lv_aload_n hx hb dX1_settle_7 rfl (lv_at hl 1 rfl) ?_
  refine va_get (D := D) (ci := 1) (v := .int 0) (C := RX1) (T := TX1) (N := 7) hx hb hts (fun w h => List.mem_cons_of_mem _ (inG1 w h)) hown hK hP 3 rfl rfl 0 (by decide) (hts _ (List.mem_cons_of_mem _ gw_6)) (fun _ h9 => h9) hf0 dX1_settle_8 ?_
  refine lv_icmp_ge (tgt := 42) hx hb dX1_settle_11 (by decide) (fun c_6 => ?_) (fun c_6 => absurd (by decide) c_6)
  refine lv_aload_n hx hb dX1_settle_42 rfl (lv_at hl 1 rfl) ?_
  refine fr_v (wr := [(qe, .inl (ke, 96, .inl fe)), (qg, .inl (kg, 96, .inl fg))]) (va_runV (As := []) (rest := []) ⟨hx, hb, hml, hown, hts⟩ (c_X1_closeGaps l D H.size h0 fs ql qh qp kl kh kp ufl_4 ufh_5 fp hf2 hf3 hf6) (cwV 0 hts (gV (fun w h => List.mem_cons_of_mem _ h) gw_76 gw_77 gw_78 gw_65 gw_75) rfl rfl rfl (by decide +kernel) ⟨Nat.le_of_ble_eq_true rfl, Nat.le_of_ble_eq_true rfl⟩) (pw_V [3, 4, 5, 2] [0, 1, 4] hP hD hK hN rfl rfl (by decide) rfl (ci := 1) (q0 := 3) rfl rfl) rfl rfl hl.1 rfl (lv_room (Nat.le_of_ble_eq_true rfl)) dX1_settle_43 ⟨Nat.le_of_ble_eq_true rfl, Nat.le_of_ble_eq_true rfl⟩) hP hD hK hS hA [3, 4, 5, 2] [0, 1] rfl rfl (by decide) (by decide) (fun u_7 H locs hw_9 hP hD hK hS => ?_)
  obtain ⟨ufl_10, ufh_11, ufp_12⟩ := u_7
  try dsimp only at hw_9
  have hP : va_P D vwCl [(qe, .inl (ke, 96, .inl fe)), (qg, .inl (kg, 96, .inl fg)), (h0, .inr (1, fs)), (ql, .inl (kl, 96, .inl ufl_10)), (qh, .inl (kh, 96, .inl ufh_11)), (qp, .inl (kp, 16, .inl ufp_12))] H := hP
  have hD : va_D A [(qe, .inl (ke, 96, .inl fe)), (qg, .inl (kg, 96, .inl fg)), (h0, .inr (1, fs)), (ql, .inl (kl, 96, .inl ufl_10)), (qh, .inl (kh, 96, .inl ufh_11)), (qp, .inl (kp, 16, .inl ufp_12))] := hD
  have hK : va_K D vwCl [(kl, .int), (kh, .int), (ke, .int), (kg, .int), (kp, .int)] s := hK
  refine W.widen (k := 0) (n := 0) (Nat.le_of_ble_eq_true rfl) (Nat.le_of_ble_eq_true rfl) ?_
  refine lv_iconst (v := 0) hx hb dX1_settle_46 (by decide) ?_
  refine lv_istore_n (lv' := [(1, .int 0), (0, .ref h0)]) hx hb dX1_settle_47 rfl hl (by decide) rfl (fun ls hl => ?_)
  have lp48 : ∀ (n i1 : Nat) (f_13 : Nat → Int32) (f_14 : Nat → Int32) (f_15 : Nat → Int32) (f_16 : Nat → Int32) (f_17 : Nat → Int32) (H : Heap) (locs : List Loc) (ls : Array Slot), i1 ≤ 4 → 4 < i1 + n → va_P D vwCl [(qe, .inl (ke, 96, .inl f_13)), (qg, .inl (kg, 96, .inl f_14)), (h0, .inr (1, fs)), (ql, .inl (kl, 96, .inl f_15)), (qh, .inl (kh, 96, .inl f_16)), (qp, .inl (kp, 16, .inl f_17))] H → va_D A [(qe, .inl (ke, 96, .inl f_13)), (qg, .inl (kg, 96, .inl f_14)), (h0, .inr (1, fs)), (ql, .inl (kl, 96, .inl f_15)), (qh, .inl (kh, 96, .inl f_16)), (qp, .inl (kp, 16, .inl f_17))] → va_S A s.heap H locs → lv_has ls 2 [(1, .int (nI i1)), (0, .ref h0)] → W p l e ({ frames := 6, cells := 0, slots := 0, locals := 120 } : Room) s m (([.ref h0] : List Value).toArray) below meth c H locs 0 0 (MQ below (va_Qi (fun (r : Int32) (u : (Nat → Int32) × (Nat → Int32) × (Nat → Int32) × (Nat → Int32) × (Nat → Int32)) => True) (fun (u : (Nat → Int32) × (Nat → Int32) × (Nat → Int32) × (Nat → Int32) × (Nat → Int32)) => qw D A [(h0, .inr (1, fs)), (ql, .inl (kl, 96, .inl u.1)), (qh, .inl (kh, 96, .inl u.2.1)), (qe, .inl (ke, 96, .inl u.2.2.1)), (qg, .inl (kg, 96, .inl u.2.2.2.1)), (qp, .inl (kp, 16, .inl u.2.2.2.2))] []) A) (([.ref h0] : List Value).toArray) s 0 0 A) (F0 m 48 ls []) := by
    intro n
    induction n with
    | zero => intro i1 f_13 f_14 f_15 f_16 f_17 H locs ls hi hn; exact absurd hn (by omega)
    | succ n ih48 =>
      intro i1 f_13 f_14 f_15 f_16 f_17 H locs ls hi_18 hn_19 hP hD hS hl
      refine lv_iload_n hx hb dX1_settle_48 rfl (lv_at hl 0 rfl) ?_
      refine lv_iconst (v := 4) hx hb dX1_settle_49 (by decide) ?_
      refine lv_icmp_ge (tgt := 74) hx hb dX1_settle_50 (by decide) (fun c_21 => ?_) (fun c_21 => ?_)
      · skip
        have hc_21 := ge_of (i := i1) 4 c_21 rfl (by omega) (by omega)
        refine lv_aload_n hx hb dX1_settle_74 rfl (lv_at hl 1 rfl) ?_
        refine fr_v (wr := []) (va_runV (As := []) (rest := []) ⟨hx, hb, hml, hown, hts⟩ (c_X1_setNeeds l D H.size h0 fs ql qh qe qg qp kl kh ke kg kp f_15 f_16 f_13 f_14 f_17 hf2 hf3 hf4 hf5 hf6) (cwV 0 hts (gV (fun w h => List.mem_cons_of_mem _ h) gw_80 gw_81 gw_82 gw_65 gw_79) rfl rfl rfl (by decide +kernel) ⟨Nat.le_of_ble_eq_true rfl, Nat.le_of_ble_eq_true rfl⟩) (pw_V [2, 3, 4, 0, 1, 5] [0, 1, 2, 3, 4] hP hD hK hN rfl rfl (by decide) rfl (ci := 1) (q0 := 2) rfl rfl) rfl rfl hl.1 rfl (lv_room (Nat.le_of_ble_eq_true rfl)) dX1_settle_75 ⟨Nat.le_of_ble_eq_true rfl, Nat.le_of_ble_eq_true rfl⟩) hP hD hK hS hA [2, 3, 4, 0, 1, 5] [] rfl rfl (by decide) (by decide) (fun u_22 H locs hw_24 hP hD hK hS => ?_)
        obtain ⟨ufl_25, ufh_26, ufe_27, ufg_28, ufp_29⟩ := u_22
        try dsimp only at hw_24
        have hP : va_P D vwCl [(h0, .inr (1, fs)), (ql, .inl (kl, 96, .inl ufl_25)), (qh, .inl (kh, 96, .inl ufh_26)), (qe, .inl (ke, 96, .inl ufe_27)), (qg, .inl (kg, 96, .inl ufg_28)), (qp, .inl (kp, 16, .inl ufp_29))] H := hP
        have hD : va_D A [(h0, .inr (1, fs)), (ql, .inl (kl, 96, .inl ufl_25)), (qh, .inl (kh, 96, .inl ufh_26)), (qe, .inl (ke, 96, .inl ufe_27)), (qg, .inl (kg, 96, .inl ufg_28)), (qp, .inl (kp, 16, .inl ufp_29))] := hD
        have hK : va_K D vwCl [(kl, .int), (kh, .int), (ke, .int), (kg, .int), (kp, .int)] s := hK
        refine W.widen (k := 0) (n := 0) (Nat.le_of_ble_eq_true rfl) (Nat.le_of_ble_eq_true rfl) ?_
        refine lv_iconst (v := 1) hx hb dX1_settle_78 (by decide) ?_
        have hP9 := hP.sub (ws' := [(h0, .inr (1, fs)), (ql, .inl (kl, 96, .inl ufl_25)), (qh, .inl (kh, 96, .inl ufh_26)), (qe, .inl (ke, 96, .inl ufe_27)), (qg, .inl (kg, 96, .inl ufg_28)), (qp, .inl (kp, 16, .inl ufp_29))]) [0, 1, 2, 3, 4, 5] rfl
        have hD9 := hD.sub (ws' := [(h0, .inr (1, fs)), (ql, .inl (kl, 96, .inl ufl_25)), (qh, .inl (kh, 96, .inl ufh_26)), (qe, .inl (ke, 96, .inl ufe_27)), (qg, .inl (kg, 96, .inl ufg_28)), (qp, .inl (kp, 16, .inl ufp_29))]) [0, 1, 2, 3, 4, 5] (by decide) rfl
        have hK9 := hK.sub (tys' := []) [] rfl
        refine W.widen (k := 0) (n := 0) (Nat.le_of_ble_eq_true rfl) (Nat.le_of_ble_eq_true rfl) ?_
        exact W.zret (v := 1) hx hb hr rfl (fun t ht hW => ⟨⟨1, (ufl_25, ufh_26, ufe_27, ufg_28, ufp_29), rfl, (by first | trivial | rfl), by rw [ht]; exact hP9, va_K.moved hW.alike hK9, hD9⟩, hS.F ht⟩) hS.2.2 dX1_settle_79
      · skip
        have hc_21 := lt_of (i := i1) 4 c_21 rfl (by omega)
        refine lv_aload_n hx hb dX1_settle_53 rfl (lv_at hl 1 rfl) ?_
        refine va_get (D := D) (ci := 1) (v := .ref qp) (C := RX1) (T := TX1) (N := 7) hx hb hts (fun w h => List.mem_cons_of_mem _ (inG1 w h)) hown hK hP 2 rfl rfl 6 (by decide) (hts _ (List.mem_cons_of_mem _ gw_60)) (fun _ h9 => h9) hf6 dX1_settle_54 ?_
        refine lv_iload_n hx hb dX1_settle_57 rfl (lv_at hl 0 rfl) ?_
        refine lv_iconst (v := 4) hx hb dX1_settle_58 (by decide) ?_
        refine lv_imul hx hb dX1_settle_59 ?_
        refine tI (y := nI (i1 * 4)) (pk_mul i1 4) ?_
        refine lv_iload_n hx hb dX1_settle_60 rfl (lv_at hl 0 rfl) ?_
        refine lv_iadd hx hb dX1_settle_61 ?_
        refine tI (y := nI ((i1 * 4) + i1)) (nI_add (i1 * 4) i1) ?_
        refine va_iald hx hb hK hP 5 4 rfl rfl (vp_in_nI (n := (i1 * 4) + i1) (N := 16) (by omega) (by omega)) dX1_settle_62 ?_
        refine tF (fun v_30 => ?_)
        refine lv_if_ge (tgt := 68) hx hb dX1_settle_63 (by decide) (fun c_31 => ?_) (fun c_31 => ?_)
        · skip
          refine lv_iinc (v := (nI (i1 + 1))) (lv' := [(1, .int (nI (i1 + 1))), (0, .ref h0)]) hx hb dX1_settle_68 hl (k := 0) rfl (nI_1 _) (by decide) rfl (fun ls hl => ?_)
          refine lv_goto (tgt := 48) hx hb dX1_settle_71 (by decide) ?_
          exact ih48 (i1 + 1) _ _ _ _ _ _ _ _ (by omega) (by omega) (hP.sub [0, 1, 2, 3, 4, 5] rfl) (hD.sub [0, 1, 2, 3, 4, 5] (by decide) rfl) hS (lv_sub hl [0, 1] rfl)
        · skip
          refine lv_iconst (v := 0) hx hb dX1_settle_66 (by decide) ?_
          have hP9 := hP.sub (ws' := [(h0, .inr (1, fs)), (ql, .inl (kl, 96, .inl f_15)), (qh, .inl (kh, 96, .inl f_16)), (qe, .inl (ke, 96, .inl f_13)), (qg, .inl (kg, 96, .inl f_14)), (qp, .inl (kp, 16, .inl f_17))]) [2, 3, 4, 0, 1, 5] rfl
          have hD9 := hD.sub (ws' := [(h0, .inr (1, fs)), (ql, .inl (kl, 96, .inl f_15)), (qh, .inl (kh, 96, .inl f_16)), (qe, .inl (ke, 96, .inl f_13)), (qg, .inl (kg, 96, .inl f_14)), (qp, .inl (kp, 16, .inl f_17))]) [2, 3, 4, 0, 1, 5] (by decide) rfl
          have hK9 := hK.sub (tys' := []) [] rfl
          refine W.widen (k := 0) (n := 0) (Nat.le_of_ble_eq_true rfl) (Nat.le_of_ble_eq_true rfl) ?_
          exact W.zret (v := 0) hx hb hr rfl (fun t ht hW => ⟨⟨0, (f_15, f_16, f_13, f_14, f_17), rfl, (by first | trivial | rfl), by rw [ht]; exact hP9, va_K.moved hW.alike hK9, hD9⟩, hS.F ht⟩) hS.2.2 dX1_settle_67
  exact lp48 (4 + 1) 0 _ _ _ _ _ _ _ _ (by omega) (by omega) hP hD hS (lv_sub hl [0, 1] rfl)
set_option maxHeartbeats 4000000 in
set_option maxRecDepth 100000 in
theorem c_X1_init (l : Launch) (D : va_G) (sz : Nat) (h0 : Nat) : Met l yX1_init (.code yX1_init cX1_init 1 none :: G) ({ frames := 8, cells := 6, slots := 500, locals := 147 }) (va_Pc [.ref h0] (pw D sz [(h0, .inr (1, [.int 0, .null, .null, .null, .null, .null, .null]))] [])) (va_Qv (fun (u : (Nat) × (Nat) × (Nat) × (Nat) × (Nat) × (Nat)) => True) (fun (u : (Nat) × (Nat) × (Nat) × (Nat) × (Nat) × (Nat)) => qw D (va_A [(h0, .inr (1, [.int 0, .null, .null, .null, .null, .null, .null]))] sz) [(h0, .inr (1, [.int 0, .ref u.1, .ref u.2.1, .ref u.2.2.1, .ref u.2.2.2.1, .ref u.2.2.2.2.1, .ref u.2.2.2.2.2]))] []) (va_A [(h0, .inr (1, [.int 0, .null, .null, .null, .null, .null, .null]))] sz)) 6 500 (va_A [(h0, .inr (1, [.int 0, .null, .null, .null, .null, .null, .null]))] sz) := by
  refine Met.ofW (cc := cX1_init) (maxL := 1) (ret := none) (by decide) rfl ?_
  intro p e s m args below meth c s₁ B hml hv
  obtain ⟨rfl, hsz, hP, hK, hD0, hN⟩ := hv
  have hx := B.exec
  have hb := B.bytes
  have hr := B.returns
  have hts := atoms_spec (ws := (.code yX1_init cX1_init 1 none :: G)) B.pre
  have hown : s.vm.findClass RX1 = some m.cls := findClass_of_methodNamed B.named
  have hlocks := B.notSynchronized
  have hin : meth.name = "<init>" := (name_of_methodNamed B.named B.method).1
  subst hsz
  have hD := hD0.self (sz := s.heap.size)
  generalize hAe : va_A [(h0, .inr (1, [.int 0, .null, .null, .null, .null, .null, .null]))] s.heap.size = A at hD ⊢
  have hA : ∀ q : Nat, s.heap.size ≤ q → A q := fun q h => by rw [← hAe]; exact Or.inr h
  have hS : va_S A s.heap s.heap [] := va_S.rf
  have hP : va_P D vwCl [(h0, .inr (1, [.int 0, .null, .null, .null, .null, .null, .null]))] s.heap := hP
  have hl := lv_entry ([.ref h0]) (n := 1) (Nat.le_of_ble_eq_true rfl)
  rw [lg_entry_eq]
  generalize (lg_sl ([.ref h0]) ++ List.replicate (1 - (lg_sl ([.ref h0])).length) Slot.unset).toArray = ls at hl ⊢
  have hl : lv_has ls 1 [(0, .ref h0)] := hl
  refine lv_aload_n hx hb dX1_init_0 rfl (lv_at hl 0 rfl) ?_
  refine W.objInit hx hb hown (hts _ (List.mem_cons_of_mem _ gw_83)) (hts _ (List.mem_cons_of_mem _ gw_12)) (hts _ (List.mem_cons_of_mem _ gw_13)) rfl (by rw [hml]; exact hl.1) rfl dX1_init_1 (Nat.le_of_ble_eq_true rfl) (Nat.le_of_ble_eq_true rfl) ?_
  refine W.eq (g2 := F0 m 4 ls []) rfl ?_
  refine lv_aload_n hx hb dX1_init_4 rfl (lv_at hl 0 rfl) ?_
  refine lv_iconst (v := 0) hx hb dX1_init_5 (by decide) ?_
  refine va_put (D := D) (ci := 1) (v := .int 0) (ty := .int) (C := RX1) (T := TX1) (N := 7) hx hb hts (fun w h => List.mem_cons_of_mem _ (inG1 w h)) tyX1 tyX1_ok nmX1 hown hK hP hD hS 0 rfl rfl 0 (by decide) (hts _ (List.mem_cons_of_mem _ gw_6)) (fun _ h9 => h9) rfl (by decide +kernel) rfl rfl (Nat.le_of_ble_eq_true rfl) dX1_init_6 (fun H locs hP hD hS => ?_)
  have hP : va_P D vwCl [(h0, .inr (1, [.int 0, .null, .null, .null, .null, .null, .null]))] H := hP
  have hD : va_D A [(h0, .inr (1, [.int 0, .null, .null, .null, .null, .null, .null]))] := hD
  refine lv_aload_n hx hb dX1_init_9 rfl (lv_at hl 0 rfl) ?_
  refine lv_bipush (v := 100) hx hb dX1_init_10 (by decide) ?_
  refine va_newq (C := RX7) (N' := 100) hx hb hown (hts _ (List.mem_cons_of_mem _ gw_84)) hN.2.2.2.2.2.2 hK hP hD hS hA (by decide) (by decide +kernel) (by decide) (Nat.le_of_ble_eq_true rfl) (Nat.le_of_ble_eq_true rfl) dX1_init_12 (fun q_1 cA_2 H hK hP hD hS => ?_)
  have hP : va_P D vwCl [(h0, .inr (1, [.int 0, .null, .null, .null, .null, .null, .null])), (q_1, .inl (cA_2, 100, .inr (.inr (.inr (.inr (fun _ => none))))))] H := hP
  have hD : va_D A [(h0, .inr (1, [.int 0, .null, .null, .null, .null, .null, .null])), (q_1, .inl (cA_2, 100, .inr (.inr (.inr (.inr (fun _ => none))))))] := hD
  have hK : va_K D vwCl [(cA_2, .object RX7)] s := hK
  refine W.widen (k := 1) (n := 100) (Nat.le_of_ble_eq_true rfl) (Nat.le_of_ble_eq_true rfl) ?_
  refine va_putF (D := D) (ci := 1) (v := .ref q_1) (ty := .array (.object "OddShoes$Trial")) (C := RX1) (T := TX1) (N := 7) hx hb hts (fun w h => List.mem_cons_of_mem _ (inG1 w h)) tyX1 tyX1_ok nmX1 hown hK hP hD hS 0 rfl rfl 1 (by decide) (hts _ (List.mem_cons_of_mem _ gw_85)) (fun _ h9 => h9) rfl hin rfl (by decide +kernel) rfl rfl (Nat.le_of_ble_eq_true rfl) dX1_init_15 (fun H locs hP hD hS => ?_)
  have hP : va_P D vwCl [(h0, .inr (1, [.int 0, .ref q_1, .null, .null, .null, .null, .null])), (q_1, .inl (cA_2, 100, .inr (.inr (.inr (.inr (fun _ => none))))))] H := hP
  have hD : va_D A [(h0, .inr (1, [.int 0, .ref q_1, .null, .null, .null, .null, .null])), (q_1, .inl (cA_2, 100, .inr (.inr (.inr (.inr (fun _ => none))))))] := hD
  refine lv_aload_n hx hb dX1_init_18 rfl (lv_at hl 0 rfl) ?_
  refine lv_bipush (v := 96) hx hb dX1_init_19 (by decide) ?_
  refine va_newa (atype := .int) (ty := .int) (N' := 96) (a0 := (96, .inl (fun _ => 0))) hx hb (hts _ (List.mem_cons_of_mem _ gw_14)) rfl hK hP hD hS hA (fun _ => rfl) (by decide) (by decide +kernel) (by decide) (Nat.le_of_ble_eq_true rfl) (Nat.le_of_ble_eq_true rfl) dX1_init_21 (fun q_3 cA_4 H hK hP hD hS => ?_)
  have hP : va_P D vwCl [(h0, .inr (1, [.int 0, .ref q_1, .null, .null, .null, .null, .null])), (q_1, .inl (cA_2, 100, .inr (.inr (.inr (.inr (fun _ => none)))))), (q_3, .inl (cA_4, 96, .inl (fun _ => 0)))] H := hP
  have hD : va_D A [(h0, .inr (1, [.int 0, .ref q_1, .null, .null, .null, .null, .null])), (q_1, .inl (cA_2, 100, .inr (.inr (.inr (.inr (fun _ => none)))))), (q_3, .inl (cA_4, 96, .inl (fun _ => 0)))] := hD
  have hK : va_K D vwCl [(cA_2, .object RX7), (cA_4, .int)] s := hK
  refine W.widen (k := 2) (n := 196) (Nat.le_of_ble_eq_true rfl) (Nat.le_of_ble_eq_true rfl) ?_
  refine va_putF (D := D) (ci := 1) (v := .ref q_3) (ty := .array .int) (C := RX1) (T := TX1) (N := 7) hx hb hts (fun w h => List.mem_cons_of_mem _ (inG1 w h)) tyX1 tyX1_ok nmX1 hown hK hP hD hS 0 rfl rfl 2 (by decide) (hts _ (List.mem_cons_of_mem _ gw_54)) (fun _ h9 => h9) rfl hin rfl (by decide +kernel) rfl rfl (Nat.le_of_ble_eq_true rfl) dX1_init_23 (fun H locs hP hD hS => ?_)
  have hP : va_P D vwCl [(h0, .inr (1, [.int 0, .ref q_1, .ref q_3, .null, .null, .null, .null])), (q_1, .inl (cA_2, 100, .inr (.inr (.inr (.inr (fun _ => none)))))), (q_3, .inl (cA_4, 96, .inl (fun _ => 0)))] H := hP
  have hD : va_D A [(h0, .inr (1, [.int 0, .ref q_1, .ref q_3, .null, .null, .null, .null])), (q_1, .inl (cA_2, 100, .inr (.inr (.inr (.inr (fun _ => none)))))), (q_3, .inl (cA_4, 96, .inl (fun _ => 0)))] := hD
  refine lv_aload_n hx hb dX1_init_26 rfl (lv_at hl 0 rfl) ?_
  refine lv_bipush (v := 96) hx hb dX1_init_27 (by decide) ?_
  refine va_newa (atype := .int) (ty := .int) (N' := 96) (a0 := (96, .inl (fun _ => 0))) hx hb (hts _ (List.mem_cons_of_mem _ gw_14)) rfl hK hP hD hS hA (fun _ => rfl) (by decide) (by decide +kernel) (by decide) (Nat.le_of_ble_eq_true rfl) (Nat.le_of_ble_eq_true rfl) dX1_init_29 (fun q_5 cA_6 H hK hP hD hS => ?_)
  have hP : va_P D vwCl [(h0, .inr (1, [.int 0, .ref q_1, .ref q_3, .null, .null, .null, .null])), (q_1, .inl (cA_2, 100, .inr (.inr (.inr (.inr (fun _ => none)))))), (q_3, .inl (cA_4, 96, .inl (fun _ => 0))), (q_5, .inl (cA_6, 96, .inl (fun _ => 0)))] H := hP
  have hD : va_D A [(h0, .inr (1, [.int 0, .ref q_1, .ref q_3, .null, .null, .null, .null])), (q_1, .inl (cA_2, 100, .inr (.inr (.inr (.inr (fun _ => none)))))), (q_3, .inl (cA_4, 96, .inl (fun _ => 0))), (q_5, .inl (cA_6, 96, .inl (fun _ => 0)))] := hD
  have hK : va_K D vwCl [(cA_2, .object RX7), (cA_4, .int), (cA_6, .int)] s := hK
  refine W.widen (k := 3) (n := 292) (Nat.le_of_ble_eq_true rfl) (Nat.le_of_ble_eq_true rfl) ?_
  refine va_putF (D := D) (ci := 1) (v := .ref q_5) (ty := .array .int) (C := RX1) (T := TX1) (N := 7) hx hb hts (fun w h => List.mem_cons_of_mem _ (inG1 w h)) tyX1 tyX1_ok nmX1 hown hK hP hD hS 0 rfl rfl 3 (by decide) (hts _ (List.mem_cons_of_mem _ gw_55)) (fun _ h9 => h9) rfl hin rfl (by decide +kernel) rfl rfl (Nat.le_of_ble_eq_true rfl) dX1_init_31 (fun H locs hP hD hS => ?_)
  have hP : va_P D vwCl [(h0, .inr (1, [.int 0, .ref q_1, .ref q_3, .ref q_5, .null, .null, .null])), (q_1, .inl (cA_2, 100, .inr (.inr (.inr (.inr (fun _ => none)))))), (q_3, .inl (cA_4, 96, .inl (fun _ => 0))), (q_5, .inl (cA_6, 96, .inl (fun _ => 0)))] H := hP
  have hD : va_D A [(h0, .inr (1, [.int 0, .ref q_1, .ref q_3, .ref q_5, .null, .null, .null])), (q_1, .inl (cA_2, 100, .inr (.inr (.inr (.inr (fun _ => none)))))), (q_3, .inl (cA_4, 96, .inl (fun _ => 0))), (q_5, .inl (cA_6, 96, .inl (fun _ => 0)))] := hD
  refine lv_aload_n hx hb dX1_init_34 rfl (lv_at hl 0 rfl) ?_
  refine lv_bipush (v := 96) hx hb dX1_init_35 (by decide) ?_
  refine va_newa (atype := .int) (ty := .int) (N' := 96) (a0 := (96, .inl (fun _ => 0))) hx hb (hts _ (List.mem_cons_of_mem _ gw_14)) rfl hK hP hD hS hA (fun _ => rfl) (by decide) (by decide +kernel) (by decide) (Nat.le_of_ble_eq_true rfl) (Nat.le_of_ble_eq_true rfl) dX1_init_37 (fun q_7 cA_8 H hK hP hD hS => ?_)
  have hP : va_P D vwCl [(h0, .inr (1, [.int 0, .ref q_1, .ref q_3, .ref q_5, .null, .null, .null])), (q_1, .inl (cA_2, 100, .inr (.inr (.inr (.inr (fun _ => none)))))), (q_3, .inl (cA_4, 96, .inl (fun _ => 0))), (q_5, .inl (cA_6, 96, .inl (fun _ => 0))), (q_7, .inl (cA_8, 96, .inl (fun _ => 0)))] H := hP
  have hD : va_D A [(h0, .inr (1, [.int 0, .ref q_1, .ref q_3, .ref q_5, .null, .null, .null])), (q_1, .inl (cA_2, 100, .inr (.inr (.inr (.inr (fun _ => none)))))), (q_3, .inl (cA_4, 96, .inl (fun _ => 0))), (q_5, .inl (cA_6, 96, .inl (fun _ => 0))), (q_7, .inl (cA_8, 96, .inl (fun _ => 0)))] := hD
  have hK : va_K D vwCl [(cA_2, .object RX7), (cA_4, .int), (cA_6, .int), (cA_8, .int)] s := hK
  refine W.widen (k := 4) (n := 388) (Nat.le_of_ble_eq_true rfl) (Nat.le_of_ble_eq_true rfl) ?_
  refine va_putF (D := D) (ci := 1) (v := .ref q_7) (ty := .array .int) (C := RX1) (T := TX1) (N := 7) hx hb hts (fun w h => List.mem_cons_of_mem _ (inG1 w h)) tyX1 tyX1_ok nmX1 hown hK hP hD hS 0 rfl rfl 4 (by decide) (hts _ (List.mem_cons_of_mem _ gw_66)) (fun _ h9 => h9) rfl hin rfl (by decide +kernel) rfl rfl (Nat.le_of_ble_eq_true rfl) dX1_init_39 (fun H locs hP hD hS => ?_)
  have hP : va_P D vwCl [(h0, .inr (1, [.int 0, .ref q_1, .ref q_3, .ref q_5, .ref q_7, .null, .null])), (q_1, .inl (cA_2, 100, .inr (.inr (.inr (.inr (fun _ => none)))))), (q_3, .inl (cA_4, 96, .inl (fun _ => 0))), (q_5, .inl (cA_6, 96, .inl (fun _ => 0))), (q_7, .inl (cA_8, 96, .inl (fun _ => 0)))] H := hP
  have hD : va_D A [(h0, .inr (1, [.int 0, .ref q_1, .ref q_3, .ref q_5, .ref q_7, .null, .null])), (q_1, .inl (cA_2, 100, .inr (.inr (.inr (.inr (fun _ => none)))))), (q_3, .inl (cA_4, 96, .inl (fun _ => 0))), (q_5, .inl (cA_6, 96, .inl (fun _ => 0))), (q_7, .inl (cA_8, 96, .inl (fun _ => 0)))] := hD
  refine lv_aload_n hx hb dX1_init_42 rfl (lv_at hl 0 rfl) ?_
  refine lv_bipush (v := 96) hx hb dX1_init_43 (by decide) ?_
  refine va_newa (atype := .int) (ty := .int) (N' := 96) (a0 := (96, .inl (fun _ => 0))) hx hb (hts _ (List.mem_cons_of_mem _ gw_14)) rfl hK hP hD hS hA (fun _ => rfl) (by decide) (by decide +kernel) (by decide) (Nat.le_of_ble_eq_true rfl) (Nat.le_of_ble_eq_true rfl) dX1_init_45 (fun q_9 cA_10 H hK hP hD hS => ?_)
  have hP : va_P D vwCl [(h0, .inr (1, [.int 0, .ref q_1, .ref q_3, .ref q_5, .ref q_7, .null, .null])), (q_1, .inl (cA_2, 100, .inr (.inr (.inr (.inr (fun _ => none)))))), (q_3, .inl (cA_4, 96, .inl (fun _ => 0))), (q_5, .inl (cA_6, 96, .inl (fun _ => 0))), (q_7, .inl (cA_8, 96, .inl (fun _ => 0))), (q_9, .inl (cA_10, 96, .inl (fun _ => 0)))] H := hP
  have hD : va_D A [(h0, .inr (1, [.int 0, .ref q_1, .ref q_3, .ref q_5, .ref q_7, .null, .null])), (q_1, .inl (cA_2, 100, .inr (.inr (.inr (.inr (fun _ => none)))))), (q_3, .inl (cA_4, 96, .inl (fun _ => 0))), (q_5, .inl (cA_6, 96, .inl (fun _ => 0))), (q_7, .inl (cA_8, 96, .inl (fun _ => 0))), (q_9, .inl (cA_10, 96, .inl (fun _ => 0)))] := hD
  have hK : va_K D vwCl [(cA_2, .object RX7), (cA_4, .int), (cA_6, .int), (cA_8, .int), (cA_10, .int)] s := hK
  refine W.widen (k := 5) (n := 484) (Nat.le_of_ble_eq_true rfl) (Nat.le_of_ble_eq_true rfl) ?_
  refine va_putF (D := D) (ci := 1) (v := .ref q_9) (ty := .array .int) (C := RX1) (T := TX1) (N := 7) hx hb hts (fun w h => List.mem_cons_of_mem _ (inG1 w h)) tyX1 tyX1_ok nmX1 hown hK hP hD hS 0 rfl rfl 5 (by decide) (hts _ (List.mem_cons_of_mem _ gw_67)) (fun _ h9 => h9) rfl hin rfl (by decide +kernel) rfl rfl (Nat.le_of_ble_eq_true rfl) dX1_init_47 (fun H locs hP hD hS => ?_)
  have hP : va_P D vwCl [(h0, .inr (1, [.int 0, .ref q_1, .ref q_3, .ref q_5, .ref q_7, .ref q_9, .null])), (q_1, .inl (cA_2, 100, .inr (.inr (.inr (.inr (fun _ => none)))))), (q_3, .inl (cA_4, 96, .inl (fun _ => 0))), (q_5, .inl (cA_6, 96, .inl (fun _ => 0))), (q_7, .inl (cA_8, 96, .inl (fun _ => 0))), (q_9, .inl (cA_10, 96, .inl (fun _ => 0)))] H := hP
  have hD : va_D A [(h0, .inr (1, [.int 0, .ref q_1, .ref q_3, .ref q_5, .ref q_7, .ref q_9, .null])), (q_1, .inl (cA_2, 100, .inr (.inr (.inr (.inr (fun _ => none)))))), (q_3, .inl (cA_4, 96, .inl (fun _ => 0))), (q_5, .inl (cA_6, 96, .inl (fun _ => 0))), (q_7, .inl (cA_8, 96, .inl (fun _ => 0))), (q_9, .inl (cA_10, 96, .inl (fun _ => 0)))] := hD
  refine lv_aload_n hx hb dX1_init_50 rfl (lv_at hl 0 rfl) ?_
  refine lv_bipush (v := 16) hx hb dX1_init_51 (by decide) ?_
  refine va_newa (atype := .int) (ty := .int) (N' := 16) (a0 := (16, .inl (fun _ => 0))) hx hb (hts _ (List.mem_cons_of_mem _ gw_14)) rfl hK hP hD hS hA (fun _ => rfl) (by decide) (by decide +kernel) (by decide) (Nat.le_of_ble_eq_true rfl) (Nat.le_of_ble_eq_true rfl) dX1_init_53 (fun q_11 cA_12 H hK hP hD hS => ?_)
  have hP : va_P D vwCl [(h0, .inr (1, [.int 0, .ref q_1, .ref q_3, .ref q_5, .ref q_7, .ref q_9, .null])), (q_1, .inl (cA_2, 100, .inr (.inr (.inr (.inr (fun _ => none)))))), (q_3, .inl (cA_4, 96, .inl (fun _ => 0))), (q_5, .inl (cA_6, 96, .inl (fun _ => 0))), (q_7, .inl (cA_8, 96, .inl (fun _ => 0))), (q_9, .inl (cA_10, 96, .inl (fun _ => 0))), (q_11, .inl (cA_12, 16, .inl (fun _ => 0)))] H := hP
  have hD : va_D A [(h0, .inr (1, [.int 0, .ref q_1, .ref q_3, .ref q_5, .ref q_7, .ref q_9, .null])), (q_1, .inl (cA_2, 100, .inr (.inr (.inr (.inr (fun _ => none)))))), (q_3, .inl (cA_4, 96, .inl (fun _ => 0))), (q_5, .inl (cA_6, 96, .inl (fun _ => 0))), (q_7, .inl (cA_8, 96, .inl (fun _ => 0))), (q_9, .inl (cA_10, 96, .inl (fun _ => 0))), (q_11, .inl (cA_12, 16, .inl (fun _ => 0)))] := hD
  have hK : va_K D vwCl [(cA_2, .object RX7), (cA_4, .int), (cA_6, .int), (cA_8, .int), (cA_10, .int), (cA_12, .int)] s := hK
  refine W.widen (k := 6) (n := 500) (Nat.le_of_ble_eq_true rfl) (Nat.le_of_ble_eq_true rfl) ?_
  refine va_putF (D := D) (ci := 1) (v := .ref q_11) (ty := .array .int) (C := RX1) (T := TX1) (N := 7) hx hb hts (fun w h => List.mem_cons_of_mem _ (inG1 w h)) tyX1 tyX1_ok nmX1 hown hK hP hD hS 0 rfl rfl 6 (by decide) (hts _ (List.mem_cons_of_mem _ gw_60)) (fun _ h9 => h9) rfl hin rfl (by decide +kernel) rfl rfl (Nat.le_of_ble_eq_true rfl) dX1_init_55 (fun H locs hP hD hS => ?_)
  have hP : va_P D vwCl [(h0, .inr (1, [.int 0, .ref q_1, .ref q_3, .ref q_5, .ref q_7, .ref q_9, .ref q_11])), (q_1, .inl (cA_2, 100, .inr (.inr (.inr (.inr (fun _ => none)))))), (q_3, .inl (cA_4, 96, .inl (fun _ => 0))), (q_5, .inl (cA_6, 96, .inl (fun _ => 0))), (q_7, .inl (cA_8, 96, .inl (fun _ => 0))), (q_9, .inl (cA_10, 96, .inl (fun _ => 0))), (q_11, .inl (cA_12, 16, .inl (fun _ => 0)))] H := hP
  have hD : va_D A [(h0, .inr (1, [.int 0, .ref q_1, .ref q_3, .ref q_5, .ref q_7, .ref q_9, .ref q_11])), (q_1, .inl (cA_2, 100, .inr (.inr (.inr (.inr (fun _ => none)))))), (q_3, .inl (cA_4, 96, .inl (fun _ => 0))), (q_5, .inl (cA_6, 96, .inl (fun _ => 0))), (q_7, .inl (cA_8, 96, .inl (fun _ => 0))), (q_9, .inl (cA_10, 96, .inl (fun _ => 0))), (q_11, .inl (cA_12, 16, .inl (fun _ => 0)))] := hD
  refine lv_aload_n hx hb dX1_init_58 rfl (lv_at hl 0 rfl) ?_
  refine fr_i (wr := [(q_1, .inl (cA_2, 100, .inr (.inr (.inr (.inr (fun _ => none))))))]) (va_runV (As := []) (rest := []) ⟨hx, hb, hml, hown, hts⟩ (c_X1_settle l D H.size h0 ([.int 0, .ref q_1, .ref q_3, .ref q_5, .ref q_7, .ref q_9, .ref q_11]) q_3 q_5 q_7 q_9 q_11 cA_4 cA_6 cA_8 cA_10 cA_12 (fun _ => 0) (fun _ => 0) (fun _ => 0) (fun _ => 0) (fun _ => 0) rfl rfl rfl rfl rfl rfl) (cwV 0 hts (gV (fun w h => List.mem_cons_of_mem _ h) gw_87 gw_88 gw_89 gw_65 gw_86) rfl rfl rfl (by decide +kernel) ⟨Nat.le_of_ble_eq_true rfl, Nat.le_of_ble_eq_true rfl⟩) (pw_V [0, 2, 3, 4, 5, 6] [1, 2, 3, 4, 5] hP hD hK hN rfl rfl (by decide) rfl (ci := 1) (q0 := 0) rfl rfl) rfl rfl hl.1 rfl (lv_room (Nat.le_of_ble_eq_true rfl)) dX1_init_59 ⟨Nat.le_of_ble_eq_true rfl, Nat.le_of_ble_eq_true rfl⟩) hP hD hK hS hA [0, 2, 3, 4, 5, 6] [1] rfl rfl (by decide) (by decide) (fun r_14 u_13 H locs hw_15 hP hD hK hS => ?_)
  obtain ⟨ufl_16, ufh_17, ufe_18, ufg_19, ufp_20⟩ := u_13
  try dsimp only at hw_15
  have hP : va_P D vwCl [(q_1, .inl (cA_2, 100, .inr (.inr (.inr (.inr (fun _ => none)))))), (h0, .inr (1, [.int 0, .ref q_1, .ref q_3, .ref q_5, .ref q_7, .ref q_9, .ref q_11])), (q_3, .inl (cA_4, 96, .inl ufl_16)), (q_5, .inl (cA_6, 96, .inl ufh_17)), (q_7, .inl (cA_8, 96, .inl ufe_18)), (q_9, .inl (cA_10, 96, .inl ufg_19)), (q_11, .inl (cA_12, 16, .inl ufp_20))] H := hP
  have hD : va_D A [(q_1, .inl (cA_2, 100, .inr (.inr (.inr (.inr (fun _ => none)))))), (h0, .inr (1, [.int 0, .ref q_1, .ref q_3, .ref q_5, .ref q_7, .ref q_9, .ref q_11])), (q_3, .inl (cA_4, 96, .inl ufl_16)), (q_5, .inl (cA_6, 96, .inl ufh_17)), (q_7, .inl (cA_8, 96, .inl ufe_18)), (q_9, .inl (cA_10, 96, .inl ufg_19)), (q_11, .inl (cA_12, 16, .inl ufp_20))] := hD
  have hK : va_K D vwCl [(cA_2, .object RX7), (cA_4, .int), (cA_6, .int), (cA_8, .int), (cA_10, .int), (cA_12, .int)] s := hK
  refine W.widen (k := 6) (n := 500) (Nat.le_of_ble_eq_true rfl) (Nat.le_of_ble_eq_true rfl) ?_
  refine lv_pop hx hb dX1_init_62 rfl ?_
  have hP9 := hP.sub (ws' := [(h0, .inr (1, [.int 0, .ref q_1, .ref q_3, .ref q_5, .ref q_7, .ref q_9, .ref q_11]))]) [1] rfl
  have hD9 := hD.sub (ws' := [(h0, .inr (1, [.int 0, .ref q_1, .ref q_3, .ref q_5, .ref q_7, .ref q_9, .ref q_11]))]) [1] (by decide) rfl
  have hK9 := hK.sub (tys' := []) [] rfl
  refine W.widen (k := 6) (n := 500) (Nat.le_of_ble_eq_true rfl) (Nat.le_of_ble_eq_true rfl) ?_
  exact W.vret hx hb hr (fun t ht hW => ⟨⟨(q_1, q_3, q_5, q_7, q_9, q_11), rfl, (by first | trivial | rfl), by rw [ht]; exact hP9, va_K.moved hW.alike hK9, hD9⟩, hS.F ht⟩) hS.2.2 dX1_init_63
