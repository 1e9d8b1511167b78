theorem dX8_month_0 : decode cX8_month 0 = .ok (.iload_n 1, 1) := by decide +kernel
theorem dX8_month_1 : decode cX8_month 1 = .ok (.iconst 1, 1) := by decide +kernel
theorem dX8_month_2 : decode cX8_month 2 = .ok (.bipush 24, 2) := by decide +kernel
theorem dX8_month_4 : decode cX8_month 4 = .ok (.invokestatic 101, 3) := by decide +kernel
theorem dX8_month_7 : decode cX8_month 7 = .ok (.ifCond .eq 15, 3) := by decide +kernel
theorem dX8_month_22 : decode cX8_month 22 = .ok (.iconst (-1), 1) := by decide +kernel
theorem dX8_month_23 : decode cX8_month 23 = .ok (.ireturn, 1) := by decide +kernel
theorem dX8_month_10 : decode cX8_month 10 = .ok (.aload_n 0, 1) := by decide +kernel
theorem dX8_month_11 : decode cX8_month 11 = .ok (.getfield 67, 3) := by decide +kernel
theorem dX8_month_14 : decode cX8_month 14 = .ok (.iload_n 1, 1) := by decide +kernel
theorem dX8_month_15 : decode cX8_month 15 = .ok (.iadd, 1) := by decide +kernel
theorem dX8_month_16 : decode cX8_month 16 = .ok (.sipush 600, 3) := by decide +kernel
theorem dX8_month_19 : decode cX8_month 19 = .ok (.if_icmp .le 5, 3) := by decide +kernel
theorem dX8_month_24 : decode cX8_month 24 = .ok (.iconst 0, 1) := by decide +kernel
theorem dX8_month_25 : decode cX8_month 25 = .ok (.istore_n 2, 1) := by decide +kernel
theorem dX8_month_26 : decode cX8_month 26 = .ok (.iload_n 2, 1) := by decide +kernel
theorem dX8_month_27 : decode cX8_month 27 = .ok (.iload_n 1, 1) := by decide +kernel
theorem dX8_month_28 : decode cX8_month 28 = .ok (.if_icmp .ge 13, 3) := by decide +kernel
theorem dX8_month_41 : decode cX8_month 41 = .ok (.aload_n 0, 1) := by decide +kernel
theorem dX8_month_42 : decode cX8_month 42 = .ok (.iconst 0, 1) := by decide +kernel
theorem dX8_month_43 : decode cX8_month 43 = .ok (.putfield 76, 3) := by decide +kernel
theorem dX8_month_46 : decode cX8_month 46 = .ok (.aload_n 0, 1) := by decide +kernel
theorem dX8_month_47 : decode cX8_month 47 = .ok (.getfield 67, 3) := by decide +kernel
theorem dX8_month_50 : decode cX8_month 50 = .ok (.ireturn, 1) := by decide +kernel
theorem dX8_month_31 : decode cX8_month 31 = .ok (.aload_n 0, 1) := by decide +kernel
theorem dX8_month_32 : decode cX8_month 32 = .ok (.invokevirtual 293, 3) := by decide +kernel
theorem dX8_month_35 : decode cX8_month 35 = .ok (.iinc 2 1, 3) := by decide +kernel
theorem dX8_month_38 : decode cX8_month 38 = .ok (.goto (-12), 3) := by decide +kernel
theorem dX8_ahead_0 : decode cX8_ahead 0 = .ok (.iload_n 1, 1) := by decide +kernel
theorem dX8_ahead_1 : decode cX8_ahead 1 = .ok (.iconst 0, 1) := by decide +kernel
theorem dX8_ahead_2 : decode cX8_ahead 2 = .ok (.bipush 12, 2) := by decide +kernel
theorem dX8_ahead_4 : decode cX8_ahead 4 = .ok (.invokestatic 101, 3) := by decide +kernel
theorem dX8_ahead_7 : decode cX8_ahead 7 = .ok (.ifCond .ne 5, 3) := by decide +kernel
theorem dX8_ahead_12 : decode cX8_ahead 12 = .ok (.aload_n 0, 1) := by decide +kernel
theorem dX8_ahead_13 : decode cX8_ahead 13 = .ok (.getfield 67, 3) := by decide +kernel
theorem dX8_ahead_16 : decode cX8_ahead 16 = .ok (.istore_n 2, 1) := by decide +kernel
theorem dX8_ahead_17 : decode cX8_ahead 17 = .ok (.iconst 0, 1) := by decide +kernel
theorem dX8_ahead_18 : decode cX8_ahead 18 = .ok (.istore_n 3, 1) := by decide +kernel
theorem dX8_ahead_19 : decode cX8_ahead 19 = .ok (.iload_n 3, 1) := by decide +kernel
theorem dX8_ahead_20 : decode cX8_ahead 20 = .ok (.aload_n 0, 1) := by decide +kernel
theorem dX8_ahead_21 : decode cX8_ahead 21 = .ok (.getfield 61, 3) := by decide +kernel
theorem dX8_ahead_24 : decode cX8_ahead 24 = .ok (.if_icmp .ge 18, 3) := by decide +kernel
theorem dX8_ahead_42 : decode cX8_ahead 42 = .ok (.iconst 0, 1) := by decide +kernel
theorem dX8_ahead_43 : decode cX8_ahead 43 = .ok (.istore_n 3, 1) := by decide +kernel
theorem dX8_ahead_44 : decode cX8_ahead 44 = .ok (.iconst 0, 1) := by decide +kernel
theorem dX8_ahead_45 : decode cX8_ahead 45 = .ok (.istore 4, 2) := by decide +kernel
theorem dX8_ahead_47 : decode cX8_ahead 47 = .ok (.iload 4, 2) := by decide +kernel
theorem dX8_ahead_49 : decode cX8_ahead 49 = .ok (.iload_n 1, 1) := by decide +kernel
theorem dX8_ahead_50 : decode cX8_ahead 50 = .ok (.if_icmp .ge 36, 3) := by decide +kernel
theorem dX8_ahead_86 : decode cX8_ahead 86 = .ok (.iconst 0, 1) := by decide +kernel
theorem dX8_ahead_87 : decode cX8_ahead 87 = .ok (.istore 4, 2) := by decide +kernel
theorem dX8_ahead_89 : decode cX8_ahead 89 = .ok (.iload 4, 2) := by decide +kernel
theorem dX8_ahead_91 : decode cX8_ahead 91 = .ok (.aload_n 0, 1) := by decide +kernel
theorem dX8_ahead_92 : decode cX8_ahead 92 = .ok (.getfield 61, 3) := by decide +kernel
theorem dX8_ahead_95 : decode cX8_ahead 95 = .ok (.if_icmp .ge 19, 3) := by decide +kernel
theorem dX8_ahead_114 : decode cX8_ahead 114 = .ok (.aload_n 0, 1) := by decide +kernel
theorem dX8_ahead_115 : decode cX8_ahead 115 = .ok (.iload_n 2, 1) := by decide +kernel
theorem dX8_ahead_116 : decode cX8_ahead 116 = .ok (.putfield 67, 3) := by decide +kernel
theorem dX8_ahead_119 : decode cX8_ahead 119 = .ok (.iload_n 3, 1) := by decide +kernel
theorem dX8_ahead_120 : decode cX8_ahead 120 = .ok (.ireturn, 1) := by decide +kernel
theorem dX8_ahead_53 : decode cX8_ahead 53 = .ok (.aload_n 0, 1) := by decide +kernel
theorem dX8_ahead_54 : decode cX8_ahead 54 = .ok (.invokevirtual 241, 3) := by decide +kernel
theorem dX8_ahead_57 : decode cX8_ahead 57 = .ok (.getfield 299, 3) := by decide +kernel
theorem dX8_ahead_60 : decode cX8_ahead 60 = .ok (.istore 5, 2) := by decide +kernel
theorem dX8_ahead_62 : decode cX8_ahead 62 = .ok (.aload_n 0, 1) := by decide +kernel
theorem dX8_ahead_63 : decode cX8_ahead 63 = .ok (.iload 5, 2) := by decide +kernel
theorem dX8_ahead_65 : decode cX8_ahead 65 = .ok (.invokevirtual 284, 3) := by decide +kernel
theorem dX8_ahead_68 : decode cX8_ahead 68 = .ok (.iload_n 3, 1) := by decide +kernel
theorem dX8_ahead_69 : decode cX8_ahead 69 = .ok (.iload 5, 2) := by decide +kernel
theorem dX8_ahead_71 : decode cX8_ahead 71 = .ok (.invokestatic 217, 3) := by decide +kernel
theorem dX8_ahead_74 : decode cX8_ahead 74 = .ok (.iadd, 1) := by decide +kernel
theorem dX8_ahead_75 : decode cX8_ahead 75 = .ok (.istore_n 3, 1) := by decide +kernel
theorem dX8_ahead_76 : decode cX8_ahead 76 = .ok (.aload_n 0, 1) := by decide +kernel
theorem dX8_ahead_77 : decode cX8_ahead 77 = .ok (.invokevirtual 293, 3) := by decide +kernel
theorem dX8_ahead_80 : decode cX8_ahead 80 = .ok (.iinc 4 1, 3) := by decide +kernel
theorem dX8_ahead_83 : decode cX8_ahead 83 = .ok (.goto (-36), 3) := by decide +kernel
theorem dX8_ahead_10 : decode cX8_ahead 10 = .ok (.iconst (-1), 1) := by decide +kernel
theorem dX8_ahead_11 : decode cX8_ahead 11 = .ok (.ireturn, 1) := by decide +kernel
theorem dX8_count_0 : decode cX8_count 0 = .ok (.iload_n 1, 1) := by decide +kernel
theorem dX8_count_1 : decode cX8_count 1 = .ok (.tableswitch 150 0 12 #[67, 72, 77, 82, 90, 98, 106, 114, 125, 130, 135, 140, 145], 67) := by decide +kernel
theorem dX8_count_151 : decode cX8_count 151 = .ok (.iconst (-1), 1) := by decide +kernel
theorem dX8_count_152 : decode cX8_count 152 = .ok (.ireturn, 1) := by decide +kernel
theorem dX8_count_68 : decode cX8_count 68 = .ok (.aload_n 0, 1) := by decide +kernel
theorem dX8_count_69 : decode cX8_count 69 = .ok (.getfield 67, 3) := by decide +kernel
theorem dX8_count_72 : decode cX8_count 72 = .ok (.ireturn, 1) := by decide +kernel
theorem dX8_count_73 : decode cX8_count 73 = .ok (.aload_n 0, 1) := by decide +kernel
theorem dX8_count_74 : decode cX8_count 74 = .ok (.getfield 57, 3) := by decide +kernel
theorem dX8_count_77 : decode cX8_count 77 = .ok (.ireturn, 1) := by decide +kernel
theorem dX8_count_78 : decode cX8_count 78 = .ok (.aload_n 0, 1) := by decide +kernel
theorem dX8_count_79 : decode cX8_count 79 = .ok (.getfield 61, 3) := by decide +kernel
theorem dX8_count_82 : decode cX8_count 82 = .ok (.ireturn, 1) := by decide +kernel
theorem dX8_count_83 : decode cX8_count 83 = .ok (.aload_n 0, 1) := by decide +kernel
theorem dX8_count_84 : decode cX8_count 84 = .ok (.getfield 24, 3) := by decide +kernel
theorem dX8_count_87 : decode cX8_count 87 = .ok (.getfield 158, 3) := by decide +kernel
theorem dX8_count_90 : decode cX8_count 90 = .ok (.ireturn, 1) := by decide +kernel
theorem dX8_count_91 : decode cX8_count 91 = .ok (.aload_n 0, 1) := by decide +kernel
theorem dX8_count_92 : decode cX8_count 92 = .ok (.getfield 24, 3) := by decide +kernel
theorem dX8_count_95 : decode cX8_count 95 = .ok (.invokevirtual 351, 3) := by decide +kernel
theorem dX8_count_98 : decode cX8_count 98 = .ok (.ireturn, 1) := by decide +kernel
theorem dX8_count_99 : decode cX8_count 99 = .ok (.aload_n 0, 1) := by decide +kernel
theorem dX8_count_100 : decode cX8_count 100 = .ok (.getfield 45, 3) := by decide +kernel
theorem dX8_count_103 : decode cX8_count 103 = .ok (.getfield 263, 3) := by decide +kernel
theorem dX8_count_106 : decode cX8_count 106 = .ok (.ireturn, 1) := by decide +kernel
theorem dX8_count_107 : decode cX8_count 107 = .ok (.aload_n 0, 1) := by decide +kernel
theorem dX8_count_108 : decode cX8_count 108 = .ok (.getfield 45, 3) := by decide +kernel
theorem dX8_count_111 : decode cX8_count 111 = .ok (.getfield 290, 3) := by decide +kernel
theorem dX8_count_114 : decode cX8_count 114 = .ok (.ireturn, 1) := by decide +kernel
theorem dX8_count_115 : decode cX8_count 115 = .ok (.aload_n 0, 1) := by decide +kernel
theorem dX8_count_116 : decode cX8_count 116 = .ok (.getfield 45, 3) := by decide +kernel
theorem dX8_count_119 : decode cX8_count 119 = .ok (.getfield 281, 3) := by decide +kernel
theorem dX8_count_122 : decode cX8_count 122 = .ok (.invokestatic 217, 3) := by decide +kernel
theorem dX8_count_125 : decode cX8_count 125 = .ok (.ireturn, 1) := by decide +kernel
theorem dX8_count_126 : decode cX8_count 126 = .ok (.aload_n 0, 1) := by decide +kernel
theorem dX8_count_127 : decode cX8_count 127 = .ok (.invokevirtual 355, 3) := by decide +kernel
theorem dX8_count_130 : decode cX8_count 130 = .ok (.ireturn, 1) := by decide +kernel
theorem dX8_count_131 : decode cX8_count 131 = .ok (.aload_n 0, 1) := by decide +kernel
theorem dX8_count_132 : decode cX8_count 132 = .ok (.getfield 80, 3) := by decide +kernel
theorem dX8_count_135 : decode cX8_count 135 = .ok (.ireturn, 1) := by decide +kernel
theorem dX8_count_136 : decode cX8_count 136 = .ok (.aload_n 0, 1) := by decide +kernel
theorem dX8_count_137 : decode cX8_count 137 = .ok (.getfield 83, 3) := by decide +kernel
theorem dX8_count_140 : decode cX8_count 140 = .ok (.ireturn, 1) := by decide +kernel
theorem dX8_count_141 : decode cX8_count 141 = .ok (.aload_n 0, 1) := by decide +kernel
theorem dX8_count_142 : decode cX8_count 142 = .ok (.getfield 86, 3) := by decide +kernel
theorem dX8_count_145 : decode cX8_count 145 = .ok (.ireturn, 1) := by decide +kernel
theorem dX8_count_146 : decode cX8_count 146 = .ok (.aload_n 0, 1) := by decide +kernel
theorem dX8_count_147 : decode cX8_count 147 = .ok (.getfield 89, 3) := by decide +kernel
theorem dX8_count_150 : decode cX8_count 150 = .ok (.ireturn, 1) := by decide +kernel
set_option maxHeartbeats 4000000 in
set_option maxRecDepth 100000 in
theorem c_X8_month (l : Launch) (D : va_G) (sz : Nat) (h0 : Nat) (a1 : Nat) (a2 : Nat) (a3 : Nat) (a4 : Nat) (a5 : Nat) (a6 : Nat) (a7 : Nat) (m1 : Nat) (m2 : Nat) (m3 : Nat) (m4 : Nat) (m5 : Nat) (m6 : Nat) (b1 : Nat) (b2 : Nat) (b3 : Nat) (b4 : Nat) (b5 : Nat) (b6 : Nat) (p1 : Nat) (p2 : Nat) (p3 : Nat) (p4 : Nat) (p5 : Nat) (k1 : ClassId) (k2 : ClassId) (k3 : ClassId) (k4 : ClassId) (x1 : Int32) : Met l yX8_month (.code yX8_month cX8_month 3 (some .int) :: G) ({ frames := 4, cells := 0, slots := 0, locals := 68 }) (va_Pc [.ref h0, .int x1] (pw D sz [(h0, .inr (8, [.ref a1, .ref a2, .ref a3, .ref a4, .ref a5, .ref a6, .ref a7, .null, .int 0, .int 0, .int 0, .int 0, .int 100, .int 10, .int 0, .int 0, .int 0, .int 0, .int 0])), (a1, .inl (k1, 4, .inr (.inr (.inr (.inr (fun _ => none)))))), (a2, .inl (k2, 12, .inr (.inr (.inr (.inr (fun _ => none)))))), (a3, .inr (1, [.int 0, .ref m1, .ref m2, .ref m3, .ref m4, .ref m5, .ref m6])), (a5, .inr (6, [.ref b1, .ref b2, .ref b3, .ref b4, .ref b5, .ref b6, .int 0, .int 0])), (b1, .inl (k3, 12, .inl (fun _ => 0))), (b2, .inl (k4, 12, .inl (fun _ => 0))), (a6, .inr (4, [.ref p1, .ref p2, .ref p3, .ref p4, .ref p5, .int 0, .int 0, .int 0, .int 0, .int 0]))] [(k1, .object RX0), (k2, .object RX3), (k3, .int), (k4, .int)])) (va_Qi (fun (r : Int32) (u : Unit) => r = (if isW x1 1 24 = 0 then -1 else x1)) (fun (u : Unit) => qw D (va_A [(h0, .inr (8, [.ref a1, .ref a2, .ref a3, .ref a4, .ref a5, .ref a6, .ref a7, .null, .int 0, .int 0, .int 0, .int 0, .int 100, .int 10, .int 0, .int 0, .int 0, .int 0, .int 0])), (a1, .inl (k1, 4, .inr (.inr (.inr (.inr (fun _ => none)))))), (a2, .inl (k2, 12, .inr (.inr (.inr (.inr (fun _ => none)))))), (a3, .inr (1, [.int 0, .ref m1, .ref m2, .ref m3, .ref m4, .ref m5, .ref m6])), (a5, .inr (6, [.ref b1, .ref b2, .ref b3, .ref b4, .ref b5, .ref b6, .int 0, .int 0])), (b1, .inl (k3, 12, .inl (fun _ => 0))), (b2, .inl (k4, 12, .inl (fun _ => 0))), (a6, .inr (4, [.ref p1, .ref p2, .ref p3, .ref p4, .ref p5, .int 0, .int 0, .int 0, .int 0, .int 0]))] sz) [] []) (va_A [(h0, .inr (8, [.ref a1, .ref a2, .ref a3, .ref a4, .ref a5, .ref a6, .ref a7, .null, .int 0, .int 0, .int 0, .int 0, .int 100, .int 10, .int 0, .int 0, .int 0, .int 0, .int 0])), (a1, .inl (k1, 4, .inr (.inr (.inr (.inr (fun _ => none)))))), (a2, .inl (k2, 12, .inr (.inr (.inr (.inr (fun _ => none)))))), (a3, .inr (1, [.int 0, .ref m1, .ref m2, .ref m3, .ref m4, .ref m5, .ref m6])), (a5, .inr (6, [.ref b1, .ref b2, .ref b3, .ref b4, .ref b5, .ref b6, .int 0, .int 0])), (b1, .inl (k3, 12, .inl (fun _ => 0))), (b2, .inl (k4, 12, .inl (fun _ => 0))), (a6, .inr (4, [.ref p1, .ref p2, .ref p3, .ref p4, .ref p5, .int 0, .int 0, .int 0, .int 0, .int 0]))] sz)) 0 0 (va_A [(h0, .inr (8, [.ref a1, .ref a2, .ref a3, .ref a4, .ref a5, .ref a6, .ref a7, .null, .int 0, .int 0, .int 0, .int 0, .int 100, .int 10, .int 0, .int 0, .int 0, .int 0, .int 0])), (a1, .inl (k1, 4, .inr (.inr (.inr (.inr (fun _ => none)))))), (a2, .inl (k2, 12, .inr (.inr (.inr (.inr (fun _ => none)))))), (a3, .inr (1, [.int 0, .ref m1, .ref m2, .ref m3, .ref m4, .ref m5, .ref m6])), (a5, .inr (6, [.ref b1, .ref b2, .ref b3, .ref b4, .ref b5, .ref b6, .int 0, .int 0])), (b1, .inl (k3, 12, .inl (fun _ => 0))), (b2, .inl (k4, 12, .inl (fun _ => 0))), (a6, .inr (4, [.ref p1, .ref p2, .ref p3, .ref p4, .ref p5, .int 0, .int 0, .int 0, .int 0, .int 0]))] sz) := by
  refine Met.ofW (cc := cX8_month) (maxL := 3) (ret := (some .int)) (by decide) rfl ?_
  intro p e s m args below meth c s₁ B hml hv
  obtain ⟨rfl, hsz, hP, hK, hD0, hN⟩ := hv
  have hx := B.exec
  have hb := B.bytes
  have hr := B.returns
  have hts := atoms_spec (ws := (.code yX8_month cX8_month 3 (some .int) :: G)) B.pre
  have hown : s.vm.findClass RX8 = some m.cls := findClass_of_methodNamed B.named
  have hlocks := B.notSynchronized
  subst hsz
  have hD := hD0.self (sz := s.heap.size)
  generalize hAe : va_A [(h0, .inr (8, [.ref a1, .ref a2, .ref a3, .ref a4, .ref a5, .ref a6, .ref a7, .null, .int 0, .int 0, .int 0, .int 0, .int 100, .int 10, .int 0, .int 0, .int 0, .int 0, .int 0])), (a1, .inl (k1, 4, .inr (.inr (.inr (.inr (fun _ => none)))))), (a2, .inl (k2, 12, .inr (.inr (.inr (.inr (fun _ => none)))))), (a3, .inr (1, [.int 0, .ref m1, .ref m2, .ref m3, .ref m4, .ref m5, .ref m6])), (a5, .inr (6, [.ref b1, .ref b2, .ref b3, .ref b4, .ref b5, .ref b6, .int 0, .int 0])), (b1, .inl (k3, 12, .inl (fun _ => 0))), (b2, .inl (k4, 12, .inl (fun _ => 0))), (a6, .inr (4, [.ref p1, .ref p2, .ref p3, .ref p4, .ref p5, .int 0, .int 0, .int 0, .int 0, .int 0]))] s.heap.size = A at hD ⊢
  have hA : ∀ q : Nat, s.heap.size ≤ q → A q := fun q h => by rw [← hAe]; exact Or.inr h
  have hS : va_S A s.heap s.heap [] := va_S.rf
  have hP : va_P D vwCl [(h0, .inr (8, [.ref a1, .ref a2, .ref a3, .ref a4, .ref a5, .ref a6, .ref a7, .null, .int 0, .int 0, .int 0, .int 0, .int 100, .int 10, .int 0, .int 0, .int 0, .int 0, .int 0])), (a1, .inl (k1, 4, .inr (.inr (.inr (.inr (fun _ => none)))))), (a2, .inl (k2, 12, .inr (.inr (.inr (.inr (fun _ => none)))))), (a3, .inr (1, [.int 0, .ref m1, .ref m2, .ref m3, .ref m4, .ref m5, .ref m6])), (a5, .inr (6, [.ref b1, .ref b2, .ref b3, .ref b4, .ref b5, .ref b6, .int 0, .int 0])), (b1, .inl (k3, 12, .inl (fun _ => 0))), (b2, .inl (k4, 12, .inl (fun _ => 0))), (a6, .inr (4, [.ref p1, .ref p2, .ref p3, .ref p4, .ref p5, .int 0, .int 0, .int 0, .int 0, .int 0]))] s.heap := hP
  have hl := lv_entry ([.ref h0, .int x1]) (n := 3) (Nat.le_of_ble_eq_true rfl)
  rw [lg_entry_eq]
  generalize (lg_sl ([.ref h0, .int x1]) ++ List.replicate (3 - (lg_sl ([.ref h0, .int x1])).length) Slot.unset).toArray = ls at hl ⊢
  have hl : lv_has ls 3 [(0, .ref h0), (1, .int x1)] := hl
  refine lv_iload_n hx hb dX8_month_0 rfl (lv_at hl 1 rfl) ?_
  refine lv_iconst (v := 1) hx hb dX8_month_1 (by decide) ?_
  refine lv_bipush (v := 24) hx hb dX8_month_2 (by decide) ?_
  refine fr_i (wr := [(h0, .inr (8, [.ref a1, .ref a2, .ref a3, .ref a4, .ref a5, .ref a6, .ref a7, .null, .int 0, .int 0, .int 0, .int 0, .int 100, .int 10, .int 0, .int 0, .int 0, .int 0, .int 0])), (a1, .inl (k1, 4, .inr (.inr (.inr (.inr (fun _ => none)))))), (a2, .inl (k2, 12, .inr (.inr (.inr (.inr (fun _ => none)))))), (a3, .inr (1, [.int 0, .ref m1, .ref m2, .ref m3, .ref m4, .ref m5, .ref m6])), (a5, .inr (6, [.ref b1, .ref b2, .ref b3, .ref b4, .ref b5, .ref b6, .int 0, .int 0])), (b1, .inl (k3, 12, .inl (fun _ => 0))), (b2, .inl (k4, 12, .inl (fun _ => 0))), (a6, .inr (4, [.ref p1, .ref p2, .ref p3, .ref p4, .ref p5, .int 0, .int 0, .int 0, .int 0, .int 0]))]) (va_runS (As := [.int x1, .int 1, .int 24]) (rest := []) ⟨hx, hb, hml, hown, hts⟩ (c_X8_isWithin l D s.heap.size x1 1 24 ) (va_cwS 3 hts (gS (fun w h => List.mem_cons_of_mem _ h) gw_1 gw_2 gw_3 gw_0) rfl rfl rfl (by decide +kernel) ⟨Nat.le_of_ble_eq_true rfl, Nat.le_of_ble_eq_true rfl⟩) (pw_S [] [] hP hD hK hN rfl rfl (by decide) rfl) rfl rfl hl.1 rfl (lv_room (Nat.le_of_ble_eq_true rfl)) dX8_month_4 ⟨Nat.le_of_ble_eq_true rfl, Nat.le_of_ble_eq_true rfl⟩) hP hD hK hS hA [] [0, 1, 2, 3, 4, 5, 6, 7] rfl rfl (by decide) (by decide) (fun r_2 u_1 H locs hw_3 hP hD hK hS => ?_)
  try dsimp only at hw_3
  have hP : va_P D vwCl [(h0, .inr (8, [.ref a1, .ref a2, .ref a3, .ref a4, .ref a5, .ref a6, .ref a7, .null, .int 0, .int 0, .int 0, .int 0, .int 100, .int 10, .int 0, .int 0, .int 0, .int 0, .int 0])), (a1, .inl (k1, 4, .inr (.inr (.inr (.inr (fun _ => none)))))), (a2, .inl (k2, 12, .inr (.inr (.inr (.inr (fun _ => none)))))), (a3, .inr (1, [.int 0, .ref m1, .ref m2, .ref m3, .ref m4, .ref m5, .ref m6])), (a5, .inr (6, [.ref b1, .ref b2, .ref b3, .ref b4, .ref b5, .ref b6, .int 0, .int 0])), (b1, .inl (k3, 12, .inl (fun _ => 0))), (b2, .inl (k4, 12, .inl (fun _ => 0))), (a6, .inr (4, [.ref p1, .ref p2, .ref p3, .ref p4, .ref p5, .int 0, .int 0, .int 0, .int 0, .int 0]))] H := hP
  have hD : va_D A [(h0, .inr (8, [.ref a1, .ref a2, .ref a3, .ref a4, .ref a5, .ref a6, .ref a7, .null, .int 0, .int 0, .int 0, .int 0, .int 100, .int 10, .int 0, .int 0, .int 0, .int 0, .int 0])), (a1, .inl (k1, 4, .inr (.inr (.inr (.inr (fun _ => none)))))), (a2, .inl (k2, 12, .inr (.inr (.inr (.inr (fun _ => none)))))), (a3, .inr (1, [.int 0, .ref m1, .ref m2, .ref m3, .ref m4, .ref m5, .ref m6])), (a5, .inr (6, [.ref b1, .ref b2, .ref b3, .ref b4, .ref b5, .ref b6, .int 0, .int 0])), (b1, .inl (k3, 12, .inl (fun _ => 0))), (b2, .inl (k4, 12, .inl (fun _ => 0))), (a6, .inr (4, [.ref p1, .ref p2, .ref p3, .ref p4, .ref p5, .int 0, .int 0, .int 0, .int 0, .int 0]))] := hD
  have hK : va_K D vwCl [(k1, .object RX0), (k2, .object RX3), (k3, .int), (k4, .int)] s := hK
  refine W.widen (k := 0) (n := 0) (Nat.le_of_ble_eq_true rfl) (Nat.le_of_ble_eq_true rfl) ?_
  refine tI (y := isW x1 1 24) hw_3 ?_
  refine lv_if_eq (tgt := 22) hx hb dX8_month_7 (by decide) (fun c_4 => ?_) (fun c_4 => ?_)
  · skip
    refine lv_iconst (v := (-1)) hx hb dX8_month_22 (by decide) ?_
    have hP9 := hP.sub (ws' := []) [] rfl
    have hD9 := hD.sub (ws' := []) [] (by decide) rfl
    have hK9 := hK.sub (tys' := []) [] rfl
    refine W.widen (k := 0) (n := 0) (Nat.le_of_ble_eq_true rfl) (Nat.le_of_ble_eq_true rfl) ?_
    exact W.iret (v := (-1)) hx hb hr (fun t ht hW => ⟨⟨(-1), (), rfl, (if_pos c_4).symm, by rw [ht]; exact hP9, va_K.moved hW.alike hK9, hD9⟩, hS.F ht⟩) hS.2.2 dX8_month_23
  · skip
    obtain ⟨N1, hN1, hN2, eN⟩ := isW_nat (a := 1) (b := 24) c_4 rfl rfl (by decide) (by decide)
    have hl : lv_has ls 3 [(0, .ref h0), (1, .int (nI N1))] := by rw [← eN]; exact hl
    refine lv_aload_n hx hb dX8_month_10 rfl (lv_at hl 0 rfl) ?_
    refine va_get (D := D) (ci := 8) (v := .int 0) (C := RX8) (T := TX8) (N := 19) hx hb hts (fun w h => List.mem_cons_of_mem _ (inG8 w h)) hown hK hP 0 rfl rfl 11 (by decide) (hts _ (List.mem_cons_of_mem _ gw_7)) (fun _ h9 => h9) rfl dX8_month_11 ?_
    refine lv_iload_n hx hb dX8_month_14 rfl (lv_at hl 1 rfl) ?_
    refine lv_iadd hx hb dX8_month_15 ?_
    refine tI (y := nI (0 + N1)) (nI_add 0 N1) ?_
    refine lv_sipush (v := 600) hx hb dX8_month_16 (by decide) ?_
    refine lv_icmp_le (tgt := 24) hx hb dX8_month_19 (by decide) (fun c_5 => ?_) (fun c_5 => absurd (nI_le (a := 0 + N1) (b := 600) (by omega) (by decide)) c_5)
    refine lv_iconst (v := 0) hx hb dX8_month_24 (by decide) ?_
    refine lv_istore_n (lv' := [(2, .int 0), (0, .ref h0), (1, .int (nI N1))]) hx hb dX8_month_25 rfl hl (by decide) rfl (fun ls hl => ?_)
    have lp26 : ∀ (n i2 : Nat) (f_6 : Nat → Int32) (f_7 : Nat → Int32) (H : Heap) (locs : List Loc) (ls : Array Slot), i2 ≤ N1 → N1 < i2 + n → va_P D vwCl [(h0, .inr (8, [.ref a1, .ref a2, .ref a3, .ref a4, .ref a5, .ref a6, .ref a7, .null, .int 0, .int 0, .int 0, .int (nI i2), .int 100, .int 10, .int 0, .int 0, .int 0, .int 0, .int 0])), (a1, .inl (k1, 4, .inr (.inr (.inr (.inr (fun _ => none)))))), (a2, .inl (k2, 12, .inr (.inr (.inr (.inr (fun _ => none)))))), (a3, .inr (1, [.int 0, .ref m1, .ref m2, .ref m3, .ref m4, .ref m5, .ref m6])), (a5, .inr (6, [.ref b1, .ref b2, .ref b3, .ref b4, .ref b5, .ref b6, .int 0, .int 0])), (b1, .inl (k3, 12, .inl f_6)), (b2, .inl (k4, 12, .inl f_7)), (a6, .inr (4, [.ref p1, .ref p2, .ref p3, .ref p4, .ref p5, .int 0, .int 0, .int 0, .int 0, .int 0]))] H → va_D A [(h0, .inr (8, [.ref a1, .ref a2, .ref a3, .ref a4, .ref a5, .ref a6, .ref a7, .null, .int 0, .int 0, .int 0, .int (nI i2), .int 100, .int 10, .int 0, .int 0, .int 0, .int 0, .int 0])), (a1, .inl (k1, 4, .inr (.inr (.inr (.inr (fun _ => none)))))), (a2, .inl (k2, 12, .inr (.inr (.inr (.inr (fun _ => none)))))), (a3, .inr (1, [.int 0, .ref m1, .ref m2, .ref m3, .ref m4, .ref m5, .ref m6])), (a5, .inr (6, [.ref b1, .ref b2, .ref b3, .ref b4, .ref b5, .ref b6, .int 0, .int 0])), (b1, .inl (k3, 12, .inl f_6)), (b2, .inl (k4, 12, .inl f_7)), (a6, .inr (4, [.ref p1, .ref p2, .ref p3, .ref p4, .ref p5, .int 0, .int 0, .int 0, .int 0, .int 0]))] → va_S A s.heap H locs → lv_has ls 3 [(2, .int (nI i2)), (0, .ref h0), (1, .int (nI N1))] → W p l e ({ frames := 4, cells := 0, slots := 0, locals := 68 } : Room) s m (([.ref h0, .int x1] : List Value).toArray) below meth c H locs 0 0 (MQ below (va_Qi (fun (r : Int32) (u : Unit) => r = (if isW x1 1 24 = 0 then -1 else x1)) (fun (u : Unit) => qw D A [] []) A) (([.ref h0, .int x1] : List Value).toArray) s 0 0 A) (F0 m 26 ls []) := by
      intro n
      induction n with
      | zero => intro i2 f_6 f_7 H locs ls hi hn; exact absurd hn (by omega)
      | succ n ih26 =>
        intro i2 f_6 f_7 H locs ls hi_8 hn_9 hP hD hS hl
        refine lv_iload_n hx hb dX8_month_26 rfl (lv_at hl 0 rfl) ?_
        refine lv_iload_n hx hb dX8_month_27 rfl (lv_at hl 2 rfl) ?_
        refine lv_icmp_ge (tgt := 41) hx hb dX8_month_28 (by decide) (fun c_11 => ?_) (fun c_11 => ?_)
        · skip
          have hc_11 := ge_of (i := i2) N1 c_11 rfl (by omega) (by omega)
          refine lv_aload_n hx hb dX8_month_41 rfl (lv_at hl 1 rfl) ?_
          refine lv_iconst (v := 0) hx hb dX8_month_42 (by decide) ?_
          refine va_put (D := D) (ci := 8) (v := .int 0) (ty := .boolean) (C := RX8) (T := TX8) (N := 19) hx hb hts (fun w h => List.mem_cons_of_mem _ (inG8 w h)) tyX8 tyX8_ok nmX8 hown hK hP hD hS 0 rfl rfl 14 (by decide) (hts _ (List.mem_cons_of_mem _ gw_170)) (fun _ h9 => h9) rfl (by decide +kernel) rfl rfl (Nat.le_of_ble_eq_true rfl) dX8_month_43 (fun H locs hP hD hS => ?_)
          have hP : va_P D vwCl [(h0, .inr (8, [.ref a1, .ref a2, .ref a3, .ref a4, .ref a5, .ref a6, .ref a7, .null, .int 0, .int 0, .int 0, .int (nI i2), .int 100, .int 10, .int 0, .int 0, .int 0, .int 0, .int 0])), (a1, .inl (k1, 4, .inr (.inr (.inr (.inr (fun _ => none)))))), (a2, .inl (k2, 12, .inr (.inr (.inr (.inr (fun _ => none)))))), (a3, .inr (1, [.int 0, .ref m1, .ref m2, .ref m3, .ref m4, .ref m5, .ref m6])), (a5, .inr (6, [.ref b1, .ref b2, .ref b3, .ref b4, .ref b5, .ref b6, .int 0, .int 0])), (b1, .inl (k3, 12, .inl f_6)), (b2, .inl (k4, 12, .inl f_7)), (a6, .inr (4, [.ref p1, .ref p2, .ref p3, .ref p4, .ref p5, .int 0, .int 0, .int 0, .int 0, .int 0]))] H := hP
          have hD : va_D A [(h0, .inr (8, [.ref a1, .ref a2, .ref a3, .ref a4, .ref a5, .ref a6, .ref a7, .null, .int 0, .int 0, .int 0, .int (nI i2), .int 100, .int 10, .int 0, .int 0, .int 0, .int 0, .int 0])), (a1, .inl (k1, 4, .inr (.inr (.inr (.inr (fun _ => none)))))), (a2, .inl (k2, 12, .inr (.inr (.inr (.inr (fun _ => none)))))), (a3, .inr (1, [.int 0, .ref m1, .ref m2, .ref m3, .ref m4, .ref m5, .ref m6])), (a5, .inr (6, [.ref b1, .ref b2, .ref b3, .ref b4, .ref b5, .ref b6, .int 0, .int 0])), (b1, .inl (k3, 12, .inl f_6)), (b2, .inl (k4, 12, .inl f_7)), (a6, .inr (4, [.ref p1, .ref p2, .ref p3, .ref p4, .ref p5, .int 0, .int 0, .int 0, .int 0, .int 0]))] := hD
          refine lv_aload_n hx hb dX8_month_46 rfl (lv_at hl 1 rfl) ?_
          refine va_get (D := D) (ci := 8) (v := .int (nI i2)) (C := RX8) (T := TX8) (N := 19) hx hb hts (fun w h => List.mem_cons_of_mem _ (inG8 w h)) hown hK hP 0 rfl rfl 11 (by decide) (hts _ (List.mem_cons_of_mem _ gw_7)) (fun _ h9 => h9) rfl dX8_month_47 ?_
          have hP9 := hP.sub (ws' := []) [] rfl
          have hD9 := hD.sub (ws' := []) [] (by decide) rfl
          have hK9 := hK.sub (tys' := []) [] rfl
          refine W.widen (k := 0) (n := 0) (Nat.le_of_ble_eq_true rfl) (Nat.le_of_ble_eq_true rfl) ?_
          exact W.iret (v := nI i2) hx hb hr (fun t ht hW => ⟨⟨(nI i2), (), rfl, (by rw [if_neg c_4, eN, show i2 = N1 by omega]), by rw [ht]; exact hP9, va_K.moved hW.alike hK9, hD9⟩, hS.F ht⟩) hS.2.2 dX8_month_50
        · skip
          have hc_11 := lt_of (i := i2) N1 c_11 rfl (by omega)
          refine lv_aload_n hx hb dX8_month_31 rfl (lv_at hl 1 rfl) ?_
          refine fr_v (wr := [(a1, .inl (k1, 4, .inr (.inr (.inr (.inr (fun _ => none)))))), (a2, .inl (k2, 12, .inr (.inr (.inr (.inr (fun _ => none)))))), (a3, .inr (1, [.int 0, .ref m1, .ref m2, .ref m3, .ref m4, .ref m5, .ref m6])), (a5, .inr (6, [.ref b1, .ref b2, .ref b3, .ref b4, .ref b5, .ref b6, .int 0, .int 0])), (b1, .inl (k3, 12, .inl f_6)), (b2, .inl (k4, 12, .inl f_7)), (a6, .inr (4, [.ref p1, .ref p2, .ref p3, .ref p4, .ref p5, .int 0, .int 0, .int 0, .int 0, .int 0]))]) (va_runV (As := []) (rest := []) ⟨hx, hb, hml, hown, hts⟩ (c_X8_passMonth l D H.size h0 i2 (.ref a1) (.ref a2) (.ref a3) (.ref a4) (.ref a5) (.ref a6) (.ref a7) .null (.int 0) (.int 0) (.int 100) (.int 10) (.int 0) (.int 0) (.int 0) (.int 0) (.int 0) ) (cwV 0 hts (gV (fun w h => List.mem_cons_of_mem _ h) gw_212 gw_213 gw_214 gw_135 gw_211) rfl rfl rfl (by decide +kernel) ⟨Nat.le_of_ble_eq_true rfl, Nat.le_of_ble_eq_true rfl⟩) (pw_V [0] [] hP hD hK hN rfl rfl (by decide) rfl (ci := 8) (q0 := 0) rfl rfl) rfl rfl hl.1 rfl (lv_room (Nat.le_of_ble_eq_true rfl)) dX8_month_32 ⟨Nat.le_of_ble_eq_true rfl, Nat.le_of_ble_eq_true rfl⟩) hP hD hK hS hA [0] [1, 2, 3, 4, 5, 6, 7] rfl rfl (by decide) (by decide) (fun u_12 H locs hw_14 hP hD hK hS => ?_)
          try dsimp only at hw_14
          have hP : va_P D vwCl [(a1, .inl (k1, 4, .inr (.inr (.inr (.inr (fun _ => none)))))), (a2, .inl (k2, 12, .inr (.inr (.inr (.inr (fun _ => none)))))), (a3, .inr (1, [.int 0, .ref m1, .ref m2, .ref m3, .ref m4, .ref m5, .ref m6])), (a5, .inr (6, [.ref b1, .ref b2, .ref b3, .ref b4, .ref b5, .ref b6, .int 0, .int 0])), (b1, .inl (k3, 12, .inl f_6)), (b2, .inl (k4, 12, .inl f_7)), (a6, .inr (4, [.ref p1, .ref p2, .ref p3, .ref p4, .ref p5, .int 0, .int 0, .int 0, .int 0, .int 0])), (h0, .inr (8, [.ref a1, .ref a2, .ref a3, .ref a4, .ref a5, .ref a6, .ref a7, .null, .int 0, .int 0, .int 0, .int (nI (i2 + 1)), .int 100, .int 10, .int 0, .int 0, .int 0, .int 0, .int 0]))] H := hP
          have hD : va_D A [(a1, .inl (k1, 4, .inr (.inr (.inr (.inr (fun _ => none)))))), (a2, .inl (k2, 12, .inr (.inr (.inr (.inr (fun _ => none)))))), (a3, .inr (1, [.int 0, .ref m1, .ref m2, .ref m3, .ref m4, .ref m5, .ref m6])), (a5, .inr (6, [.ref b1, .ref b2, .ref b3, .ref b4, .ref b5, .ref b6, .int 0, .int 0])), (b1, .inl (k3, 12, .inl f_6)), (b2, .inl (k4, 12, .inl f_7)), (a6, .inr (4, [.ref p1, .ref p2, .ref p3, .ref p4, .ref p5, .int 0, .int 0, .int 0, .int 0, .int 0])), (h0, .inr (8, [.ref a1, .ref a2, .ref a3, .ref a4, .ref a5, .ref a6, .ref a7, .null, .int 0, .int 0, .int 0, .int (nI (i2 + 1)), .int 100, .int 10, .int 0, .int 0, .int 0, .int 0, .int 0]))] := hD
          have hK : va_K D vwCl [(k1, .object RX0), (k2, .object RX3), (k3, .int), (k4, .int)] s := hK
          refine W.widen (k := 0) (n := 0) (Nat.le_of_ble_eq_true rfl) (Nat.le_of_ble_eq_true rfl) ?_
          refine lv_iinc (v := (nI (i2 + 1))) (lv' := [(2, .int (nI (i2 + 1))), (0, .ref h0), (1, .int (nI N1))]) hx hb dX8_month_35 hl (k := 0) rfl (nI_1 _) (by decide) rfl (fun ls hl => ?_)
          refine lv_goto (tgt := 26) hx hb dX8_month_38 (by decide) ?_
          exact ih26 (i2 + 1) _ _ _ _ _ (by omega) (by omega) (hP.sub [7, 0, 1, 2, 3, 4, 5, 6] rfl) (hD.sub [7, 0, 1, 2, 3, 4, 5, 6] (by decide) rfl) hS (lv_sub hl [0, 1, 2] rfl)
    exact lp26 (N1 + 1) 0 _ _ _ _ _ (by omega) (by omega) hP hD hS (lv_sub hl [0, 1, 2] rfl)
set_option maxHeartbeats 4000000 in
set_option maxRecDepth 100000 in
theorem c_X8_ahead (l : Launch) (D : va_G) (sz : Nat) (h0 : Nat) (a1 : Nat) (a2 : Nat) (a3 : Nat) (a4 : Nat) (a5 : Nat) (a6 : Nat) (a7 : Nat) (m1 : Nat) (m2 : Nat) (m3 : Nat) (m4 : Nat) (m5 : Nat) (m6 : Nat) (b1 : Nat) (b2 : Nat) (b3 : Nat) (b4 : Nat) (b5 : Nat) (b6 : Nat) (p1 : Nat) (p2 : Nat) (p3 : Nat) (p4 : Nat) (p5 : Nat) (k1 : ClassId) (k2 : ClassId) (k3 : ClassId) (k4 : ClassId) (x1 : Int32) : Met l yX8_ahead (.code yX8_ahead cX8_ahead 6 (some .int) :: G) ({ frames := 10, cells := 7, slots := 11399, locals := 151 }) (va_Pc [.ref h0, .int x1] (pw D sz [(h0, .inr (8, [.ref a1, .ref a2, .ref a3, .ref a4, .ref a5, .ref a6, .ref a7, .null, .int 0, .int 0, .int 0, .int 0, .int 100, .int 10, .int 0, .int 0, .int 0, .int 0, .int 0])), (a1, .inl (k1, 4, .inr (.inr (.inr (.inr (fun _ => none)))))), (a2, .inl (k2, 12, .inr (.inr (.inr (.inr (fun _ => none)))))), (a3, .inr (1, [.int 0, .ref m1, .ref m2, .ref m3, .ref m4, .ref m5, .ref m6])), (a5, .inr (6, [.ref b1, .ref b2, .ref b3, .ref b4, .ref b5, .ref b6, .int 0, .int 0])), (b1, .inl (k3, 12, .inl (fun _ => 0))), (b2, .inl (k4, 12, .inl (fun _ => 0))), (a6, .inr (4, [.ref p1, .ref p2, .ref p3, .ref p4, .ref p5, .int 0, .int 0, .int 0, .int 0, .int 0]))] [(k1, .object RX0), (k2, .object RX3), (k3, .int), (k4, .int)])) (va_Qi (fun (r : Int32) (u : Unit) => r = (if isW x1 0 12 = 0 then -1 else 0)) (fun (u : Unit) => qw D (va_A [(h0, .inr (8, [.ref a1, .ref a2, .ref a3, .ref a4, .ref a5, .ref a6, .ref a7, .null, .int 0, .int 0, .int 0, .int 0, .int 100, .int 10, .int 0, .int 0, .int 0, .int 0, .int 0])), (a1, .inl (k1, 4, .inr (.inr (.inr (.inr (fun _ => none)))))), (a2, .inl (k2, 12, .inr (.inr (.inr (.inr (fun _ => none)))))), (a3, .inr (1, [.int 0, .ref m1, .ref m2, .ref m3, .ref m4, .ref m5, .ref m6])), (a5, .inr (6, [.ref b1, .ref b2, .ref b3, .ref b4, .ref b5, .ref b6, .int 0, .int 0])), (b1, .inl (k3, 12, .inl (fun _ => 0))), (b2, .inl (k4, 12, .inl (fun _ => 0))), (a6, .inr (4, [.ref p1, .ref p2, .ref p3, .ref p4, .ref p5, .int 0, .int 0, .int 0, .int 0, .int 0]))] sz) [] []) (va_A [(h0, .inr (8, [.ref a1, .ref a2, .ref a3, .ref a4, .ref a5, .ref a6, .ref a7, .null, .int 0, .int 0, .int 0, .int 0, .int 100, .int 10, .int 0, .int 0, .int 0, .int 0, .int 0])), (a1, .inl (k1, 4, .inr (.inr (.inr (.inr (fun _ => none)))))), (a2, .inl (k2, 12, .inr (.inr (.inr (.inr (fun _ => none)))))), (a3, .inr (1, [.int 0, .ref m1, .ref m2, .ref m3, .ref m4, .ref m5, .ref m6])), (a5, .inr (6, [.ref b1, .ref b2, .ref b3, .ref b4, .ref b5, .ref b6, .int 0, .int 0])), (b1, .inl (k3, 12, .inl (fun _ => 0))), (b2, .inl (k4, 12, .inl (fun _ => 0))), (a6, .inr (4, [.ref p1, .ref p2, .ref p3, .ref p4, .ref p5, .int 0, .int 0, .int 0, .int 0, .int 0]))] sz)) 7 11399 (va_A [(h0, .inr (8, [.ref a1, .ref a2, .ref a3, .ref a4, .ref a5, .ref a6, .ref a7, .null, .int 0, .int 0, .int 0, .int 0, .int 100, .int 10, .int 0, .int 0, .int 0, .int 0, .int 0])), (a1, .inl (k1, 4, .inr (.inr (.inr (.inr (fun _ => none)))))), (a2, .inl (k2, 12, .inr (.inr (.inr (.inr (fun _ => none)))))), (a3, .inr (1, [.int 0, .ref m1, .ref m2, .ref m3, .ref m4, .ref m5, .ref m6])), (a5, .inr (6, [.ref b1, .ref b2, .ref b3, .ref b4, .ref b5, .ref b6, .int 0, .int 0])), (b1, .inl (k3, 12, .inl (fun _ => 0))), (b2, .inl (k4, 12, .inl (fun _ => 0))), (a6, .inr (4, [.ref p1, .ref p2, .ref p3, .ref p4, .ref p5, .int 0, .int 0, .int 0, .int 0, .int 0]))] sz) := by
  refine Met.ofW (cc := cX8_ahead) (maxL := 6) (ret := (some .int)) (by decide) rfl ?_
  intro p e s m args below meth c s₁ B hml hv
  obtain ⟨rfl, hsz, hP, hK, hD0, hN⟩ := hv
  have hx := B.exec
  have hb := B.bytes
  have hr := B.returns
  have hts := atoms_spec (ws := (.code yX8_ahead cX8_ahead 6 (some .int) :: G)) B.pre
  have hown : s.vm.findClass RX8 = some m.cls := findClass_of_methodNamed B.named
  have hlocks := B.notSynchronized
  subst hsz
  have hD := hD0.self (sz := s.heap.size)
  generalize hAe : va_A [(h0, .inr (8, [.ref a1, .ref a2, .ref a3, .ref a4, .ref a5, .ref a6, .ref a7, .null, .int 0, .int 0, .int 0, .int 0, .int 100, .int 10, .int 0, .int 0, .int 0, .int 0, .int 0])), (a1, .inl (k1, 4, .inr (.inr (.inr (.inr (fun _ => none)))))), (a2, .inl (k2, 12, .inr (.inr (.inr (.inr (fun _ => none)))))), (a3, .inr (1, [.int 0, .ref m1, .ref m2, .ref m3, .ref m4, .ref m5, .ref m6])), (a5, .inr (6, [.ref b1, .ref b2, .ref b3, .ref b4, .ref b5, .ref b6, .int 0, .int 0])), (b1, .inl (k3, 12, .inl (fun _ => 0))), (b2, .inl (k4, 12, .inl (fun _ => 0))), (a6, .inr (4, [.ref p1, .ref p2, .ref p3, .ref p4, .ref p5, .int 0, .int 0, .int 0, .int 0, .int 0]))] s.heap.size = A at hD ⊢
  have hA : ∀ q : Nat, s.heap.size ≤ q → A q := fun q h => by rw [← hAe]; exact Or.inr h
  have hS : va_S A s.heap s.heap [] := va_S.rf
  have hP : va_P D vwCl [(h0, .inr (8, [.ref a1, .ref a2, .ref a3, .ref a4, .ref a5, .ref a6, .ref a7, .null, .int 0, .int 0, .int 0, .int 0, .int 100, .int 10, .int 0, .int 0, .int 0, .int 0, .int 0])), (a1, .inl (k1, 4, .inr (.inr (.inr (.inr (fun _ => none)))))), (a2, .inl (k2, 12, .inr (.inr (.inr (.inr (fun _ => none)))))), (a3, .inr (1, [.int 0, .ref m1, .ref m2, .ref m3, .ref m4, .ref m5, .ref m6])), (a5, .inr (6, [.ref b1, .ref b2, .ref b3, .ref b4, .ref b5, .ref b6, .int 0, .int 0])), (b1, .inl (k3, 12, .inl (fun _ => 0))), (b2, .inl (k4, 12, .inl (fun _ => 0))), (a6, .inr (4, [.ref p1, .ref p2, .ref p3, .ref p4, .ref p5, .int 0, .int 0, .int 0, .int 0, .int 0]))] s.heap := hP
  have hl := lv_entry ([.ref h0, .int x1]) (n := 6) (Nat.le_of_ble_eq_true rfl)
  rw [lg_entry_eq]
  generalize (lg_sl ([.ref h0, .int x1]) ++ List.replicate (6 - (lg_sl ([.ref h0, .int x1])).length) Slot.unset).toArray = ls at hl ⊢
  have hl : lv_has ls 6 [(0, .ref h0), (1, .int x1)] := hl
  refine lv_iload_n hx hb dX8_ahead_0 rfl (lv_at hl 1 rfl) ?_
  refine lv_iconst (v := 0) hx hb dX8_ahead_1 (by decide) ?_
  refine lv_bipush (v := 12) hx hb dX8_ahead_2 (by decide) ?_
  refine fr_i (wr := [(h0, .inr (8, [.ref a1, .ref a2, .ref a3, .ref a4, .ref a5, .ref a6, .ref a7, .null, .int 0, .int 0, .int 0, .int 0, .int 100, .int 10, .int 0, .int 0, .int 0, .int 0, .int 0])), (a1, .inl (k1, 4, .inr (.inr (.inr (.inr (fun _ => none)))))), (a2, .inl (k2, 12, .inr (.inr (.inr (.inr (fun _ => none)))))), (a3, .inr (1, [.int 0, .ref m1, .ref m2, .ref m3, .ref m4, .ref m5, .ref m6])), (a5, .inr (6, [.ref b1, .ref b2, .ref b3, .ref b4, .ref b5, .ref b6, .int 0, .int 0])), (b1, .inl (k3, 12, .inl (fun _ => 0))), (b2, .inl (k4, 12, .inl (fun _ => 0))), (a6, .inr (4, [.ref p1, .ref p2, .ref p3, .ref p4, .ref p5, .int 0, .int 0, .int 0, .int 0, .int 0]))]) (va_runS (As := [.int x1, .int 0, .int 12]) (rest := []) ⟨hx, hb, hml, hown, hts⟩ (c_X8_isWithin l D s.heap.size x1 0 12 ) (va_cwS 3 hts (gS (fun w h => List.mem_cons_of_mem _ h) gw_1 gw_2 gw_3 gw_0) rfl rfl rfl (by decide +kernel) ⟨Nat.le_of_ble_eq_true rfl, Nat.le_of_ble_eq_true rfl⟩) (pw_S [] [] hP hD hK hN rfl rfl (by decide) rfl) rfl rfl hl.1 rfl (lv_room (Nat.le_of_ble_eq_true rfl)) dX8_ahead_4 ⟨Nat.le_of_ble_eq_true rfl, Nat.le_of_ble_eq_true rfl⟩) hP hD hK hS hA [] [0, 1, 2, 3, 4, 5, 6, 7] rfl rfl (by decide) (by decide) (fun r_2 u_1 H locs hw_3 hP hD hK hS => ?_)
  try dsimp only at hw_3
  have hP : va_P D vwCl [(h0, .inr (8, [.ref a1, .ref a2, .ref a3, .ref a4, .ref a5, .ref a6, .ref a7, .null, .int 0, .int 0, .int 0, .int 0, .int 100, .int 10, .int 0, .int 0, .int 0, .int 0, .int 0])), (a1, .inl (k1, 4, .inr (.inr (.inr (.inr (fun _ => none)))))), (a2, .inl (k2, 12, .inr (.inr (.inr (.inr (fun _ => none)))))), (a3, .inr (1, [.int 0, .ref m1, .ref m2, .ref m3, .ref m4, .ref m5, .ref m6])), (a5, .inr (6, [.ref b1, .ref b2, .ref b3, .ref b4, .ref b5, .ref b6, .int 0, .int 0])), (b1, .inl (k3, 12, .inl (fun _ => 0))), (b2, .inl (k4, 12, .inl (fun _ => 0))), (a6, .inr (4, [.ref p1, .ref p2, .ref p3, .ref p4, .ref p5, .int 0, .int 0, .int 0, .int 0, .int 0]))] H := hP
  have hD : va_D A [(h0, .inr (8, [.ref a1, .ref a2, .ref a3, .ref a4, .ref a5, .ref a6, .ref a7, .null, .int 0, .int 0, .int 0, .int 0, .int 100, .int 10, .int 0, .int 0, .int 0, .int 0, .int 0])), (a1, .inl (k1, 4, .inr (.inr (.inr (.inr (fun _ => none)))))), (a2, .inl (k2, 12, .inr (.inr (.inr (.inr (fun _ => none)))))), (a3, .inr (1, [.int 0, .ref m1, .ref m2, .ref m3, .ref m4, .ref m5, .ref m6])), (a5, .inr (6, [.ref b1, .ref b2, .ref b3, .ref b4, .ref b5, .ref b6, .int 0, .int 0])), (b1, .inl (k3, 12, .inl (fun _ => 0))), (b2, .inl (k4, 12, .inl (fun _ => 0))), (a6, .inr (4, [.ref p1, .ref p2, .ref p3, .ref p4, .ref p5, .int 0, .int 0, .int 0, .int 0, .int 0]))] := hD
  have hK : va_K D vwCl [(k1, .object RX0), (k2, .object RX3), (k3, .int), (k4, .int)] s := hK
  refine W.widen (k := 0) (n := 0) (Nat.le_of_ble_eq_true rfl) (Nat.le_of_ble_eq_true rfl) ?_
  refine tI (y := isW x1 0 12) hw_3 ?_
  refine lv_if_ne (tgt := 12) hx hb dX8_ahead_7 (by decide) (fun c_4 => ?_) (fun c_4 => ?_)
  · skip
    obtain ⟨N1, hN1, hN2, eN⟩ := isW_nat (a := 0) (b := 12) c_4 rfl rfl (by decide) (by decide)
    have hl : lv_has ls 6 [(0, .ref h0), (1, .int (nI N1))] := by rw [← eN]; exact hl
    refine lv_aload_n hx hb dX8_ahead_12 rfl (lv_at hl 0 rfl) ?_
    refine va_get (D := D) (ci := 8) (v := .int 0) (C := RX8) (T := TX8) (N := 19) hx hb hts (fun w h => List.mem_cons_of_mem _ (inG8 w h)) hown hK hP 0 rfl rfl 11 (by decide) (hts _ (List.mem_cons_of_mem _ gw_7)) (fun _ h9 => h9) rfl dX8_ahead_13 ?_
    refine lv_istore_n (lv' := [(2, .int 0), (0, .ref h0), (1, .int (nI N1))]) hx hb dX8_ahead_16 rfl hl (by decide) rfl (fun ls hl => ?_)
    refine lv_iconst (v := 0) hx hb dX8_ahead_17 (by decide) ?_
    refine lv_istore_n (lv' := [(3, .int 0), (2, .int 0), (0, .ref h0), (1, .int (nI N1))]) hx hb dX8_ahead_18 rfl hl (by decide) rfl (fun ls hl => ?_)
    refine lv_iload_n hx hb dX8_ahead_19 rfl (lv_at hl 0 rfl) ?_
    refine lv_aload_n hx hb dX8_ahead_20 rfl (lv_at hl 2 rfl) ?_
    refine va_get (D := D) (ci := 8) (v := .int 0) (C := RX8) (T := TX8) (N := 19) hx hb hts (fun w h => List.mem_cons_of_mem _ (inG8 w h)) hown hK hP 0 rfl rfl 9 (by decide) (hts _ (List.mem_cons_of_mem _ gw_5)) (fun _ h9 => h9) rfl dX8_ahead_21 ?_
    refine lv_icmp_ge (tgt := 42) hx hb dX8_ahead_24 (by decide) (fun c_5 => ?_) (fun c_5 => absurd (by decide) c_5)
    refine lv_iconst (v := 0) hx hb dX8_ahead_42 (by decide) ?_
    refine lv_istore_n (lv' := [(3, .int 0), (2, .int 0), (0, .ref h0), (1, .int (nI N1))]) hx hb dX8_ahead_43 rfl hl (by decide) rfl (fun ls hl => ?_)
    refine lv_iconst (v := 0) hx hb dX8_ahead_44 (by decide) ?_
    refine lv_istore (lv' := [(4, .int 0), (3, .int 0), (2, .int 0), (0, .ref h0), (1, .int (nI N1))]) hx hb dX8_ahead_45 hl (by decide) rfl (fun ls hl => ?_)
    refine lv_iload hx hb dX8_ahead_47 (lv_at hl 0 rfl) ?_
    refine lv_iload_n hx hb dX8_ahead_49 rfl (lv_at hl 4 rfl) ?_
    refine lv_icmp_ge (tgt := 86) hx hb dX8_ahead_50 (by decide) (fun c_6 => ?_) (fun c_6 => ?_)
    · skip
      have hc_6 := ge_of (i := 0) N1 c_6 rfl (by omega) (by omega)
      refine lv_iconst (v := 0) hx hb dX8_ahead_86 (by decide) ?_
      refine lv_istore (lv' := [(4, .int 0), (3, .int 0), (2, .int 0), (0, .ref h0), (1, .int (nI N1))]) hx hb dX8_ahead_87 hl (by decide) rfl (fun ls hl => ?_)
      refine lv_iload hx hb dX8_ahead_89 (lv_at hl 0 rfl) ?_
      refine lv_aload_n hx hb dX8_ahead_91 rfl (lv_at hl 3 rfl) ?_
      refine va_get (D := D) (ci := 8) (v := .int 0) (C := RX8) (T := TX8) (N := 19) hx hb hts (fun w h => List.mem_cons_of_mem _ (inG8 w h)) hown hK hP 0 rfl rfl 9 (by decide) (hts _ (List.mem_cons_of_mem _ gw_5)) (fun _ h9 => h9) rfl dX8_ahead_92 ?_
      refine lv_icmp_ge (tgt := 114) hx hb dX8_ahead_95 (by decide) (fun c_7 => ?_) (fun c_7 => absurd (by decide) c_7)
      refine lv_aload_n hx hb dX8_ahead_114 rfl (lv_at hl 3 rfl) ?_
      refine lv_iload_n hx hb dX8_ahead_115 rfl (lv_at hl 2 rfl) ?_
      refine va_put (D := D) (ci := 8) (v := .int 0) (ty := .int) (C := RX8) (T := TX8) (N := 19) hx hb hts (fun w h => List.mem_cons_of_mem _ (inG8 w h)) tyX8 tyX8_ok nmX8 hown hK hP hD hS 0 rfl rfl 11 (by decide) (hts _ (List.mem_cons_of_mem _ gw_7)) (fun _ h9 => h9) rfl (by decide +kernel) rfl rfl (Nat.le_of_ble_eq_true rfl) dX8_ahead_116 (fun H locs hP hD hS => ?_)
      have hP : va_P D vwCl [(h0, .inr (8, [.ref a1, .ref a2, .ref a3, .ref a4, .ref a5, .ref a6, .ref a7, .null, .int 0, .int 0, .int 0, .int 0, .int 100, .int 10, .int 0, .int 0, .int 0, .int 0, .int 0])), (a1, .inl (k1, 4, .inr (.inr (.inr (.inr (fun _ => none)))))), (a2, .inl (k2, 12, .inr (.inr (.inr (.inr (fun _ => none)))))), (a3, .inr (1, [.int 0, .ref m1, .ref m2, .ref m3, .ref m4, .ref m5, .ref m6])), (a5, .inr (6, [.ref b1, .ref b2, .ref b3, .ref b4, .ref b5, .ref b6, .int 0, .int 0])), (b1, .inl (k3, 12, .inl (fun _ => 0))), (b2, .inl (k4, 12, .inl (fun _ => 0))), (a6, .inr (4, [.ref p1, .ref p2, .ref p3, .ref p4, .ref p5, .int 0, .int 0, .int 0, .int 0, .int 0]))] H := hP
      have hD : va_D A [(h0, .inr (8, [.ref a1, .ref a2, .ref a3, .ref a4, .ref a5, .ref a6, .ref a7, .null, .int 0, .int 0, .int 0, .int 0, .int 100, .int 10, .int 0, .int 0, .int 0, .int 0, .int 0])), (a1, .inl (k1, 4, .inr (.inr (.inr (.inr (fun _ => none)))))), (a2, .inl (k2, 12, .inr (.inr (.inr (.inr (fun _ => none)))))), (a3, .inr (1, [.int 0, .ref m1, .ref m2, .ref m3, .ref m4, .ref m5, .ref m6])), (a5, .inr (6, [.ref b1, .ref b2, .ref b3, .ref b4, .ref b5, .ref b6, .int 0, .int 0])), (b1, .inl (k3, 12, .inl (fun _ => 0))), (b2, .inl (k4, 12, .inl (fun _ => 0))), (a6, .inr (4, [.ref p1, .ref p2, .ref p3, .ref p4, .ref p5, .int 0, .int 0, .int 0, .int 0, .int 0]))] := hD
      refine lv_iload_n hx hb dX8_ahead_119 rfl (lv_at hl 1 rfl) ?_
      have hP9 := hP.sub (ws' := []) [] rfl
      have hD9 := hD.sub (ws' := []) [] (by decide) rfl
      have hK9 := hK.sub (tys' := []) [] rfl
      refine W.widen (k := 7) (n := 11399) (Nat.le_of_ble_eq_true rfl) (Nat.le_of_ble_eq_true rfl) ?_
      exact W.iret (v := 0) hx hb hr (fun t ht hW => ⟨⟨0, (), rfl, (if_neg c_4).symm, by rw [ht]; exact hP9, va_K.moved hW.alike hK9, hD9⟩, hS.F ht⟩) hS.2.2 dX8_ahead_120
    · skip
      have hc_6 := lt_of (i := 0) N1 c_6 rfl (by omega)
      refine lv_aload_n hx hb dX8_ahead_53 rfl (lv_at hl 3 rfl) ?_
      refine fr_q (wr := [(a1, .inl (k1, 4, .inr (.inr (.inr (.inr (fun _ => none)))))), (a2, .inl (k2, 12, .inr (.inr (.inr (.inr (fun _ => none)))))), (a3, .inr (1, [.int 0, .ref m1, .ref m2, .ref m3, .ref m4, .ref m5, .ref m6])), (a6, .inr (4, [.ref p1, .ref p2, .ref p3, .ref p4, .ref p5, .int 0, .int 0, .int 0, .int 0, .int 0]))]) (va_runV (As := []) (rest := []) ⟨hx, hb, hml, hown, hts⟩ (c_X8_makePlan l D H.size h0 a4 a5 (.ref a1) (.ref a2) (.ref a3) (.ref a6) (.ref a7) (.int 0) (.int 0) (.int 0) (.int 100) (.int 10) (.int 0) (.int 0) (.int 0) (.int 0) (.int 0) b1 b2 (.ref b3) (.ref b4) (.ref b5) (.ref b6) 0 0 k3 k4 (fun _ => 0) (fun _ => 0) ) (cwV 0 hts (gV (fun w h => List.mem_cons_of_mem _ h) gw_202 gw_203 gw_204 gw_135 gw_201) rfl rfl rfl (by decide +kernel) ⟨Nat.le_of_ble_eq_true rfl, Nat.le_of_ble_eq_true rfl⟩) (pw_V [0, 4, 5, 6] [2, 3] hP hD hK hN rfl rfl (by decide) rfl (ci := 8) (q0 := 0) rfl rfl) rfl rfl hl.1 rfl (lv_room (Nat.le_of_ble_eq_true rfl)) dX8_ahead_54 ⟨Nat.le_of_ble_eq_true rfl, Nat.le_of_ble_eq_true rfl⟩) hP hD hK hS hA [0, 4, 5, 6] [1, 2, 3, 7] rfl rfl (by decide) (by decide) (fun r_9 u_8 H locs hw_10 hP hD hK hS => ?_)
      obtain ⟨ua_11, ub_12, uc_13, ud_14, ue_15, uf_16, uh_17, ug_18, ufb_19, ufk_20, uff_21, ux_22⟩ := u_8
      try dsimp only at hw_10
      have hP : va_P D vwCl [(a1, .inl (k1, 4, .inr (.inr (.inr (.inr (fun _ => none)))))), (a2, .inl (k2, 12, .inr (.inr (.inr (.inr (fun _ => none)))))), (a3, .inr (1, [.int 0, .ref m1, .ref m2, .ref m3, .ref m4, .ref m5, .ref m6])), (a6, .inr (4, [.ref p1, .ref p2, .ref p3, .ref p4, .ref p5, .int 0, .int 0, .int 0, .int 0, .int 0])), (h0, .inr (8, [.ref a1, .ref a2, .ref a3, .ref a4, .ref a5, .ref a6, .ref a7, .ref ua_11, .int 0, .int 0, .int 0, .int 0, .int 100, .int 10, .int 0, .int 0, .int 0, .int 0, .int 0])), (a5, .inr (6, [.ref b1, .ref b2, .ref b3, .ref b4, .ref b5, .ref b6, .int 0, .int 0])), (b1, .inl (k3, 12, .inl ufb_19)), (b2, .inl (k4, 12, .inl ufk_20)), (ua_11, .inr (5, [.ref uh_17, .int 0, .int 0, .ref a5, .ref a4, .ref ub_12, .ref uc_13, .int 0, .ref ud_14, .ref ue_15, .ref uf_16, .int ux_22])), (uc_13, .inl (ug_18, 13, .inl uff_21))] H := hP
      have hD : va_D A [(a1, .inl (k1, 4, .inr (.inr (.inr (.inr (fun _ => none)))))), (a2, .inl (k2, 12, .inr (.inr (.inr (.inr (fun _ => none)))))), (a3, .inr (1, [.int 0, .ref m1, .ref m2, .ref m3, .ref m4, .ref m5, .ref m6])), (a6, .inr (4, [.ref p1, .ref p2, .ref p3, .ref p4, .ref p5, .int 0, .int 0, .int 0, .int 0, .int 0])), (h0, .inr (8, [.ref a1, .ref a2, .ref a3, .ref a4, .ref a5, .ref a6, .ref a7, .ref ua_11, .int 0, .int 0, .int 0, .int 0, .int 100, .int 10, .int 0, .int 0, .int 0, .int 0, .int 0])), (a5, .inr (6, [.ref b1, .ref b2, .ref b3, .ref b4, .ref b5, .ref b6, .int 0, .int 0])), (b1, .inl (k3, 12, .inl ufb_19)), (b2, .inl (k4, 12, .inl ufk_20)), (ua_11, .inr (5, [.ref uh_17, .int 0, .int 0, .ref a5, .ref a4, .ref ub_12, .ref uc_13, .int 0, .ref ud_14, .ref ue_15, .ref uf_16, .int ux_22])), (uc_13, .inl (ug_18, 13, .inl uff_21))] := hD
      have hK : va_K D vwCl [(k1, .object RX0), (k2, .object RX3), (k3, .int), (k4, .int), (ug_18, .int)] s := hK
      refine W.widen (k := 7) (n := 11399) (Nat.le_of_ble_eq_true rfl) (Nat.le_of_ble_eq_true rfl) ?_
      subst hw_10
      show W _ _ _ _ _ _ _ _ _ _ _ _ _ _ _ (F0 _ _ _ (.ref ua_11 :: _))
      refine va_get (D := D) (ci := 5) (v := .int 0) (C := RX5) (T := TX5) (N := 12) hx hb hts (fun w h => List.mem_cons_of_mem _ (inG5 w h)) hown hK hP 8 rfl rfl 2 (by decide) (hts _ (List.mem_cons_of_mem _ gw_215)) (fun _ h9 => h9) rfl dX8_ahead_57 ?_
      refine lv_istore (lv' := [(5, .int 0), (4, .int 0), (3, .int 0), (2, .int 0), (0, .ref h0), (1, .int (nI N1))]) hx hb dX8_ahead_60 hl (by decide) rfl (fun ls hl => ?_)
      refine lv_aload_n hx hb dX8_ahead_62 rfl (lv_at hl 4 rfl) ?_
      refine lv_iload hx hb dX8_ahead_63 (lv_at hl 0 rfl) ?_
      refine fr_v (wr := [(a1, .inl (k1, 4, .inr (.inr (.inr (.inr (fun _ => none)))))), (a2, .inl (k2, 12, .inr (.inr (.inr (.inr (fun _ => none)))))), (a3, .inr (1, [.int 0, .ref m1, .ref m2, .ref m3, .ref m4, .ref m5, .ref m6])), (a6, .inr (4, [.ref p1, .ref p2, .ref p3, .ref p4, .ref p5, .int 0, .int 0, .int 0, .int 0, .int 0])), (a5, .inr (6, [.ref b1, .ref b2, .ref b3, .ref b4, .ref b5, .ref b6, .int 0, .int 0])), (b1, .inl (k3, 12, .inl ufb_19)), (b2, .inl (k4, 12, .inl ufk_20)), (ua_11, .inr (5, [.ref uh_17, .int 0, .int 0, .ref a5, .ref a4, .ref ub_12, .ref uc_13, .int 0, .ref ud_14, .ref ue_15, .ref uf_16, .int ux_22])), (uc_13, .inl (ug_18, 13, .inl uff_21))]) (va_runV (As := [.int 0]) (rest := []) ⟨hx, hb, hml, hown, hts⟩ (c_X8_shoeAll l D H.size h0 0 ([.ref a1, .ref a2, .ref a3, .ref a4, .ref a5, .ref a6, .ref a7, .ref ua_11, .int 0, .int 0, .int 0, .int 0, .int 100, .int 10, .int 0, .int 0, .int 0, .int 0, .int 0]) rfl) (cwV 1 hts (gV (fun w h => List.mem_cons_of_mem _ h) gw_217 gw_218 gw_219 gw_135 gw_216) rfl rfl rfl (by decide +kernel) ⟨Nat.le_of_ble_eq_true rfl, Nat.le_of_ble_eq_true rfl⟩) (pw_V [4] [] hP hD hK hN rfl rfl (by decide) rfl (ci := 8) (q0 := 4) rfl rfl) rfl rfl hl.1 rfl (lv_room (Nat.le_of_ble_eq_true rfl)) dX8_ahead_65 ⟨Nat.le_of_ble_eq_true rfl, Nat.le_of_ble_eq_true rfl⟩) hP hD hK hS hA [4] [0, 1, 2, 3, 5, 6, 7, 8, 9] rfl rfl (by decide) (by decide) (fun u_23 H locs hw_25 hP hD hK hS => ?_)
      try dsimp only at hw_25
      have hP : va_P D vwCl [(a1, .inl (k1, 4, .inr (.inr (.inr (.inr (fun _ => none)))))), (a2, .inl (k2, 12, .inr (.inr (.inr (.inr (fun _ => none)))))), (a3, .inr (1, [.int 0, .ref m1, .ref m2, .ref m3, .ref m4, .ref m5, .ref m6])), (a6, .inr (4, [.ref p1, .ref p2, .ref p3, .ref p4, .ref p5, .int 0, .int 0, .int 0, .int 0, .int 0])), (a5, .inr (6, [.ref b1, .ref b2, .ref b3, .ref b4, .ref b5, .ref b6, .int 0, .int 0])), (b1, .inl (k3, 12, .inl ufb_19)), (b2, .inl (k4, 12, .inl ufk_20)), (ua_11, .inr (5, [.ref uh_17, .int 0, .int 0, .ref a5, .ref a4, .ref ub_12, .ref uc_13, .int 0, .ref ud_14, .ref ue_15, .ref uf_16, .int ux_22])), (uc_13, .inl (ug_18, 13, .inl uff_21)), (h0, .inr (8, [.ref a1, .ref a2, .ref a3, .ref a4, .ref a5, .ref a6, .ref a7, .ref ua_11, .int 0, .int 0, .int 0, .int 0, .int 100, .int 10, .int 0, .int 0, .int 0, .int 0, .int 0]))] H := hP
      have hD : va_D A [(a1, .inl (k1, 4, .inr (.inr (.inr (.inr (fun _ => none)))))), (a2, .inl (k2, 12, .inr (.inr (.inr (.inr (fun _ => none)))))), (a3, .inr (1, [.int 0, .ref m1, .ref m2, .ref m3, .ref m4, .ref m5, .ref m6])), (a6, .inr (4, [.ref p1, .ref p2, .ref p3, .ref p4, .ref p5, .int 0, .int 0, .int 0, .int 0, .int 0])), (a5, .inr (6, [.ref b1, .ref b2, .ref b3, .ref b4, .ref b5, .ref b6, .int 0, .int 0])), (b1, .inl (k3, 12, .inl ufb_19)), (b2, .inl (k4, 12, .inl ufk_20)), (ua_11, .inr (5, [.ref uh_17, .int 0, .int 0, .ref a5, .ref a4, .ref ub_12, .ref uc_13, .int 0, .ref ud_14, .ref ue_15, .ref uf_16, .int ux_22])), (uc_13, .inl (ug_18, 13, .inl uff_21)), (h0, .inr (8, [.ref a1, .ref a2, .ref a3, .ref a4, .ref a5, .ref a6, .ref a7, .ref ua_11, .int 0, .int 0, .int 0, .int 0, .int 100, .int 10, .int 0, .int 0, .int 0, .int 0, .int 0]))] := hD
      have hK : va_K D vwCl [(k1, .object RX0), (k2, .object RX3), (k3, .int), (k4, .int), (ug_18, .int)] s := hK
      refine W.widen (k := 7) (n := 11399) (Nat.le_of_ble_eq_true rfl) (Nat.le_of_ble_eq_true rfl) ?_
      refine lv_iload_n hx hb dX8_ahead_68 rfl (lv_at hl 2 rfl) ?_
      refine lv_iload hx hb dX8_ahead_69 (lv_at hl 0 rfl) ?_
      refine fr_i (wr := [(a1, .inl (k1, 4, .inr (.inr (.inr (.inr (fun _ => none)))))), (a2, .inl (k2, 12, .inr (.inr (.inr (.inr (fun _ => none)))))), (a3, .inr (1, [.int 0, .ref m1, .ref m2, .ref m3, .ref m4, .ref m5, .ref m6])), (a6, .inr (4, [.ref p1, .ref p2, .ref p3, .ref p4, .ref p5, .int 0, .int 0, .int 0, .int 0, .int 0])), (a5, .inr (6, [.ref b1, .ref b2, .ref b3, .ref b4, .ref b5, .ref b6, .int 0, .int 0])), (b1, .inl (k3, 12, .inl ufb_19)), (b2, .inl (k4, 12, .inl ufk_20)), (ua_11, .inr (5, [.ref uh_17, .int 0, .int 0, .ref a5, .ref a4, .ref ub_12, .ref uc_13, .int 0, .ref ud_14, .ref ue_15, .ref uf_16, .int ux_22])), (uc_13, .inl (ug_18, 13, .inl uff_21)), (h0, .inr (8, [.ref a1, .ref a2, .ref a3, .ref a4, .ref a5, .ref a6, .ref a7, .ref ua_11, .int 0, .int 0, .int 0, .int 0, .int 100, .int 10, .int 0, .int 0, .int 0, .int 0, .int 0]))]) (va_runS (As := [.int 0]) (rest := [.int 0]) ⟨hx, hb, hml, hown, hts⟩ (c_J6_bitCount l D H.size  ) (va_cwS 1 hts (gS (fun w h => List.mem_cons_of_mem _ h) gw_221 gw_222 gw_223 gw_220) rfl rfl rfl (by decide +kernel) ⟨Nat.le_of_ble_eq_true rfl, Nat.le_of_ble_eq_true rfl⟩) (pw_S [] [] hP hD hK hN rfl rfl (by decide) rfl) rfl rfl hl.1 rfl (lv_room (Nat.le_of_ble_eq_true rfl)) dX8_ahead_71 ⟨Nat.le_of_ble_eq_true rfl, Nat.le_of_ble_eq_true rfl⟩) hP hD hK hS hA [] [0, 1, 2, 3, 4, 5, 6, 7, 8, 9] rfl rfl (by decide) (by decide) (fun r_27 u_26 H locs hw_28 hP hD hK hS => ?_)
      try dsimp only at hw_28
      have hP : va_P D vwCl [(a1, .inl (k1, 4, .inr (.inr (.inr (.inr (fun _ => none)))))), (a2, .inl (k2, 12, .inr (.inr (.inr (.inr (fun _ => none)))))), (a3, .inr (1, [.int 0, .ref m1, .ref m2, .ref m3, .ref m4, .ref m5, .ref m6])), (a6, .inr (4, [.ref p1, .ref p2, .ref p3, .ref p4, .ref p5, .int 0, .int 0, .int 0, .int 0, .int 0])), (a5, .inr (6, [.ref b1, .ref b2, .ref b3, .ref b4, .ref b5, .ref b6, .int 0, .int 0])), (b1, .inl (k3, 12, .inl ufb_19)), (b2, .inl (k4, 12, .inl ufk_20)), (ua_11, .inr (5, [.ref uh_17, .int 0, .int 0, .ref a5, .ref a4, .ref ub_12, .ref uc_13, .int 0, .ref ud_14, .ref ue_15, .ref uf_16, .int ux_22])), (uc_13, .inl (ug_18, 13, .inl uff_21)), (h0, .inr (8, [.ref a1, .ref a2, .ref a3, .ref a4, .ref a5, .ref a6, .ref a7, .ref ua_11, .int 0, .int 0, .int 0, .int 0, .int 100, .int 10, .int 0, .int 0, .int 0, .int 0, .int 0]))] H := hP
      have hD : va_D A [(a1, .inl (k1, 4, .inr (.inr (.inr (.inr (fun _ => none)))))), (a2, .inl (k2, 12, .inr (.inr (.inr (.inr (fun _ => none)))))), (a3, .inr (1, [.int 0, .ref m1, .ref m2, .ref m3, .ref m4, .ref m5, .ref m6])), (a6, .inr (4, [.ref p1, .ref p2, .ref p3, .ref p4, .ref p5, .int 0, .int 0, .int 0, .int 0, .int 0])), (a5, .inr (6, [.ref b1, .ref b2, .ref b3, .ref b4, .ref b5, .ref b6, .int 0, .int 0])), (b1, .inl (k3, 12, .inl ufb_19)), (b2, .inl (k4, 12, .inl ufk_20)), (ua_11, .inr (5, [.ref uh_17, .int 0, .int 0, .ref a5, .ref a4, .ref ub_12, .ref uc_13, .int 0, .ref ud_14, .ref ue_15, .ref uf_16, .int ux_22])), (uc_13, .inl (ug_18, 13, .inl uff_21)), (h0, .inr (8, [.ref a1, .ref a2, .ref a3, .ref a4, .ref a5, .ref a6, .ref a7, .ref ua_11, .int 0, .int 0, .int 0, .int 0, .int 100, .int 10, .int 0, .int 0, .int 0, .int 0, .int 0]))] := hD
      have hK : va_K D vwCl [(k1, .object RX0), (k2, .object RX3), (k3, .int), (k4, .int), (ug_18, .int)] s := hK
      refine W.widen (k := 7) (n := 11399) (Nat.le_of_ble_eq_true rfl) (Nat.le_of_ble_eq_true rfl) ?_
      refine tI (y := 0) hw_28 ?_
      refine lv_iadd hx hb dX8_ahead_74 ?_
      refine tI (y := 0) (by decide) ?_
      refine lv_istore_n (lv' := [(3, .int 0), (5, .int 0), (4, .int 0), (2, .int 0), (0, .ref h0), (1, .int (nI N1))]) hx hb dX8_ahead_75 rfl hl (by decide) rfl (fun ls hl => ?_)
      refine lv_aload_n hx hb dX8_ahead_76 rfl (lv_at hl 4 rfl) ?_
      refine fr_v (wr := [(a1, .inl (k1, 4, .inr (.inr (.inr (.inr (fun _ => none)))))), (a2, .inl (k2, 12, .inr (.inr (.inr (.inr (fun _ => none)))))), (a3, .inr (1, [.int 0, .ref m1, .ref m2, .ref m3, .ref m4, .ref m5, .ref m6])), (a6, .inr (4, [.ref p1, .ref p2, .ref p3, .ref p4, .ref p5, .int 0, .int 0, .int 0, .int 0, .int 0])), (a5, .inr (6, [.ref b1, .ref b2, .ref b3, .ref b4, .ref b5, .ref b6, .int 0, .int 0])), (b1, .inl (k3, 12, .inl ufb_19)), (b2, .inl (k4, 12, .inl ufk_20)), (ua_11, .inr (5, [.ref uh_17, .int 0, .int 0, .ref a5, .ref a4, .ref ub_12, .ref uc_13, .int 0, .ref ud_14, .ref ue_15, .ref uf_16, .int ux_22])), (uc_13, .inl (ug_18, 13, .inl uff_21))]) (va_runV (As := []) (rest := []) ⟨hx, hb, hml, hown, hts⟩ (c_X8_passMonth l D H.size h0 0 (.ref a1) (.ref a2) (.ref a3) (.ref a4) (.ref a5) (.ref a6) (.ref a7) (.ref ua_11) (.int 0) (.int 0) (.int 100) (.int 10) (.int 0) (.int 0) (.int 0) (.int 0) (.int 0) ) (cwV 0 hts (gV (fun w h => List.mem_cons_of_mem _ h) gw_212 gw_213 gw_214 gw_135 gw_211) rfl rfl rfl (by decide +kernel) ⟨Nat.le_of_ble_eq_true rfl, Nat.le_of_ble_eq_true rfl⟩) (pw_V [9] [] hP hD hK hN rfl rfl (by decide) rfl (ci := 8) (q0 := 9) rfl rfl) rfl rfl hl.1 rfl (lv_room (Nat.le_of_ble_eq_true rfl)) dX8_ahead_77 ⟨Nat.le_of_ble_eq_true rfl, Nat.le_of_ble_eq_true rfl⟩) hP hD hK hS hA [9] [0, 1, 2, 3, 4, 5, 6, 7, 8] rfl rfl (by decide) (by decide) (fun u_29 H locs hw_31 hP hD hK hS => ?_)
      try dsimp only at hw_31
      have hP : va_P D vwCl [(a1, .inl (k1, 4, .inr (.inr (.inr (.inr (fun _ => none)))))), (a2, .inl (k2, 12, .inr (.inr (.inr (.inr (fun _ => none)))))), (a3, .inr (1, [.int 0, .ref m1, .ref m2, .ref m3, .ref m4, .ref m5, .ref m6])), (a6, .inr (4, [.ref p1, .ref p2, .ref p3, .ref p4, .ref p5, .int 0, .int 0, .int 0, .int 0, .int 0])), (a5, .inr (6, [.ref b1, .ref b2, .ref b3, .ref b4, .ref b5, .ref b6, .int 0, .int 0])), (b1, .inl (k3, 12, .inl ufb_19)), (b2, .inl (k4, 12, .inl ufk_20)), (ua_11, .inr (5, [.ref uh_17, .int 0, .int 0, .ref a5, .ref a4, .ref ub_12, .ref uc_13, .int 0, .ref ud_14, .ref ue_15, .ref uf_16, .int ux_22])), (uc_13, .inl (ug_18, 13, .inl uff_21)), (h0, .inr (8, [.ref a1, .ref a2, .ref a3, .ref a4, .ref a5, .ref a6, .ref a7, .ref ua_11, .int 0, .int 0, .int 0, .int (nI (0 + 1)), .int 100, .int 10, .int 0, .int 0, .int 0, .int 0, .int 0]))] H := hP
      have hD : va_D A [(a1, .inl (k1, 4, .inr (.inr (.inr (.inr (fun _ => none)))))), (a2, .inl (k2, 12, .inr (.inr (.inr (.inr (fun _ => none)))))), (a3, .inr (1, [.int 0, .ref m1, .ref m2, .ref m3, .ref m4, .ref m5, .ref m6])), (a6, .inr (4, [.ref p1, .ref p2, .ref p3, .ref p4, .ref p5, .int 0, .int 0, .int 0, .int 0, .int 0])), (a5, .inr (6, [.ref b1, .ref b2, .ref b3, .ref b4, .ref b5, .ref b6, .int 0, .int 0])), (b1, .inl (k3, 12, .inl ufb_19)), (b2, .inl (k4, 12, .inl ufk_20)), (ua_11, .inr (5, [.ref uh_17, .int 0, .int 0, .ref a5, .ref a4, .ref ub_12, .ref uc_13, .int 0, .ref ud_14, .ref ue_15, .ref uf_16, .int ux_22])), (uc_13, .inl (ug_18, 13, .inl uff_21)), (h0, .inr (8, [.ref a1, .ref a2, .ref a3, .ref a4, .ref a5, .ref a6, .ref a7, .ref ua_11, .int 0, .int 0, .int 0, .int (nI (0 + 1)), .int 100, .int 10, .int 0, .int 0, .int 0, .int 0, .int 0]))] := hD
      have hK : va_K D vwCl [(k1, .object RX0), (k2, .object RX3), (k3, .int), (k4, .int), (ug_18, .int)] s := hK
      refine W.widen (k := 7) (n := 11399) (Nat.le_of_ble_eq_true rfl) (Nat.le_of_ble_eq_true rfl) ?_
      refine lv_iinc (v := 1) (lv' := [(4, .int 1), (3, .int 0), (5, .int 0), (2, .int 0), (0, .ref h0), (1, .int (nI N1))]) hx hb dX8_ahead_80 hl (k := 2) rfl (by decide) (by decide) rfl (fun ls hl => ?_)
      refine lv_goto (tgt := 47) hx hb dX8_ahead_83 (by decide) ?_
      have lp47 : ∀ (n i4 : Nat) (f_32 : Nat → Int32) (f_33 : Nat → Int32) (f_34 : Nat → Int32) (rd_35 : Int32) (H : Heap) (locs : List Loc) (ls : Array Slot), 1 ≤ i4 → i4 ≤ N1 → N1 < i4 + n → va_P D vwCl [(a1, .inl (k1, 4, .inr (.inr (.inr (.inr (fun _ => none)))))), (a2, .inl (k2, 12, .inr (.inr (.inr (.inr (fun _ => none)))))), (a3, .inr (1, [.int 0, .ref m1, .ref m2, .ref m3, .ref m4, .ref m5, .ref m6])), (a6, .inr (4, [.ref p1, .ref p2, .ref p3, .ref p4, .ref p5, .int 0, .int 0, .int 0, .int 0, .int 0])), (a5, .inr (6, [.ref b1, .ref b2, .ref b3, .ref b4, .ref b5, .ref b6, .int 0, .int 0])), (b1, .inl (k3, 12, .inl f_32)), (b2, .inl (k4, 12, .inl f_33)), (ua_11, .inr (5, [.ref uh_17, .int 0, .int 0, .ref a5, .ref a4, .ref ub_12, .ref uc_13, .int 0, .ref ud_14, .ref ue_15, .ref uf_16, .int rd_35])), (uc_13, .inl (ug_18, 13, .inl f_34)), (h0, .inr (8, [.ref a1, .ref a2, .ref a3, .ref a4, .ref a5, .ref a6, .ref a7, .ref ua_11, .int 0, .int 0, .int 0, .int (nI i4), .int 100, .int 10, .int 0, .int 0, .int 0, .int 0, .int 0]))] H → va_D A [(a1, .inl (k1, 4, .inr (.inr (.inr (.inr (fun _ => none)))))), (a2, .inl (k2, 12, .inr (.inr (.inr (.inr (fun _ => none)))))), (a3, .inr (1, [.int 0, .ref m1, .ref m2, .ref m3, .ref m4, .ref m5, .ref m6])), (a6, .inr (4, [.ref p1, .ref p2, .ref p3, .ref p4, .ref p5, .int 0, .int 0, .int 0, .int 0, .int 0])), (a5, .inr (6, [.ref b1, .ref b2, .ref b3, .ref b4, .ref b5, .ref b6, .int 0, .int 0])), (b1, .inl (k3, 12, .inl f_32)), (b2, .inl (k4, 12, .inl f_33)), (ua_11, .inr (5, [.ref uh_17, .int 0, .int 0, .ref a5, .ref a4, .ref ub_12, .ref uc_13, .int 0, .ref ud_14, .ref ue_15, .ref uf_16, .int rd_35])), (uc_13, .inl (ug_18, 13, .inl f_34)), (h0, .inr (8, [.ref a1, .ref a2, .ref a3, .ref a4, .ref a5, .ref a6, .ref a7, .ref ua_11, .int 0, .int 0, .int 0, .int (nI i4), .int 100, .int 10, .int 0, .int 0, .int 0, .int 0, .int 0]))] → va_S A s.heap H locs → lv_has ls 6 [(4, .int (nI i4)), (3, .int 0), (5, .int 0), (2, .int 0), (0, .ref h0), (1, .int (nI N1))] → W p l e ({ frames := 10, cells := 7, slots := 11399, locals := 151 } : Room) s m (([.ref h0, .int x1] : List Value).toArray) below meth c H locs 7 11399 (MQ below (va_Qi (fun (r : Int32) (u : Unit) => r = (if isW x1 0 12 = 0 then -1 else 0)) (fun (u : Unit) => qw D A [] []) A) (([.ref h0, .int x1] : List Value).toArray) s 7 11399 A) (F0 m 47 ls []) := by
        intro n
        induction n with
        | zero => intro i4 f_32 f_33 f_34 rd_35 H locs ls h0 hi hn; exact absurd hn (by omega)
        | succ n ih47 =>
          intro i4 f_32 f_33 f_34 rd_35 H locs ls h0_38 hi_36 hn_37 hP hD hS hl
          refine lv_iload hx hb dX8_ahead_47 (lv_at hl 0 rfl) ?_
          refine lv_iload_n hx hb dX8_ahead_49 rfl (lv_at hl 5 rfl) ?_
          refine lv_icmp_ge (tgt := 86) hx hb dX8_ahead_50 (by decide) (fun c_39 => ?_) (fun c_39 => ?_)
          · skip
            have hc_39 := ge_of (i := i4) N1 c_39 rfl (by omega) (by omega)
            refine lv_iconst (v := 0) hx hb dX8_ahead_86 (by decide) ?_
            refine lv_istore (lv' := [(4, .int 0), (3, .int 0), (5, .int 0), (2, .int 0), (0, .ref h0), (1, .int (nI N1))]) hx hb dX8_ahead_87 hl (by decide) rfl (fun ls hl => ?_)
            refine lv_iload hx hb dX8_ahead_89 (lv_at hl 0 rfl) ?_
            refine lv_aload_n hx hb dX8_ahead_91 rfl (lv_at hl 4 rfl) ?_
            refine va_get (D := D) (ci := 8) (v := .int 0) (C := RX8) (T := TX8) (N := 19) hx hb hts (fun w h => List.mem_cons_of_mem _ (inG8 w h)) hown hK hP 9 rfl rfl 9 (by decide) (hts _ (List.mem_cons_of_mem _ gw_5)) (fun _ h9 => h9) rfl dX8_ahead_92 ?_
            refine lv_icmp_ge (tgt := 114) hx hb dX8_ahead_95 (by decide) (fun c_40 => ?_) (fun c_40 => absurd (by decide) c_40)
            refine lv_aload_n hx hb dX8_ahead_114 rfl (lv_at hl 4 rfl) ?_
            refine lv_iload_n hx hb dX8_ahead_115 rfl (lv_at hl 3 rfl) ?_
            refine va_put (D := D) (ci := 8) (v := .int 0) (ty := .int) (C := RX8) (T := TX8) (N := 19) hx hb hts (fun w h => List.mem_cons_of_mem _ (inG8 w h)) tyX8 tyX8_ok nmX8 hown hK hP hD hS 9 rfl rfl 11 (by decide) (hts _ (List.mem_cons_of_mem _ gw_7)) (fun _ h9 => h9) rfl (by decide +kernel) rfl rfl (Nat.le_of_ble_eq_true rfl) dX8_ahead_116 (fun H locs hP hD hS => ?_)
            have hP : va_P D vwCl [(a1, .inl (k1, 4, .inr (.inr (.inr (.inr (fun _ => none)))))), (a2, .inl (k2, 12, .inr (.inr (.inr (.inr (fun _ => none)))))), (a3, .inr (1, [.int 0, .ref m1, .ref m2, .ref m3, .ref m4, .ref m5, .ref m6])), (a6, .inr (4, [.ref p1, .ref p2, .ref p3, .ref p4, .ref p5, .int 0, .int 0, .int 0, .int 0, .int 0])), (a5, .inr (6, [.ref b1, .ref b2, .ref b3, .ref b4, .ref b5, .ref b6, .int 0, .int 0])), (b1, .inl (k3, 12, .inl f_32)), (b2, .inl (k4, 12, .inl f_33)), (ua_11, .inr (5, [.ref uh_17, .int 0, .int 0, .ref a5, .ref a4, .ref ub_12, .ref uc_13, .int 0, .ref ud_14, .ref ue_15, .ref uf_16, .int rd_35])), (uc_13, .inl (ug_18, 13, .inl f_34)), (h0, .inr (8, [.ref a1, .ref a2, .ref a3, .ref a4, .ref a5, .ref a6, .ref a7, .ref ua_11, .int 0, .int 0, .int 0, .int 0, .int 100, .int 10, .int 0, .int 0, .int 0, .int 0, .int 0]))] H := hP
            have hD : va_D A [(a1, .inl (k1, 4, .inr (.inr (.inr (.inr (fun _ => none)))))), (a2, .inl (k2, 12, .inr (.inr (.inr (.inr (fun _ => none)))))), (a3, .inr (1, [.int 0, .ref m1, .ref m2, .ref m3, .ref m4, .ref m5, .ref m6])), (a6, .inr (4, [.ref p1, .ref p2, .ref p3, .ref p4, .ref p5, .int 0, .int 0, .int 0, .int 0, .int 0])), (a5, .inr (6, [.ref b1, .ref b2, .ref b3, .ref b4, .ref b5, .ref b6, .int 0, .int 0])), (b1, .inl (k3, 12, .inl f_32)), (b2, .inl (k4, 12, .inl f_33)), (ua_11, .inr (5, [.ref uh_17, .int 0, .int 0, .ref a5, .ref a4, .ref ub_12, .ref uc_13, .int 0, .ref ud_14, .ref ue_15, .ref uf_16, .int rd_35])), (uc_13, .inl (ug_18, 13, .inl f_34)), (h0, .inr (8, [.ref a1, .ref a2, .ref a3, .ref a4, .ref a5, .ref a6, .ref a7, .ref ua_11, .int 0, .int 0, .int 0, .int 0, .int 100, .int 10, .int 0, .int 0, .int 0, .int 0, .int 0]))] := hD
            refine lv_iload_n hx hb dX8_ahead_119 rfl (lv_at hl 1 rfl) ?_
            have hP9 := hP.sub (ws' := []) [] rfl
            have hD9 := hD.sub (ws' := []) [] (by decide) rfl
            have hK9 := hK.sub (tys' := []) [] rfl
            refine W.widen (k := 7) (n := 11399) (Nat.le_of_ble_eq_true rfl) (Nat.le_of_ble_eq_true rfl) ?_
            exact W.iret (v := 0) hx hb hr (fun t ht hW => ⟨⟨0, (), rfl, (if_neg c_4).symm, by rw [ht]; exact hP9, va_K.moved hW.alike hK9, hD9⟩, hS.F ht⟩) hS.2.2 dX8_ahead_120
          · skip
            have hc_39 := lt_of (i := i4) N1 c_39 rfl (by omega)
            refine lv_aload_n hx hb dX8_ahead_53 rfl (lv_at hl 4 rfl) ?_
            refine fr_q (wr := [(a1, .inl (k1, 4, .inr (.inr (.inr (.inr (fun _ => none)))))), (a2, .inl (k2, 12, .inr (.inr (.inr (.inr (fun _ => none)))))), (a3, .inr (1, [.int 0, .ref m1, .ref m2, .ref m3, .ref m4, .ref m5, .ref m6])), (a6, .inr (4, [.ref p1, .ref p2, .ref p3, .ref p4, .ref p5, .int 0, .int 0, .int 0, .int 0, .int 0]))]) (va_runV (As := []) (rest := []) ⟨hx, hb, hml, hown, hts⟩ (c_X8_makePlan2 l D H.size h0 a4 a5 ua_11 (.ref a1) (.ref a2) (.ref a3) (.ref a6) (.ref a7) (.int 0) (.int 0) (.int (nI i4)) (.int 100) (.int 10) (.int 0) (.int 0) (.int 0) (.int 0) (.int 0) b1 b2 (.ref b3) (.ref b4) (.ref b5) (.ref b6) 0 0 k3 k4 f_32 f_33 uh_17 ub_12 uc_13 ud_14 ue_15 uf_16 0 0 0 rd_35 ug_18 f_34 ) (cwV 0 hts (gV (fun w h => List.mem_cons_of_mem _ h) gw_202 gw_203 gw_204 gw_135 gw_201) rfl rfl rfl (by decide +kernel) ⟨Nat.le_of_ble_eq_true rfl, Nat.le_of_ble_eq_true rfl⟩) (pw_V [9, 4, 5, 6, 7, 8] [2, 3, 4] hP hD hK hN rfl rfl (by decide) rfl (ci := 8) (q0 := 9) rfl rfl) rfl rfl hl.1 rfl (lv_room (Nat.le_of_ble_eq_true rfl)) dX8_ahead_54 ⟨Nat.le_of_ble_eq_true rfl, Nat.le_of_ble_eq_true rfl⟩) hP hD hK hS hA [9, 4, 5, 6, 7, 8] [0, 1, 2, 3] rfl rfl (by decide) (by decide) (fun r_42 u_41 H locs hw_43 hP hD hK hS => ?_)
            obtain ⟨ufb_44, ufk_45, uff_46, ux_47⟩ := u_41
            try dsimp only at hw_43
            have hP : va_P D vwCl [(a1, .inl (k1, 4, .inr (.inr (.inr (.inr (fun _ => none)))))), (a2, .inl (k2, 12, .inr (.inr (.inr (.inr (fun _ => none)))))), (a3, .inr (1, [.int 0, .ref m1, .ref m2, .ref m3, .ref m4, .ref m5, .ref m6])), (a6, .inr (4, [.ref p1, .ref p2, .ref p3, .ref p4, .ref p5, .int 0, .int 0, .int 0, .int 0, .int 0])), (h0, .inr (8, [.ref a1, .ref a2, .ref a3, .ref a4, .ref a5, .ref a6, .ref a7, .ref ua_11, .int 0, .int 0, .int 0, .int (nI i4), .int 100, .int 10, .int 0, .int 0, .int 0, .int 0, .int 0])), (a5, .inr (6, [.ref b1, .ref b2, .ref b3, .ref b4, .ref b5, .ref b6, .int 0, .int 0])), (b1, .inl (k3, 12, .inl ufb_44)), (b2, .inl (k4, 12, .inl ufk_45)), (ua_11, .inr (5, [.ref uh_17, .int 0, .int 0, .ref a5, .ref a4, .ref ub_12, .ref uc_13, .int 0, .ref ud_14, .ref ue_15, .ref uf_16, .int ux_47])), (uc_13, .inl (ug_18, 13, .inl uff_46))] H := hP
            have hD : va_D A [(a1, .inl (k1, 4, .inr (.inr (.inr (.inr (fun _ => none)))))), (a2, .inl (k2, 12, .inr (.inr (.inr (.inr (fun _ => none)))))), (a3, .inr (1, [.int 0, .ref m1, .ref m2, .ref m3, .ref m4, .ref m5, .ref m6])), (a6, .inr (4, [.ref p1, .ref p2, .ref p3, .ref p4, .ref p5, .int 0, .int 0, .int 0, .int 0, .int 0])), (h0, .inr (8, [.ref a1, .ref a2, .ref a3, .ref a4, .ref a5, .ref a6, .ref a7, .ref ua_11, .int 0, .int 0, .int 0, .int (nI i4), .int 100, .int 10, .int 0, .int 0, .int 0, .int 0, .int 0])), (a5, .inr (6, [.ref b1, .ref b2, .ref b3, .ref b4, .ref b5, .ref b6, .int 0, .int 0])), (b1, .inl (k3, 12, .inl ufb_44)), (b2, .inl (k4, 12, .inl ufk_45)), (ua_11, .inr (5, [.ref uh_17, .int 0, .int 0, .ref a5, .ref a4, .ref ub_12, .ref uc_13, .int 0, .ref ud_14, .ref ue_15, .ref uf_16, .int ux_47])), (uc_13, .inl (ug_18, 13, .inl uff_46))] := hD
            have hK : va_K D vwCl [(k1, .object RX0), (k2, .object RX3), (k3, .int), (k4, .int), (ug_18, .int)] s := hK
            refine W.widen (k := 7) (n := 11399) (Nat.le_of_ble_eq_true rfl) (Nat.le_of_ble_eq_true rfl) ?_
            subst hw_43
            show W _ _ _ _ _ _ _ _ _ _ _ _ _ _ _ (F0 _ _ _ (.ref ua_11 :: _))
            refine va_get (D := D) (ci := 5) (v := .int 0) (C := RX5) (T := TX5) (N := 12) hx hb hts (fun w h => List.mem_cons_of_mem _ (inG5 w h)) hown hK hP 8 rfl rfl 2 (by decide) (hts _ (List.mem_cons_of_mem _ gw_215)) (fun _ h9 => h9) rfl dX8_ahead_57 ?_
            refine lv_istore (lv' := [(5, .int 0), (4, .int (nI i4)), (3, .int 0), (2, .int 0), (0, .ref h0), (1, .int (nI N1))]) hx hb dX8_ahead_60 hl (by decide) rfl (fun ls hl => ?_)
            refine lv_aload_n hx hb dX8_ahead_62 rfl (lv_at hl 4 rfl) ?_
            refine lv_iload hx hb dX8_ahead_63 (lv_at hl 0 rfl) ?_
            refine fr_v (wr := [(a1, .inl (k1, 4, .inr (.inr (.inr (.inr (fun _ => none)))))), (a2, .inl (k2, 12, .inr (.inr (.inr (.inr (fun _ => none)))))), (a3, .inr (1, [.int 0, .ref m1, .ref m2, .ref m3, .ref m4, .ref m5, .ref m6])), (a6, .inr (4, [.ref p1, .ref p2, .ref p3, .ref p4, .ref p5, .int 0, .int 0, .int 0, .int 0, .int 0])), (a5, .inr (6, [.ref b1, .ref b2, .ref b3, .ref b4, .ref b5, .ref b6, .int 0, .int 0])), (b1, .inl (k3, 12, .inl ufb_44)), (b2, .inl (k4, 12, .inl ufk_45)), (ua_11, .inr (5, [.ref uh_17, .int 0, .int 0, .ref a5, .ref a4, .ref ub_12, .ref uc_13, .int 0, .ref ud_14, .ref ue_15, .ref uf_16, .int ux_47])), (uc_13, .inl (ug_18, 13, .inl uff_46))]) (va_runV (As := [.int 0]) (rest := []) ⟨hx, hb, hml, hown, hts⟩ (c_X8_shoeAll l D H.size h0 0 ([.ref a1, .ref a2, .ref a3, .ref a4, .ref a5, .ref a6, .ref a7, .ref ua_11, .int 0, .int 0, .int 0, .int (nI i4), .int 100, .int 10, .int 0, .int 0, .int 0, .int 0, .int 0]) rfl) (cwV 1 hts (gV (fun w h => List.mem_cons_of_mem _ h) gw_217 gw_218 gw_219 gw_135 gw_216) rfl rfl rfl (by decide +kernel) ⟨Nat.le_of_ble_eq_true rfl, Nat.le_of_ble_eq_true rfl⟩) (pw_V [4] [] hP hD hK hN rfl rfl (by decide) rfl (ci := 8) (q0 := 4) rfl rfl) rfl rfl hl.1 rfl (lv_room (Nat.le_of_ble_eq_true rfl)) dX8_ahead_65 ⟨Nat.le_of_ble_eq_true rfl, Nat.le_of_ble_eq_true rfl⟩) hP hD hK hS hA [4] [0, 1, 2, 3, 5, 6, 7, 8, 9] rfl rfl (by decide) (by decide) (fun u_48 H locs hw_50 hP hD hK hS => ?_)
            try dsimp only at hw_50
            have hP : va_P D vwCl [(a1, .inl (k1, 4, .inr (.inr (.inr (.inr (fun _ => none)))))), (a2, .inl (k2, 12, .inr (.inr (.inr (.inr (fun _ => none)))))), (a3, .inr (1, [.int 0, .ref m1, .ref m2, .ref m3, .ref m4, .ref m5, .ref m6])), (a6, .inr (4, [.ref p1, .ref p2, .ref p3, .ref p4, .ref p5, .int 0, .int 0, .int 0, .int 0, .int 0])), (a5, .inr (6, [.ref b1, .ref b2, .ref b3, .ref b4, .ref b5, .ref b6, .int 0, .int 0])), (b1, .inl (k3, 12, .inl ufb_44)), (b2, .inl (k4, 12, .inl ufk_45)), (ua_11, .inr (5, [.ref uh_17, .int 0, .int 0, .ref a5, .ref a4, .ref ub_12, .ref uc_13, .int 0, .ref ud_14, .ref ue_15, .ref uf_16, .int ux_47])), (uc_13, .inl (ug_18, 13, .inl uff_46)), (h0, .inr (8, [.ref a1, .ref a2, .ref a3, .ref a4, .ref a5, .ref a6, .ref a7, .ref ua_11, .int 0, .int 0, .int 0, .int (nI i4), .int 100, .int 10, .int 0, .int 0, .int 0, .int 0, .int 0]))] H := hP
            have hD : va_D A [(a1, .inl (k1, 4, .inr (.inr (.inr (.inr (fun _ => none)))))), (a2, .inl (k2, 12, .inr (.inr (.inr (.inr (fun _ => none)))))), (a3, .inr (1, [.int 0, .ref m1, .ref m2, .ref m3, .ref m4, .ref m5, .ref m6])), (a6, .inr (4, [.ref p1, .ref p2, .ref p3, .ref p4, .ref p5, .int 0, .int 0, .int 0, .int 0, .int 0])), (a5, .inr (6, [.ref b1, .ref b2, .ref b3, .ref b4, .ref b5, .ref b6, .int 0, .int 0])), (b1, .inl (k3, 12, .inl ufb_44)), (b2, .inl (k4, 12, .inl ufk_45)), (ua_11, .inr (5, [.ref uh_17, .int 0, .int 0, .ref a5, .ref a4, .ref ub_12, .ref uc_13, .int 0, .ref ud_14, .ref ue_15, .ref uf_16, .int ux_47])), (uc_13, .inl (ug_18, 13, .inl uff_46)), (h0, .inr (8, [.ref a1, .ref a2, .ref a3, .ref a4, .ref a5, .ref a6, .ref a7, .ref ua_11, .int 0, .int 0, .int 0, .int (nI i4), .int 100, .int 10, .int 0, .int 0, .int 0, .int 0, .int 0]))] := hD
            have hK : va_K D vwCl [(k1, .object RX0), (k2, .object RX3), (k3, .int), (k4, .int), (ug_18, .int)] s := hK
            refine W.widen (k := 7) (n := 11399) (Nat.le_of_ble_eq_true rfl) (Nat.le_of_ble_eq_true rfl) ?_
            refine lv_iload_n hx hb dX8_ahead_68 rfl (lv_at hl 2 rfl) ?_
            refine lv_iload hx hb dX8_ahead_69 (lv_at hl 0 rfl) ?_
            refine fr_i (wr := [(a1, .inl (k1, 4, .inr (.inr (.inr (.inr (fun _ => none)))))), (a2, .inl (k2, 12, .inr (.inr (.inr (.inr (fun _ => none)))))), (a3, .inr (1, [.int 0, .ref m1, .ref m2, .ref m3, .ref m4, .ref m5, .ref m6])), (a6, .inr (4, [.ref p1, .ref p2, .ref p3, .ref p4, .ref p5, .int 0, .int 0, .int 0, .int 0, .int 0])), (a5, .inr (6, [.ref b1, .ref b2, .ref b3, .ref b4, .ref b5, .ref b6, .int 0, .int 0])), (b1, .inl (k3, 12, .inl ufb_44)), (b2, .inl (k4, 12, .inl ufk_45)), (ua_11, .inr (5, [.ref uh_17, .int 0, .int 0, .ref a5, .ref a4, .ref ub_12, .ref uc_13, .int 0, .ref ud_14, .ref ue_15, .ref uf_16, .int ux_47])), (uc_13, .inl (ug_18, 13, .inl uff_46)), (h0, .inr (8, [.ref a1, .ref a2, .ref a3, .ref a4, .ref a5, .ref a6, .ref a7, .ref ua_11, .int 0, .int 0, .int 0, .int (nI i4), .int 100, .int 10, .int 0, .int 0, .int 0, .int 0, .int 0]))]) (va_runS (As := [.int 0]) (rest := [.int 0]) ⟨hx, hb, hml, hown, hts⟩ (c_J6_bitCount l D H.size  ) (va_cwS 1 hts (gS (fun w h => List.mem_cons_of_mem _ h) gw_221 gw_222 gw_223 gw_220) rfl rfl rfl (by decide +kernel) ⟨Nat.le_of_ble_eq_true rfl, Nat.le_of_ble_eq_true rfl⟩) (pw_S [] [] hP hD hK hN rfl rfl (by decide) rfl) rfl rfl hl.1 rfl (lv_room (Nat.le_of_ble_eq_true rfl)) dX8_ahead_71 ⟨Nat.le_of_ble_eq_true rfl, Nat.le_of_ble_eq_true rfl⟩) hP hD hK hS hA [] [0, 1, 2, 3, 4, 5, 6, 7, 8, 9] rfl rfl (by decide) (by decide) (fun r_52 u_51 H locs hw_53 hP hD hK hS => ?_)
            try dsimp only at hw_53
            have hP : va_P D vwCl [(a1, .inl (k1, 4, .inr (.inr (.inr (.inr (fun _ => none)))))), (a2, .inl (k2, 12, .inr (.inr (.inr (.inr (fun _ => none)))))), (a3, .inr (1, [.int 0, .ref m1, .ref m2, .ref m3, .ref m4, .ref m5, .ref m6])), (a6, .inr (4, [.ref p1, .ref p2, .ref p3, .ref p4, .ref p5, .int 0, .int 0, .int 0, .int 0, .int 0])), (a5, .inr (6, [.ref b1, .ref b2, .ref b3, .ref b4, .ref b5, .ref b6, .int 0, .int 0])), (b1, .inl (k3, 12, .inl ufb_44)), (b2, .inl (k4, 12, .inl ufk_45)), (ua_11, .inr (5, [.ref uh_17, .int 0, .int 0, .ref a5, .ref a4, .ref ub_12, .ref uc_13, .int 0, .ref ud_14, .ref ue_15, .ref uf_16, .int ux_47])), (uc_13, .inl (ug_18, 13, .inl uff_46)), (h0, .inr (8, [.ref a1, .ref a2, .ref a3, .ref a4, .ref a5, .ref a6, .ref a7, .ref ua_11, .int 0, .int 0, .int 0, .int (nI i4), .int 100, .int 10, .int 0, .int 0, .int 0, .int 0, .int 0]))] H := hP
            have hD : va_D A [(a1, .inl (k1, 4, .inr (.inr (.inr (.inr (fun _ => none)))))), (a2, .inl (k2, 12, .inr (.inr (.inr (.inr (fun _ => none)))))), (a3, .inr (1, [.int 0, .ref m1, .ref m2, .ref m3, .ref m4, .ref m5, .ref m6])), (a6, .inr (4, [.ref p1, .ref p2, .ref p3, .ref p4, .ref p5, .int 0, .int 0, .int 0, .int 0, .int 0])), (a5, .inr (6, [.ref b1, .ref b2, .ref b3, .ref b4, .ref b5, .ref b6, .int 0, .int 0])), (b1, .inl (k3, 12, .inl ufb_44)), (b2, .inl (k4, 12, .inl ufk_45)), (ua_11, .inr (5, [.ref uh_17, .int 0, .int 0, .ref a5, .ref a4, .ref ub_12, .ref uc_13, .int 0, .ref ud_14, .ref ue_15, .ref uf_16, .int ux_47])), (uc_13, .inl (ug_18, 13, .inl uff_46)), (h0, .inr (8, [.ref a1, .ref a2, .ref a3, .ref a4, .ref a5, .ref a6, .ref a7, .ref ua_11, .int 0, .int 0, .int 0, .int (nI i4), .int 100, .int 10, .int 0, .int 0, .int 0, .int 0, .int 0]))] := hD
            have hK : va_K D vwCl [(k1, .object RX0), (k2, .object RX3), (k3, .int), (k4, .int), (ug_18, .int)] s := hK
            refine W.widen (k := 7) (n := 11399) (Nat.le_of_ble_eq_true rfl) (Nat.le_of_ble_eq_true rfl) ?_
            refine tI (y := 0) hw_53 ?_
            refine lv_iadd hx hb dX8_ahead_74 ?_
            refine tI (y := 0) (by decide) ?_
            refine lv_istore_n (lv' := [(3, .int 0), (5, .int 0), (4, .int (nI i4)), (2, .int 0), (0, .ref h0), (1, .int (nI N1))]) hx hb dX8_ahead_75 rfl hl (by decide) rfl (fun ls hl => ?_)
            refine lv_aload_n hx hb dX8_ahead_76 rfl (lv_at hl 4 rfl) ?_
            refine fr_v (wr := [(a1, .inl (k1, 4, .inr (.inr (.inr (.inr (fun _ => none)))))), (a2, .inl (k2, 12, .inr (.inr (.inr (.inr (fun _ => none)))))), (a3, .inr (1, [.int 0, .ref m1, .ref m2, .ref m3, .ref m4, .ref m5, .ref m6])), (a6, .inr (4, [.ref p1, .ref p2, .ref p3, .ref p4, .ref p5, .int 0, .int 0, .int 0, .int 0, .int 0])), (a5, .inr (6, [.ref b1, .ref b2, .ref b3, .ref b4, .ref b5, .ref b6, .int 0, .int 0])), (b1, .inl (k3, 12, .inl ufb_44)), (b2, .inl (k4, 12, .inl ufk_45)), (ua_11, .inr (5, [.ref uh_17, .int 0, .int 0, .ref a5, .ref a4, .ref ub_12, .ref uc_13, .int 0, .ref ud_14, .ref ue_15, .ref uf_16, .int ux_47])), (uc_13, .inl (ug_18, 13, .inl uff_46))]) (va_runV (As := []) (rest := []) ⟨hx, hb, hml, hown, hts⟩ (c_X8_passMonth l D H.size h0 i4 (.ref a1) (.ref a2) (.ref a3) (.ref a4) (.ref a5) (.ref a6) (.ref a7) (.ref ua_11) (.int 0) (.int 0) (.int 100) (.int 10) (.int 0) (.int 0) (.int 0) (.int 0) (.int 0) ) (cwV 0 hts (gV (fun w h => List.mem_cons_of_mem _ h) gw_212 gw_213 gw_214 gw_135 gw_211) rfl rfl rfl (by decide +kernel) ⟨Nat.le_of_ble_eq_true rfl, Nat.le_of_ble_eq_true rfl⟩) (pw_V [9] [] hP hD hK hN rfl rfl (by decide) rfl (ci := 8) (q0 := 9) rfl rfl) rfl rfl hl.1 rfl (lv_room (Nat.le_of_ble_eq_true rfl)) dX8_ahead_77 ⟨Nat.le_of_ble_eq_true rfl, Nat.le_of_ble_eq_true rfl⟩) hP hD hK hS hA [9] [0, 1, 2, 3, 4, 5, 6, 7, 8] rfl rfl (by decide) (by decide) (fun u_54 H locs hw_56 hP hD hK hS => ?_)
            try dsimp only at hw_56
            have hP : va_P D vwCl [(a1, .inl (k1, 4, .inr (.inr (.inr (.inr (fun _ => none)))))), (a2, .inl (k2, 12, .inr (.inr (.inr (.inr (fun _ => none)))))), (a3, .inr (1, [.int 0, .ref m1, .ref m2, .ref m3, .ref m4, .ref m5, .ref m6])), (a6, .inr (4, [.ref p1, .ref p2, .ref p3, .ref p4, .ref p5, .int 0, .int 0, .int 0, .int 0, .int 0])), (a5, .inr (6, [.ref b1, .ref b2, .ref b3, .ref b4, .ref b5, .ref b6, .int 0, .int 0])), (b1, .inl (k3, 12, .inl ufb_44)), (b2, .inl (k4, 12, .inl ufk_45)), (ua_11, .inr (5, [.ref uh_17, .int 0, .int 0, .ref a5, .ref a4, .ref ub_12, .ref uc_13, .int 0, .ref ud_14, .ref ue_15, .ref uf_16, .int ux_47])), (uc_13, .inl (ug_18, 13, .inl uff_46)), (h0, .inr (8, [.ref a1, .ref a2, .ref a3, .ref a4, .ref a5, .ref a6, .ref a7, .ref ua_11, .int 0, .int 0, .int 0, .int (nI (i4 + 1)), .int 100, .int 10, .int 0, .int 0, .int 0, .int 0, .int 0]))] H := hP
            have hD : va_D A [(a1, .inl (k1, 4, .inr (.inr (.inr (.inr (fun _ => none)))))), (a2, .inl (k2, 12, .inr (.inr (.inr (.inr (fun _ => none)))))), (a3, .inr (1, [.int 0, .ref m1, .ref m2, .ref m3, .ref m4, .ref m5, .ref m6])), (a6, .inr (4, [.ref p1, .ref p2, .ref p3, .ref p4, .ref p5, .int 0, .int 0, .int 0, .int 0, .int 0])), (a5, .inr (6, [.ref b1, .ref b2, .ref b3, .ref b4, .ref b5, .ref b6, .int 0, .int 0])), (b1, .inl (k3, 12, .inl ufb_44)), (b2, .inl (k4, 12, .inl ufk_45)), (ua_11, .inr (5, [.ref uh_17, .int 0, .int 0, .ref a5, .ref a4, .ref ub_12, .ref uc_13, .int 0, .ref ud_14, .ref ue_15, .ref uf_16, .int ux_47])), (uc_13, .inl (ug_18, 13, .inl uff_46)), (h0, .inr (8, [.ref a1, .ref a2, .ref a3, .ref a4, .ref a5, .ref a6, .ref a7, .ref ua_11, .int 0, .int 0, .int 0, .int (nI (i4 + 1)), .int 100, .int 10, .int 0, .int 0, .int 0, .int 0, .int 0]))] := hD
            have hK : va_K D vwCl [(k1, .object RX0), (k2, .object RX3), (k3, .int), (k4, .int), (ug_18, .int)] s := hK
            refine W.widen (k := 7) (n := 11399) (Nat.le_of_ble_eq_true rfl) (Nat.le_of_ble_eq_true rfl) ?_
            refine lv_iinc (v := (nI (i4 + 1))) (lv' := [(4, .int (nI (i4 + 1))), (3, .int 0), (5, .int 0), (2, .int 0), (0, .ref h0), (1, .int (nI N1))]) hx hb dX8_ahead_80 hl (k := 2) rfl (nI_1 _) (by decide) rfl (fun ls hl => ?_)
            refine lv_goto (tgt := 47) hx hb dX8_ahead_83 (by decide) ?_
            exact ih47 (i4 + 1) _ _ _ _ _ _ _ (by omega) (by omega) (by omega) (hP.sub [0, 1, 2, 3, 4, 5, 6, 7, 8, 9] rfl) (hD.sub [0, 1, 2, 3, 4, 5, 6, 7, 8, 9] (by decide) rfl) hS (lv_sub hl [0, 1, 2, 3, 4, 5] rfl)
      exact lp47 (N1 + 1) 1 _ _ _ _ _ _ _ (by omega) (by omega) (by omega) hP hD hS (lv_sub hl [0, 1, 2, 3, 4, 5] rfl)
  · skip
    refine lv_iconst (v := (-1)) hx hb dX8_ahead_10 (by decide) ?_
    have hP9 := hP.sub (ws' := []) [] rfl
    have hD9 := hD.sub (ws' := []) [] (by decide) rfl
    have hK9 := hK.sub (tys' := []) [] rfl
    refine W.widen (k := 7) (n := 11399) (Nat.le_of_ble_eq_true rfl) (Nat.le_of_ble_eq_true rfl) ?_
    exact W.iret (v := (-1)) hx hb hr (fun t ht hW => ⟨⟨(-1), (), rfl, (if_pos c_4).symm, by rw [ht]; exact hP9, va_K.moved hW.alike hK9, hD9⟩, hS.F ht⟩) hS.2.2 dX8_ahead_11
set_option maxHeartbeats 4000000 in
set_option maxRecDepth 100000 in
theorem c_X8_count (l : Launch) (D : va_G) (sz : Nat) (h0 : Nat) (a1 : Nat) (a2 : Nat) (a3 : Nat) (a4 : Nat) (a5 : Nat) (a6 : Nat) (a7 : Nat) (m1 : Nat) (m2 : Nat) (m3 : Nat) (m4 : Nat) (m5 : Nat) (m6 : Nat) (b1 : Nat) (b2 : Nat) (b3 : Nat) (b4 : Nat) (b5 : Nat) (b6 : Nat) (p1 : Nat) (p2 : Nat) (p3 : Nat) (p4 : Nat) (p5 : Nat) (k1 : ClassId) (k2 : ClassId) (k3 : ClassId) (k4 : ClassId) (x1 : Int32) : Met l yX8_count (.code yX8_count cX8_count 2 (some .int) :: G) ({ frames := 4, cells := 0, slots := 0, locals := 68 }) (va_Pc [.ref h0, .int x1] (pw D sz [(h0, .inr (8, [.ref a1, .ref a2, .ref a3, .ref a4, .ref a5, .ref a6, .ref a7, .null, .int 0, .int 0, .int 0, .int 0, .int 100, .int 10, .int 0, .int 0, .int 0, .int 0, .int 0])), (a1, .inl (k1, 4, .inr (.inr (.inr (.inr (fun _ => none)))))), (a2, .inl (k2, 12, .inr (.inr (.inr (.inr (fun _ => none)))))), (a3, .inr (1, [.int 0, .ref m1, .ref m2, .ref m3, .ref m4, .ref m5, .ref m6])), (a5, .inr (6, [.ref b1, .ref b2, .ref b3, .ref b4, .ref b5, .ref b6, .int 0, .int 0])), (b1, .inl (k3, 12, .inl (fun _ => 0))), (b2, .inl (k4, 12, .inl (fun _ => 0))), (a6, .inr (4, [.ref p1, .ref p2, .ref p3, .ref p4, .ref p5, .int 0, .int 0, .int 0, .int 0, .int 0]))] [(k1, .object RX0), (k2, .object RX3), (k3, .int), (k4, .int)])) (va_Qi (fun (r : Int32) (u : Unit) => r = isW x1 0 12 - 1) (fun (u : Unit) => qw D (va_A [(h0, .inr (8, [.ref a1, .ref a2, .ref a3, .ref a4, .ref a5, .ref a6, .ref a7, .null, .int 0, .int 0, .int 0, .int 0, .int 100, .int 10, .int 0, .int 0, .int 0, .int 0, .int 0])), (a1, .inl (k1, 4, .inr (.inr (.inr (.inr (fun _ => none)))))), (a2, .inl (k2, 12, .inr (.inr (.inr (.inr (fun _ => none)))))), (a3, .inr (1, [.int 0, .ref m1, .ref m2, .ref m3, .ref m4, .ref m5, .ref m6])), (a5, .inr (6, [.ref b1, .ref b2, .ref b3, .ref b4, .ref b5, .ref b6, .int 0, .int 0])), (b1, .inl (k3, 12, .inl (fun _ => 0))), (b2, .inl (k4, 12, .inl (fun _ => 0))), (a6, .inr (4, [.ref p1, .ref p2, .ref p3, .ref p4, .ref p5, .int 0, .int 0, .int 0, .int 0, .int 0]))] sz) [] []) (va_A [(h0, .inr (8, [.ref a1, .ref a2, .ref a3, .ref a4, .ref a5, .ref a6, .ref a7, .null, .int 0, .int 0, .int 0, .int 0, .int 100, .int 10, .int 0, .int 0, .int 0, .int 0, .int 0])), (a1, .inl (k1, 4, .inr (.inr (.inr (.inr (fun _ => none)))))), (a2, .inl (k2, 12, .inr (.inr (.inr (.inr (fun _ => none)))))), (a3, .inr (1, [.int 0, .ref m1, .ref m2, .ref m3, .ref m4, .ref m5, .ref m6])), (a5, .inr (6, [.ref b1, .ref b2, .ref b3, .ref b4, .ref b5, .ref b6, .int 0, .int 0])), (b1, .inl (k3, 12, .inl (fun _ => 0))), (b2, .inl (k4, 12, .inl (fun _ => 0))), (a6, .inr (4, [.ref p1, .ref p2, .ref p3, .ref p4, .ref p5, .int 0, .int 0, .int 0, .int 0, .int 0]))] sz)) 0 0 (va_A [(h0, .inr (8, [.ref a1, .ref a2, .ref a3, .ref a4, .ref a5, .ref a6, .ref a7, .null, .int 0, .int 0, .int 0, .int 0, .int 100, .int 10, .int 0, .int 0, .int 0, .int 0, .int 0])), (a1, .inl (k1, 4, .inr (.inr (.inr (.inr (fun _ => none)))))), (a2, .inl (k2, 12, .inr (.inr (.inr (.inr (fun _ => none)))))), (a3, .inr (1, [.int 0, .ref m1, .ref m2, .ref m3, .ref m4, .ref m5, .ref m6])), (a5, .inr (6, [.ref b1, .ref b2, .ref b3, .ref b4, .ref b5, .ref b6, .int 0, .int 0])), (b1, .inl (k3, 12, .inl (fun _ => 0))), (b2, .inl (k4, 12, .inl (fun _ => 0))), (a6, .inr (4, [.ref p1, .ref p2, .ref p3, .ref p4, .ref p5, .int 0, .int 0, .int 0, .int 0, .int 0]))] sz) := by
  refine Met.ofW (cc := cX8_count) (maxL := 2) (ret := (some .int)) (by decide) rfl ?_
  intro p e s m args below meth c s₁ B hml hv
  obtain ⟨rfl, hsz, hP, hK, hD0, hN⟩ := hv
  have hx := B.exec
  have hb := B.bytes
  have hr := B.returns
  have hts := atoms_spec (ws := (.code yX8_count cX8_count 2 (some .int) :: G)) B.pre
  have hown : s.vm.findClass RX8 = some m.cls := findClass_of_methodNamed B.named
  have hlocks := B.notSynchronized
  subst hsz
  have hD := hD0.self (sz := s.heap.size)
  generalize hAe : va_A [(h0, .inr (8, [.ref a1, .ref a2, .ref a3, .ref a4, .ref a5, .ref a6, .ref a7, .null, .int 0, .int 0, .int 0, .int 0, .int 100, .int 10, .int 0, .int 0, .int 0, .int 0, .int 0])), (a1, .inl (k1, 4, .inr (.inr (.inr (.inr (fun _ => none)))))), (a2, .inl (k2, 12, .inr (.inr (.inr (.inr (fun _ => none)))))), (a3, .inr (1, [.int 0, .ref m1, .ref m2, .ref m3, .ref m4, .ref m5, .ref m6])), (a5, .inr (6, [.ref b1, .ref b2, .ref b3, .ref b4, .ref b5, .ref b6, .int 0, .int 0])), (b1, .inl (k3, 12, .inl (fun _ => 0))), (b2, .inl (k4, 12, .inl (fun _ => 0))), (a6, .inr (4, [.ref p1, .ref p2, .ref p3, .ref p4, .ref p5, .int 0, .int 0, .int 0, .int 0, .int 0]))] s.heap.size = A at hD ⊢
  have hA : ∀ q : Nat, s.heap.size ≤ q → A q := fun q h => by rw [← hAe]; exact Or.inr h
  have hS : va_S A s.heap s.heap [] := va_S.rf
  have hP : va_P D vwCl [(h0, .inr (8, [.ref a1, .ref a2, .ref a3, .ref a4, .ref a5, .ref a6, .ref a7, .null, .int 0, .int 0, .int 0, .int 0, .int 100, .int 10, .int 0, .int 0, .int 0, .int 0, .int 0])), (a1, .inl (k1, 4, .inr (.inr (.inr (.inr (fun _ => none)))))), (a2, .inl (k2, 12, .inr (.inr (.inr (.inr (fun _ => none)))))), (a3, .inr (1, [.int 0, .ref m1, .ref m2, .ref m3, .ref m4, .ref m5, .ref m6])), (a5, .inr (6, [.ref b1, .ref b2, .ref b3, .ref b4, .ref b5, .ref b6, .int 0, .int 0])), (b1, .inl (k3, 12, .inl (fun _ => 0))), (b2, .inl (k4, 12, .inl (fun _ => 0))), (a6, .inr (4, [.ref p1, .ref p2, .ref p3, .ref p4, .ref p5, .int 0, .int 0, .int 0, .int 0, .int 0]))] s.heap := hP
  have hl := lv_entry ([.ref h0, .int x1]) (n := 2) (Nat.le_of_ble_eq_true rfl)
  rw [lg_entry_eq]
  generalize (lg_sl ([.ref h0, .int x1]) ++ List.replicate (2 - (lg_sl ([.ref h0, .int x1])).length) Slot.unset).toArray = ls at hl ⊢
  have hl : lv_has ls 2 [(0, .ref h0), (1, .int x1)] := hl
  refine lv_iload_n hx hb dX8_count_0 rfl (lv_at hl 1 rfl) ?_
  rcases sw13 x1 with hsw | rfl | rfl | rfl | rfl | rfl | rfl | rfl | rfl | rfl | rfl | rfl | rfl | rfl
  · refine lv_tableOut (tgt := 151) hx hb dX8_count_1 hsw (by decide) ?_
    refine lv_iconst (v := (-1)) hx hb dX8_count_151 (by decide) ?_
    have hP9 := hP.sub (ws' := []) [] rfl
    have hD9 := hD.sub (ws' := []) [] (by decide) rfl
    have hK9 := hK.sub (tys' := []) [] rfl
    refine W.widen (k := 0) (n := 0) (Nat.le_of_ble_eq_true rfl) (Nat.le_of_ble_eq_true rfl) ?_
    exact W.iret (v := (-1)) hx hb hr (fun t ht hW => ⟨⟨(-1), (), rfl, (cOut hsw), by rw [ht]; exact hP9, va_K.moved hW.alike hK9, hD9⟩, hS.F ht⟩) hS.2.2 dX8_count_152
  · refine lv_tableIn (tgt := 68) hx hb dX8_count_1 (by decide) (by decide) rfl (by decide) ?_
    refine lv_aload_n hx hb dX8_count_68 rfl (lv_at hl 0 rfl) ?_
    refine va_get (D := D) (ci := 8) (v := .int 0) (C := RX8) (T := TX8) (N := 19) hx hb hts (fun w h => List.mem_cons_of_mem _ (inG8 w h)) hown hK hP 0 rfl rfl 11 (by decide) (hts _ (List.mem_cons_of_mem _ gw_7)) (fun _ h9 => h9) rfl dX8_count_69 ?_
    have hP9 := hP.sub (ws' := []) [] rfl
    have hD9 := hD.sub (ws' := []) [] (by decide) rfl
    have hK9 := hK.sub (tys' := []) [] rfl
    refine W.widen (k := 0) (n := 0) (Nat.le_of_ble_eq_true rfl) (Nat.le_of_ble_eq_true rfl) ?_
    exact W.iret (v := 0) hx hb hr (fun t ht hW => ⟨⟨0, (), rfl, (by decide), by rw [ht]; exact hP9, va_K.moved hW.alike hK9, hD9⟩, hS.F ht⟩) hS.2.2 dX8_count_72
  · refine lv_tableIn (tgt := 73) hx hb dX8_count_1 (by decide) (by decide) rfl (by decide) ?_
    refine lv_aload_n hx hb dX8_count_73 rfl (lv_at hl 0 rfl) ?_
    refine va_get (D := D) (ci := 8) (v := .int 0) (C := RX8) (T := TX8) (N := 19) hx hb hts (fun w h => List.mem_cons_of_mem _ (inG8 w h)) hown hK hP 0 rfl rfl 8 (by decide) (hts _ (List.mem_cons_of_mem _ gw_4)) (fun _ h9 => h9) rfl dX8_count_74 ?_
    have hP9 := hP.sub (ws' := []) [] rfl
    have hD9 := hD.sub (ws' := []) [] (by decide) rfl
    have hK9 := hK.sub (tys' := []) [] rfl
    refine W.widen (k := 0) (n := 0) (Nat.le_of_ble_eq_true rfl) (Nat.le_of_ble_eq_true rfl) ?_
    exact W.iret (v := 0) hx hb hr (fun t ht hW => ⟨⟨0, (), rfl, (by decide), by rw [ht]; exact hP9, va_K.moved hW.alike hK9, hD9⟩, hS.F ht⟩) hS.2.2 dX8_count_77
  · refine lv_tableIn (tgt := 78) hx hb dX8_count_1 (by decide) (by decide) rfl (by decide) ?_
    refine lv_aload_n hx hb dX8_count_78 rfl (lv_at hl 0 rfl) ?_
    refine va_get (D := D) (ci := 8) (v := .int 0) (C := RX8) (T := TX8) (N := 19) hx hb hts (fun w h => List.mem_cons_of_mem _ (inG8 w h)) hown hK hP 0 rfl rfl 9 (by decide) (hts _ (List.mem_cons_of_mem _ gw_5)) (fun _ h9 => h9) rfl dX8_count_79 ?_
    have hP9 := hP.sub (ws' := []) [] rfl
    have hD9 := hD.sub (ws' := []) [] (by decide) rfl
    have hK9 := hK.sub (tys' := []) [] rfl
    refine W.widen (k := 0) (n := 0) (Nat.le_of_ble_eq_true rfl) (Nat.le_of_ble_eq_true rfl) ?_
    exact W.iret (v := 0) hx hb hr (fun t ht hW => ⟨⟨0, (), rfl, (by decide), by rw [ht]; exact hP9, va_K.moved hW.alike hK9, hD9⟩, hS.F ht⟩) hS.2.2 dX8_count_82
  · refine lv_tableIn (tgt := 83) hx hb dX8_count_1 (by decide) (by decide) rfl (by decide) ?_
    refine lv_aload_n hx hb dX8_count_83 rfl (lv_at hl 0 rfl) ?_
    refine va_get (D := D) (ci := 8) (v := .ref a3) (C := RX8) (T := TX8) (N := 19) hx hb hts (fun w h => List.mem_cons_of_mem _ (inG8 w h)) hown hK hP 0 rfl rfl 2 (by decide) (hts _ (List.mem_cons_of_mem _ gw_150)) (fun _ h9 => h9) rfl dX8_count_84 ?_
    refine va_get (D := D) (ci := 1) (v := .int 0) (C := RX1) (T := TX1) (N := 7) hx hb hts (fun w h => List.mem_cons_of_mem _ (inG1 w h)) hown hK hP 3 rfl rfl 0 (by decide) (hts _ (List.mem_cons_of_mem _ gw_224)) (fun _ h9 => h9) rfl dX8_count_87 ?_
    have hP9 := hP.sub (ws' := []) [] rfl
    have hD9 := hD.sub (ws' := []) [] (by decide) rfl
    have hK9 := hK.sub (tys' := []) [] rfl
    refine W.widen (k := 0) (n := 0) (Nat.le_of_ble_eq_true rfl) (Nat.le_of_ble_eq_true rfl) ?_
    exact W.iret (v := 0) hx hb hr (fun t ht hW => ⟨⟨0, (), rfl, (by decide), by rw [ht]; exact hP9, va_K.moved hW.alike hK9, hD9⟩, hS.F ht⟩) hS.2.2 dX8_count_90
  · refine lv_tableIn (tgt := 91) hx hb dX8_count_1 (by decide) (by decide) rfl (by decide) ?_
    refine lv_aload_n hx hb dX8_count_91 rfl (lv_at hl 0 rfl) ?_
    refine va_get (D := D) (ci := 8) (v := .ref a3) (C := RX8) (T := TX8) (N := 19) hx hb hts (fun w h => List.mem_cons_of_mem _ (inG8 w h)) hown hK hP 0 rfl rfl 2 (by decide) (hts _ (List.mem_cons_of_mem _ gw_150)) (fun _ h9 => h9) rfl dX8_count_92 ?_
    refine fr_i (wr := [(h0, .inr (8, [.ref a1, .ref a2, .ref a3, .ref a4, .ref a5, .ref a6, .ref a7, .null, .int 0, .int 0, .int 0, .int 0, .int 100, .int 10, .int 0, .int 0, .int 0, .int 0, .int 0])), (a1, .inl (k1, 4, .inr (.inr (.inr (.inr (fun _ => none)))))), (a2, .inl (k2, 12, .inr (.inr (.inr (.inr (fun _ => none)))))), (a5, .inr (6, [.ref b1, .ref b2, .ref b3, .ref b4, .ref b5, .ref b6, .int 0, .int 0])), (b1, .inl (k3, 12, .inl (fun _ => 0))), (b2, .inl (k4, 12, .inl (fun _ => 0))), (a6, .inr (4, [.ref p1, .ref p2, .ref p3, .ref p4, .ref p5, .int 0, .int 0, .int 0, .int 0, .int 0]))]) (va_runV (As := []) (rest := []) ⟨hx, hb, hml, hown, hts⟩ (c_X1_standing l D s.heap.size a3 ([.int 0, .ref m1, .ref m2, .ref m3, .ref m4, .ref m5, .ref m6]) rfl) (cwV 0 hts (gV (fun w h => List.mem_cons_of_mem _ h) gw_226 gw_227 gw_228 gw_65 gw_225) rfl rfl rfl (by decide +kernel) ⟨Nat.le_of_ble_eq_true rfl, Nat.le_of_ble_eq_true rfl⟩) (pw_V [3] [] hP hD hK hN rfl rfl (by decide) rfl (ci := 1) (q0 := 3) rfl rfl) rfl rfl hl.1 rfl (lv_room (Nat.le_of_ble_eq_true rfl)) dX8_count_95 ⟨Nat.le_of_ble_eq_true rfl, Nat.le_of_ble_eq_true rfl⟩) hP hD hK hS hA [3] [0, 1, 2, 4, 5, 6, 7] rfl rfl (by decide) (by decide) (fun r_2 u_1 H locs hw_3 hP hD hK hS => ?_)
    try dsimp only at hw_3
    have hP : va_P D vwCl [(h0, .inr (8, [.ref a1, .ref a2, .ref a3, .ref a4, .ref a5, .ref a6, .ref a7, .null, .int 0, .int 0, .int 0, .int 0, .int 100, .int 10, .int 0, .int 0, .int 0, .int 0, .int 0])), (a1, .inl (k1, 4, .inr (.inr (.inr (.inr (fun _ => none)))))), (a2, .inl (k2, 12, .inr (.inr (.inr (.inr (fun _ => none)))))), (a5, .inr (6, [.ref b1, .ref b2, .ref b3, .ref b4, .ref b5, .ref b6, .int 0, .int 0])), (b1, .inl (k3, 12, .inl (fun _ => 0))), (b2, .inl (k4, 12, .inl (fun _ => 0))), (a6, .inr (4, [.ref p1, .ref p2, .ref p3, .ref p4, .ref p5, .int 0, .int 0, .int 0, .int 0, .int 0])), (a3, .inr (1, [.int 0, .ref m1, .ref m2, .ref m3, .ref m4, .ref m5, .ref m6]))] H := hP
    have hD : va_D A [(h0, .inr (8, [.ref a1, .ref a2, .ref a3, .ref a4, .ref a5, .ref a6, .ref a7, .null, .int 0, .int 0, .int 0, .int 0, .int 100, .int 10, .int 0, .int 0, .int 0, .int 0, .int 0])), (a1, .inl (k1, 4, .inr (.inr (.inr (.inr (fun _ => none)))))), (a2, .inl (k2, 12, .inr (.inr (.inr (.inr (fun _ => none)))))), (a5, .inr (6, [.ref b1, .ref b2, .ref b3, .ref b4, .ref b5, .ref b6, .int 0, .int 0])), (b1, .inl (k3, 12, .inl (fun _ => 0))), (b2, .inl (k4, 12, .inl (fun _ => 0))), (a6, .inr (4, [.ref p1, .ref p2, .ref p3, .ref p4, .ref p5, .int 0, .int 0, .int 0, .int 0, .int 0])), (a3, .inr (1, [.int 0, .ref m1, .ref m2, .ref m3, .ref m4, .ref m5, .ref m6]))] := hD
    have hK : va_K D vwCl [(k1, .object RX0), (k2, .object RX3), (k3, .int), (k4, .int)] s := hK
    refine W.widen (k := 0) (n := 0) (Nat.le_of_ble_eq_true rfl) (Nat.le_of_ble_eq_true rfl) ?_
    refine tI (y := 0) hw_3 ?_
    have hP9 := hP.sub (ws' := []) [] rfl
    have hD9 := hD.sub (ws' := []) [] (by decide) rfl
    have hK9 := hK.sub (tys' := []) [] rfl
    refine W.widen (k := 0) (n := 0) (Nat.le_of_ble_eq_true rfl) (Nat.le_of_ble_eq_true rfl) ?_
    exact W.iret (v := 0) hx hb hr (fun t ht hW => ⟨⟨0, (), rfl, (by decide), by rw [ht]; exact hP9, va_K.moved hW.alike hK9, hD9⟩, hS.F ht⟩) hS.2.2 dX8_count_98
  · refine lv_tableIn (tgt := 99) hx hb dX8_count_1 (by decide) (by decide) rfl (by decide) ?_
    refine lv_aload_n hx hb dX8_count_99 rfl (lv_at hl 0 rfl) ?_
    refine va_get (D := D) (ci := 8) (v := .ref a6) (C := RX8) (T := TX8) (N := 19) hx hb hts (fun w h => List.mem_cons_of_mem _ (inG8 w h)) hown hK hP 0 rfl rfl 5 (by decide) (hts _ (List.mem_cons_of_mem _ gw_165)) (fun _ h9 => h9) rfl dX8_count_100 ?_
    refine va_get (D := D) (ci := 4) (v := .int 0) (C := RX4) (T := TX4) (N := 10) hx hb hts (fun w h => List.mem_cons_of_mem _ (inG4 w h)) hown hK hP 7 rfl rfl 5 (by decide) (hts _ (List.mem_cons_of_mem _ gw_200)) (fun _ h9 => h9) rfl dX8_count_103 ?_
    have hP9 := hP.sub (ws' := []) [] rfl
    have hD9 := hD.sub (ws' := []) [] (by decide) rfl
    have hK9 := hK.sub (tys' := []) [] rfl
    refine W.widen (k := 0) (n := 0) (Nat.le_of_ble_eq_true rfl) (Nat.le_of_ble_eq_true rfl) ?_
    exact W.iret (v := 0) hx hb hr (fun t ht hW => ⟨⟨0, (), rfl, (by decide), by rw [ht]; exact hP9, va_K.moved hW.alike hK9, hD9⟩, hS.F ht⟩) hS.2.2 dX8_count_106
  · refine lv_tableIn (tgt := 107) hx hb dX8_count_1 (by decide) (by decide) rfl (by decide) ?_
    refine lv_aload_n hx hb dX8_count_107 rfl (lv_at hl 0 rfl) ?_
    refine va_get (D := D) (ci := 8) (v := .ref a6) (C := RX8) (T := TX8) (N := 19) hx hb hts (fun w h => List.mem_cons_of_mem _ (inG8 w h)) hown hK hP 0 rfl rfl 5 (by decide) (hts _ (List.mem_cons_of_mem _ gw_165)) (fun _ h9 => h9) rfl dX8_count_108 ?_
    refine va_get (D := D) (ci := 4) (v := .int 0) (C := RX4) (T := TX4) (N := 10) hx hb hts (fun w h => List.mem_cons_of_mem _ (inG4 w h)) hown hK hP 7 rfl rfl 8 (by decide) (hts _ (List.mem_cons_of_mem _ gw_229)) (fun _ h9 => h9) rfl dX8_count_111 ?_
    have hP9 := hP.sub (ws' := []) [] rfl
    have hD9 := hD.sub (ws' := []) [] (by decide) rfl
    have hK9 := hK.sub (tys' := []) [] rfl
    refine W.widen (k := 0) (n := 0) (Nat.le_of_ble_eq_true rfl) (Nat.le_of_ble_eq_true rfl) ?_
    exact W.iret (v := 0) hx hb hr (fun t ht hW => ⟨⟨0, (), rfl, (by decide), by rw [ht]; exact hP9, va_K.moved hW.alike hK9, hD9⟩, hS.F ht⟩) hS.2.2 dX8_count_114
  · refine lv_tableIn (tgt := 115) hx hb dX8_count_1 (by decide) (by decide) rfl (by decide) ?_
    refine lv_aload_n hx hb dX8_count_115 rfl (lv_at hl 0 rfl) ?_
    refine va_get (D := D) (ci := 8) (v := .ref a6) (C := RX8) (T := TX8) (N := 19) hx hb hts (fun w h => List.mem_cons_of_mem _ (inG8 w h)) hown hK hP 0 rfl rfl 5 (by decide) (hts _ (List.mem_cons_of_mem _ gw_165)) (fun _ h9 => h9) rfl dX8_count_116 ?_
    refine va_get (D := D) (ci := 4) (v := .int 0) (C := RX4) (T := TX4) (N := 10) hx hb hts (fun w h => List.mem_cons_of_mem _ (inG4 w h)) hown hK hP 7 rfl rfl 6 (by decide) (hts _ (List.mem_cons_of_mem _ gw_230)) (fun _ h9 => h9) rfl dX8_count_119 ?_
    refine fr_i (wr := [(h0, .inr (8, [.ref a1, .ref a2, .ref a3, .ref a4, .ref a5, .ref a6, .ref a7, .null, .int 0, .int 0, .int 0, .int 0, .int 100, .int 10, .int 0, .int 0, .int 0, .int 0, .int 0])), (a1, .inl (k1, 4, .inr (.inr (.inr (.inr (fun _ => none)))))), (a2, .inl (k2, 12, .inr (.inr (.inr (.inr (fun _ => none)))))), (a3, .inr (1, [.int 0, .ref m1, .ref m2, .ref m3, .ref m4, .ref m5, .ref m6])), (a5, .inr (6, [.ref b1, .ref b2, .ref b3, .ref b4, .ref b5, .ref b6, .int 0, .int 0])), (b1, .inl (k3, 12, .inl (fun _ => 0))), (b2, .inl (k4, 12, .inl (fun _ => 0))), (a6, .inr (4, [.ref p1, .ref p2, .ref p3, .ref p4, .ref p5, .int 0, .int 0, .int 0, .int 0, .int 0]))]) (va_runS (As := [.int 0]) (rest := []) ⟨hx, hb, hml, hown, hts⟩ (c_J6_bitCount l D s.heap.size  ) (va_cwS 1 hts (gS (fun w h => List.mem_cons_of_mem _ h) gw_221 gw_222 gw_223 gw_220) rfl rfl rfl (by decide +kernel) ⟨Nat.le_of_ble_eq_true rfl, Nat.le_of_ble_eq_true rfl⟩) (pw_S [] [] hP hD hK hN rfl rfl (by decide) rfl) rfl rfl hl.1 rfl (lv_room (Nat.le_of_ble_eq_true rfl)) dX8_count_122 ⟨Nat.le_of_ble_eq_true rfl, Nat.le_of_ble_eq_true rfl⟩) hP hD hK hS hA [] [0, 1, 2, 3, 4, 5, 6, 7] rfl rfl (by decide) (by decide) (fun r_5 u_4 H locs hw_6 hP hD hK hS => ?_)
    try dsimp only at hw_6
    have hP : va_P D vwCl [(h0, .inr (8, [.ref a1, .ref a2, .ref a3, .ref a4, .ref a5, .ref a6, .ref a7, .null, .int 0, .int 0, .int 0, .int 0, .int 100, .int 10, .int 0, .int 0, .int 0, .int 0, .int 0])), (a1, .inl (k1, 4, .inr (.inr (.inr (.inr (fun _ => none)))))), (a2, .inl (k2, 12, .inr (.inr (.inr (.inr (fun _ => none)))))), (a3, .inr (1, [.int 0, .ref m1, .ref m2, .ref m3, .ref m4, .ref m5, .ref m6])), (a5, .inr (6, [.ref b1, .ref b2, .ref b3, .ref b4, .ref b5, .ref b6, .int 0, .int 0])), (b1, .inl (k3, 12, .inl (fun _ => 0))), (b2, .inl (k4, 12, .inl (fun _ => 0))), (a6, .inr (4, [.ref p1, .ref p2, .ref p3, .ref p4, .ref p5, .int 0, .int 0, .int 0, .int 0, .int 0]))] H := hP
    have hD : va_D A [(h0, .inr (8, [.ref a1, .ref a2, .ref a3, .ref a4, .ref a5, .ref a6, .ref a7, .null, .int 0, .int 0, .int 0, .int 0, .int 100, .int 10, .int 0, .int 0, .int 0, .int 0, .int 0])), (a1, .inl (k1, 4, .inr (.inr (.inr (.inr (fun _ => none)))))), (a2, .inl (k2, 12, .inr (.inr (.inr (.inr (fun _ => none)))))), (a3, .inr (1, [.int 0, .ref m1, .ref m2, .ref m3, .ref m4, .ref m5, .ref m6])), (a5, .inr (6, [.ref b1, .ref b2, .ref b3, .ref b4, .ref b5, .ref b6, .int 0, .int 0])), (b1, .inl (k3, 12, .inl (fun _ => 0))), (b2, .inl (k4, 12, .inl (fun _ => 0))), (a6, .inr (4, [.ref p1, .ref p2, .ref p3, .ref p4, .ref p5, .int 0, .int 0, .int 0, .int 0, .int 0]))] := hD
    have hK : va_K D vwCl [(k1, .object RX0), (k2, .object RX3), (k3, .int), (k4, .int)] s := hK
    refine W.widen (k := 0) (n := 0) (Nat.le_of_ble_eq_true rfl) (Nat.le_of_ble_eq_true rfl) ?_
    refine tI (y := 0) hw_6 ?_
    have hP9 := hP.sub (ws' := []) [] rfl
    have hD9 := hD.sub (ws' := []) [] (by decide) rfl
    have hK9 := hK.sub (tys' := []) [] rfl
    refine W.widen (k := 0) (n := 0) (Nat.le_of_ble_eq_true rfl) (Nat.le_of_ble_eq_true rfl) ?_
    exact W.iret (v := 0) hx hb hr (fun t ht hW => ⟨⟨0, (), rfl, (by decide), by rw [ht]; exact hP9, va_K.moved hW.alike hK9, hD9⟩, hS.F ht⟩) hS.2.2 dX8_count_125
  · refine lv_tableIn (tgt := 126) hx hb dX8_count_1 (by decide) (by decide) rfl (by decide) ?_
    refine lv_aload_n hx hb dX8_count_126 rfl (lv_at hl 0 rfl) ?_
    refine fr_i (wr := [(a1, .inl (k1, 4, .inr (.inr (.inr (.inr (fun _ => none)))))), (a2, .inl (k2, 12, .inr (.inr (.inr (.inr (fun _ => none)))))), (a3, .inr (1, [.int 0, .ref m1, .ref m2, .ref m3, .ref m4, .ref m5, .ref m6])), (a5, .inr (6, [.ref b1, .ref b2, .ref b3, .ref b4, .ref b5, .ref b6, .int 0, .int 0])), (b1, .inl (k3, 12, .inl (fun _ => 0))), (b2, .inl (k4, 12, .inl (fun _ => 0))), (a6, .inr (4, [.ref p1, .ref p2, .ref p3, .ref p4, .ref p5, .int 0, .int 0, .int 0, .int 0, .int 0]))]) (va_runV (As := []) (rest := []) ⟨hx, hb, hml, hown, hts⟩ (c_X8_waiting l D s.heap.size h0 ([.ref a1, .ref a2, .ref a3, .ref a4, .ref a5, .ref a6, .ref a7, .null, .int 0, .int 0, .int 0, .int 0, .int 100, .int 10, .int 0, .int 0, .int 0, .int 0, .int 0]) rfl) (cwV 0 hts (gV (fun w h => List.mem_cons_of_mem _ h) gw_232 gw_233 gw_234 gw_135 gw_231) rfl rfl rfl (by decide +kernel) ⟨Nat.le_of_ble_eq_true rfl, Nat.le_of_ble_eq_true rfl⟩) (pw_V [0] [] hP hD hK hN rfl rfl (by decide) rfl (ci := 8) (q0 := 0) rfl rfl) rfl rfl hl.1 rfl (lv_room (Nat.le_of_ble_eq_true rfl)) dX8_count_127 ⟨Nat.le_of_ble_eq_true rfl, Nat.le_of_ble_eq_true rfl⟩) hP hD hK hS hA [0] [1, 2, 3, 4, 5, 6, 7] rfl rfl (by decide) (by decide) (fun r_8 u_7 H locs hw_9 hP hD hK hS => ?_)
    try dsimp only at hw_9
    have hP : va_P D vwCl [(a1, .inl (k1, 4, .inr (.inr (.inr (.inr (fun _ => none)))))), (a2, .inl (k2, 12, .inr (.inr (.inr (.inr (fun _ => none)))))), (a3, .inr (1, [.int 0, .ref m1, .ref m2, .ref m3, .ref m4, .ref m5, .ref m6])), (a5, .inr (6, [.ref b1, .ref b2, .ref b3, .ref b4, .ref b5, .ref b6, .int 0, .int 0])), (b1, .inl (k3, 12, .inl (fun _ => 0))), (b2, .inl (k4, 12, .inl (fun _ => 0))), (a6, .inr (4, [.ref p1, .ref p2, .ref p3, .ref p4, .ref p5, .int 0, .int 0, .int 0, .int 0, .int 0])), (h0, .inr (8, [.ref a1, .ref a2, .ref a3, .ref a4, .ref a5, .ref a6, .ref a7, .null, .int 0, .int 0, .int 0, .int 0, .int 100, .int 10, .int 0, .int 0, .int 0, .int 0, .int 0]))] H := hP
    have hD : va_D A [(a1, .inl (k1, 4, .inr (.inr (.inr (.inr (fun _ => none)))))), (a2, .inl (k2, 12, .inr (.inr (.inr (.inr (fun _ => none)))))), (a3, .inr (1, [.int 0, .ref m1, .ref m2, .ref m3, .ref m4, .ref m5, .ref m6])), (a5, .inr (6, [.ref b1, .ref b2, .ref b3, .ref b4, .ref b5, .ref b6, .int 0, .int 0])), (b1, .inl (k3, 12, .inl (fun _ => 0))), (b2, .inl (k4, 12, .inl (fun _ => 0))), (a6, .inr (4, [.ref p1, .ref p2, .ref p3, .ref p4, .ref p5, .int 0, .int 0, .int 0, .int 0, .int 0])), (h0, .inr (8, [.ref a1, .ref a2, .ref a3, .ref a4, .ref a5, .ref a6, .ref a7, .null, .int 0, .int 0, .int 0, .int 0, .int 100, .int 10, .int 0, .int 0, .int 0, .int 0, .int 0]))] := hD
    have hK : va_K D vwCl [(k1, .object RX0), (k2, .object RX3), (k3, .int), (k4, .int)] s := hK
    refine W.widen (k := 0) (n := 0) (Nat.le_of_ble_eq_true rfl) (Nat.le_of_ble_eq_true rfl) ?_
    refine tI (y := 0) hw_9 ?_
    have hP9 := hP.sub (ws' := []) [] rfl
    have hD9 := hD.sub (ws' := []) [] (by decide) rfl
    have hK9 := hK.sub (tys' := []) [] rfl
    refine W.widen (k := 0) (n := 0) (Nat.le_of_ble_eq_true rfl) (Nat.le_of_ble_eq_true rfl) ?_
    exact W.iret (v := 0) hx hb hr (fun t ht hW => ⟨⟨0, (), rfl, (by decide), by rw [ht]; exact hP9, va_K.moved hW.alike hK9, hD9⟩, hS.F ht⟩) hS.2.2 dX8_count_130
  · refine lv_tableIn (tgt := 131) hx hb dX8_count_1 (by decide) (by decide) rfl (by decide) ?_
    refine lv_aload_n hx hb dX8_count_131 rfl (lv_at hl 0 rfl) ?_
    refine va_get (D := D) (ci := 8) (v := .int 0) (C := RX8) (T := TX8) (N := 19) hx hb hts (fun w h => List.mem_cons_of_mem _ (inG8 w h)) hown hK hP 0 rfl rfl 15 (by decide) (hts _ (List.mem_cons_of_mem _ gw_171)) (fun _ h9 => h9) rfl dX8_count_132 ?_
    have hP9 := hP.sub (ws' := []) [] rfl
    have hD9 := hD.sub (ws' := []) [] (by decide) rfl
    have hK9 := hK.sub (tys' := []) [] rfl
    refine W.widen (k := 0) (n := 0) (Nat.le_of_ble_eq_true rfl) (Nat.le_of_ble_eq_true rfl) ?_
    exact W.iret (v := 0) hx hb hr (fun t ht hW => ⟨⟨0, (), rfl, (by decide), by rw [ht]; exact hP9, va_K.moved hW.alike hK9, hD9⟩, hS.F ht⟩) hS.2.2 dX8_count_135
  · refine lv_tableIn (tgt := 136) hx hb dX8_count_1 (by decide) (by decide) rfl (by decide) ?_
    refine lv_aload_n hx hb dX8_count_136 rfl (lv_at hl 0 rfl) ?_
    refine va_get (D := D) (ci := 8) (v := .int 0) (C := RX8) (T := TX8) (N := 19) hx hb hts (fun w h => List.mem_cons_of_mem _ (inG8 w h)) hown hK hP 0 rfl rfl 16 (by decide) (hts _ (List.mem_cons_of_mem _ gw_172)) (fun _ h9 => h9) rfl dX8_count_137 ?_
    have hP9 := hP.sub (ws' := []) [] rfl
    have hD9 := hD.sub (ws' := []) [] (by decide) rfl
    have hK9 := hK.sub (tys' := []) [] rfl
    refine W.widen (k := 0) (n := 0) (Nat.le_of_ble_eq_true rfl) (Nat.le_of_ble_eq_true rfl) ?_
    exact W.iret (v := 0) hx hb hr (fun t ht hW => ⟨⟨0, (), rfl, (by decide), by rw [ht]; exact hP9, va_K.moved hW.alike hK9, hD9⟩, hS.F ht⟩) hS.2.2 dX8_count_140
  · refine lv_tableIn (tgt := 141) hx hb dX8_count_1 (by decide) (by decide) rfl (by decide) ?_
    refine lv_aload_n hx hb dX8_count_141 rfl (lv_at hl 0 rfl) ?_
    refine va_get (D := D) (ci := 8) (v := .int 0) (C := RX8) (T := TX8) (N := 19) hx hb hts (fun w h => List.mem_cons_of_mem _ (inG8 w h)) hown hK hP 0 rfl rfl 17 (by decide) (hts _ (List.mem_cons_of_mem _ gw_173)) (fun _ h9 => h9) rfl dX8_count_142 ?_
    have hP9 := hP.sub (ws' := []) [] rfl
    have hD9 := hD.sub (ws' := []) [] (by decide) rfl
    have hK9 := hK.sub (tys' := []) [] rfl
    refine W.widen (k := 0) (n := 0) (Nat.le_of_ble_eq_true rfl) (Nat.le_of_ble_eq_true rfl) ?_
    exact W.iret (v := 0) hx hb hr (fun t ht hW => ⟨⟨0, (), rfl, (by decide), by rw [ht]; exact hP9, va_K.moved hW.alike hK9, hD9⟩, hS.F ht⟩) hS.2.2 dX8_count_145
  · refine lv_tableIn (tgt := 146) hx hb dX8_count_1 (by decide) (by decide) rfl (by decide) ?_
    refine lv_aload_n hx hb dX8_count_146 rfl (lv_at hl 0 rfl) ?_
    refine va_get (D := D) (ci := 8) (v := .int 0) (C := RX8) (T := TX8) (N := 19) hx hb hts (fun w h => List.mem_cons_of_mem _ (inG8 w h)) hown hK hP 0 rfl rfl 18 (by decide) (hts _ (List.mem_cons_of_mem _ gw_174)) (fun _ h9 => h9) rfl dX8_count_147 ?_
    have hP9 := hP.sub (ws' := []) [] rfl
    have hD9 := hD.sub (ws' := []) [] (by decide) rfl
    have hK9 := hK.sub (tys' := []) [] rfl
    refine W.widen (k := 0) (n := 0) (Nat.le_of_ble_eq_true rfl) (Nat.le_of_ble_eq_true rfl) ?_
    exact W.iret (v := 0) hx hb hr (fun t ht hW => ⟨⟨0, (), rfl, (by decide), by rw [ht]; exact hP9, va_K.moved hW.alike hK9, hD9⟩, hS.F ht⟩) hS.2.2 dX8_count_150
