theorem dX1_setFirstBounds_0 : decode cX1_setFirstBounds 0 = .ok (.iconst 0, 1) := by decide +kernel
theorem dX1_setFirstBounds_1 : decode cX1_setFirstBounds 1 = .ok (.istore_n 1, 1) := by decide +kernel
theorem dX1_setFirstBounds_2 : decode cX1_setFirstBounds 2 = .ok (.iload_n 1, 1) := by decide +kernel
theorem dX1_setFirstBounds_3 : decode cX1_setFirstBounds 3 = .ok (.bipush 24, 2) := by decide +kernel
theorem dX1_setFirstBounds_5 : decode cX1_setFirstBounds 5 = .ok (.if_icmp .ge 60, 3) := by decide +kernel
theorem dX1_setFirstBounds_65 : decode cX1_setFirstBounds 65 = .ok (.return_, 1) := by decide +kernel
theorem dX1_setFirstBounds_8 : decode cX1_setFirstBounds 8 = .ok (.iconst 0, 1) := by decide +kernel
theorem dX1_setFirstBounds_9 : decode cX1_setFirstBounds 9 = .ok (.istore_n 2, 1) := by decide +kernel
theorem dX1_setFirstBounds_10 : decode cX1_setFirstBounds 10 = .ok (.iload_n 2, 1) := by decide +kernel
theorem dX1_setFirstBounds_11 : decode cX1_setFirstBounds 11 = .ok (.iconst 4, 1) := by decide +kernel
theorem dX1_setFirstBounds_12 : decode cX1_setFirstBounds 12 = .ok (.if_icmp .ge 47, 3) := by decide +kernel
theorem dX1_setFirstBounds_59 : decode cX1_setFirstBounds 59 = .ok (.iinc 1 1, 3) := by decide +kernel
theorem dX1_setFirstBounds_62 : decode cX1_setFirstBounds 62 = .ok (.goto (-60), 3) := by decide +kernel
theorem dX1_setFirstBounds_15 : decode cX1_setFirstBounds 15 = .ok (.iload_n 1, 1) := by decide +kernel
theorem dX1_setFirstBounds_16 : decode cX1_setFirstBounds 16 = .ok (.iconst 4, 1) := by decide +kernel
theorem dX1_setFirstBounds_17 : decode cX1_setFirstBounds 17 = .ok (.imul, 1) := by decide +kernel
theorem dX1_setFirstBounds_18 : decode cX1_setFirstBounds 18 = .ok (.iload_n 2, 1) := by decide +kernel
theorem dX1_setFirstBounds_19 : decode cX1_setFirstBounds 19 = .ok (.iadd, 1) := by decide +kernel
theorem dX1_setFirstBounds_20 : decode cX1_setFirstBounds 20 = .ok (.istore_n 3, 1) := by decide +kernel
theorem dX1_setFirstBounds_21 : decode cX1_setFirstBounds 21 = .ok (.iload_n 2, 1) := by decide +kernel
theorem dX1_setFirstBounds_22 : decode cX1_setFirstBounds 22 = .ok (.ifCond .ne 7, 3) := by decide +kernel
theorem dX1_setFirstBounds_29 : decode cX1_setFirstBounds 29 = .ok (.iconst 3, 1) := by decide +kernel
theorem dX1_setFirstBounds_30 : decode cX1_setFirstBounds 30 = .ok (.istore 4, 2) := by decide +kernel
theorem dX1_setFirstBounds_32 : decode cX1_setFirstBounds 32 = .ok (.aload_n 0, 1) := by decide +kernel
theorem dX1_setFirstBounds_33 : decode cX1_setFirstBounds 33 = .ok (.getfield 21, 3) := by decide +kernel
theorem dX1_setFirstBounds_36 : decode cX1_setFirstBounds 36 = .ok (.iload_n 3, 1) := by decide +kernel
theorem dX1_setFirstBounds_37 : decode cX1_setFirstBounds 37 = .ok (.iconst 1, 1) := by decide +kernel
theorem dX1_setFirstBounds_38 : decode cX1_setFirstBounds 38 = .ok (.iload 4, 2) := by decide +kernel
theorem dX1_setFirstBounds_40 : decode cX1_setFirstBounds 40 = .ok (.isub, 1) := by decide +kernel
theorem dX1_setFirstBounds_41 : decode cX1_setFirstBounds 41 = .ok (.iastore, 1) := by decide +kernel
theorem dX1_setFirstBounds_42 : decode cX1_setFirstBounds 42 = .ok (.aload_n 0, 1) := by decide +kernel
theorem dX1_setFirstBounds_43 : decode cX1_setFirstBounds 43 = .ok (.getfield 25, 3) := by decide +kernel
theorem dX1_setFirstBounds_46 : decode cX1_setFirstBounds 46 = .ok (.iload_n 3, 1) := by decide +kernel
theorem dX1_setFirstBounds_47 : decode cX1_setFirstBounds 47 = .ok (.bipush 30, 2) := by decide +kernel
theorem dX1_setFirstBounds_49 : decode cX1_setFirstBounds 49 = .ok (.iload 4, 2) := by decide +kernel
theorem dX1_setFirstBounds_51 : decode cX1_setFirstBounds 51 = .ok (.iadd, 1) := by decide +kernel
theorem dX1_setFirstBounds_52 : decode cX1_setFirstBounds 52 = .ok (.iastore, 1) := by decide +kernel
theorem dX1_setFirstBounds_53 : decode cX1_setFirstBounds 53 = .ok (.iinc 2 1, 3) := by decide +kernel
theorem dX1_setFirstBounds_56 : decode cX1_setFirstBounds 56 = .ok (.goto (-46), 3) := by decide +kernel
theorem dX1_setFirstBounds_25 : decode cX1_setFirstBounds 25 = .ok (.iconst 0, 1) := by decide +kernel
theorem dX1_setFirstBounds_26 : decode cX1_setFirstBounds 26 = .ok (.goto 4, 3) := by decide +kernel
theorem dX1_directGap_0 : decode cX1_directGap 0 = .ok (.iload_n 1, 1) := by decide +kernel
theorem dX1_directGap_1 : decode cX1_directGap 1 = .ok (.iload_n 2, 1) := by decide +kernel
theorem dX1_directGap_2 : decode cX1_directGap 2 = .ok (.if_icmp .ne 7, 3) := by decide +kernel
theorem dX1_directGap_9 : decode cX1_directGap 9 = .ok (.iload_n 1, 1) := by decide +kernel
theorem dX1_directGap_10 : decode cX1_directGap 10 = .ok (.ifCond .eq 7, 3) := by decide +kernel
theorem dX1_directGap_17 : decode cX1_directGap 17 = .ok (.iconst 3, 1) := by decide +kernel
theorem dX1_directGap_18 : decode cX1_directGap 18 = .ok (.goto 5, 3) := by decide +kernel
theorem dX1_directGap_23 : decode cX1_directGap 23 = .ok (.istore_n 3, 1) := by decide +kernel
theorem dX1_directGap_24 : decode cX1_directGap 24 = .ok (.iconst 0, 1) := by decide +kernel
theorem dX1_directGap_25 : decode cX1_directGap 25 = .ok (.istore 4, 2) := by decide +kernel
theorem dX1_directGap_27 : decode cX1_directGap 27 = .ok (.iload 4, 2) := by decide +kernel
theorem dX1_directGap_29 : decode cX1_directGap 29 = .ok (.bipush 24, 2) := by decide +kernel
theorem dX1_directGap_31 : decode cX1_directGap 31 = .ok (.if_icmp .ge 37, 3) := by decide +kernel
theorem dX1_directGap_68 : decode cX1_directGap 68 = .ok (.iload_n 3, 1) := by decide +kernel
theorem dX1_directGap_69 : decode cX1_directGap 69 = .ok (.ireturn, 1) := by decide +kernel
theorem dX1_directGap_34 : decode cX1_directGap 34 = .ok (.iload_n 3, 1) := by decide +kernel
theorem dX1_directGap_35 : decode cX1_directGap 35 = .ok (.aload_n 0, 1) := by decide +kernel
theorem dX1_directGap_36 : decode cX1_directGap 36 = .ok (.getfield 25, 3) := by decide +kernel
theorem dX1_directGap_39 : decode cX1_directGap 39 = .ok (.iload 4, 2) := by decide +kernel
theorem dX1_directGap_41 : decode cX1_directGap 41 = .ok (.iconst 4, 1) := by decide +kernel
theorem dX1_directGap_42 : decode cX1_directGap 42 = .ok (.imul, 1) := by decide +kernel
theorem dX1_directGap_43 : decode cX1_directGap 43 = .ok (.iload_n 2, 1) := by decide +kernel
theorem dX1_directGap_44 : decode cX1_directGap 44 = .ok (.iadd, 1) := by decide +kernel
theorem dX1_directGap_45 : decode cX1_directGap 45 = .ok (.iaload, 1) := by decide +kernel
theorem dX1_directGap_46 : decode cX1_directGap 46 = .ok (.aload_n 0, 1) := by decide +kernel
theorem dX1_directGap_47 : decode cX1_directGap 47 = .ok (.getfield 21, 3) := by decide +kernel
theorem dX1_directGap_50 : decode cX1_directGap 50 = .ok (.iload 4, 2) := by decide +kernel
theorem dX1_directGap_52 : decode cX1_directGap 52 = .ok (.iconst 4, 1) := by decide +kernel
theorem dX1_directGap_53 : decode cX1_directGap 53 = .ok (.imul, 1) := by decide +kernel
theorem dX1_directGap_54 : decode cX1_directGap 54 = .ok (.iload_n 1, 1) := by decide +kernel
theorem dX1_directGap_55 : decode cX1_directGap 55 = .ok (.iadd, 1) := by decide +kernel
theorem dX1_directGap_56 : decode cX1_directGap 56 = .ok (.iaload, 1) := by decide +kernel
theorem dX1_directGap_57 : decode cX1_directGap 57 = .ok (.isub, 1) := by decide +kernel
theorem dX1_directGap_58 : decode cX1_directGap 58 = .ok (.invokestatic 55, 3) := by decide +kernel
theorem dX1_directGap_61 : decode cX1_directGap 61 = .ok (.istore_n 3, 1) := by decide +kernel
theorem dX1_directGap_62 : decode cX1_directGap 62 = .ok (.iinc 4 1, 3) := by decide +kernel
theorem dX1_directGap_65 : decode cX1_directGap 65 = .ok (.goto (-38), 3) := by decide +kernel
theorem dX1_directGap_13 : decode cX1_directGap 13 = .ok (.iload_n 2, 1) := by decide +kernel
theorem dX1_directGap_14 : decode cX1_directGap 14 = .ok (.ifCond .ne 7, 3) := by decide +kernel
theorem dX1_directGap_21 : decode cX1_directGap 21 = .ok (.bipush 6, 2) := by decide +kernel
theorem dX1_directGap_5 : decode cX1_directGap 5 = .ok (.iconst 0, 1) := by decide +kernel
theorem dX1_directGap_6 : decode cX1_directGap 6 = .ok (.goto 17, 3) := by decide +kernel
theorem dX1_closeGaps_0 : decode cX1_closeGaps 0 = .ok (.iconst 0, 1) := by decide +kernel
theorem dX1_closeGaps_1 : decode cX1_closeGaps 1 = .ok (.istore_n 1, 1) := by decide +kernel
theorem dX1_closeGaps_2 : decode cX1_closeGaps 2 = .ok (.iload_n 1, 1) := by decide +kernel
theorem dX1_closeGaps_3 : decode cX1_closeGaps 3 = .ok (.iconst 4, 1) := by decide +kernel
theorem dX1_closeGaps_4 : decode cX1_closeGaps 4 = .ok (.if_icmp .ge 38, 3) := by decide +kernel
theorem dX1_closeGaps_42 : decode cX1_closeGaps 42 = .ok (.iconst 0, 1) := by decide +kernel
theorem dX1_closeGaps_43 : decode cX1_closeGaps 43 = .ok (.istore_n 1, 1) := by decide +kernel
theorem dX1_closeGaps_44 : decode cX1_closeGaps 44 = .ok (.iload_n 1, 1) := by decide +kernel
theorem dX1_closeGaps_45 : decode cX1_closeGaps 45 = .ok (.iconst 4, 1) := by decide +kernel
theorem dX1_closeGaps_46 : decode cX1_closeGaps 46 = .ok (.if_icmp .ge 80, 3) := by decide +kernel
theorem dX1_closeGaps_126 : decode cX1_closeGaps 126 = .ok (.return_, 1) := by decide +kernel
theorem dX1_closeGaps_49 : decode cX1_closeGaps 49 = .ok (.iconst 0, 1) := by decide +kernel
theorem dX1_closeGaps_50 : decode cX1_closeGaps 50 = .ok (.istore_n 2, 1) := by decide +kernel
theorem dX1_closeGaps_51 : decode cX1_closeGaps 51 = .ok (.iload_n 2, 1) := by decide +kernel
theorem dX1_closeGaps_52 : decode cX1_closeGaps 52 = .ok (.iconst 4, 1) := by decide +kernel
theorem dX1_closeGaps_53 : decode cX1_closeGaps 53 = .ok (.if_icmp .ge 67, 3) := by decide +kernel
theorem dX1_closeGaps_120 : decode cX1_closeGaps 120 = .ok (.iinc 1 1, 3) := by decide +kernel
theorem dX1_closeGaps_123 : decode cX1_closeGaps 123 = .ok (.goto (-79), 3) := by decide +kernel
theorem dX1_closeGaps_56 : decode cX1_closeGaps 56 = .ok (.iconst 0, 1) := by decide +kernel
theorem dX1_closeGaps_57 : decode cX1_closeGaps 57 = .ok (.istore_n 3, 1) := by decide +kernel
theorem dX1_closeGaps_58 : decode cX1_closeGaps 58 = .ok (.iload_n 3, 1) := by decide +kernel
theorem dX1_closeGaps_59 : decode cX1_closeGaps 59 = .ok (.iconst 4, 1) := by decide +kernel
theorem dX1_closeGaps_60 : decode cX1_closeGaps 60 = .ok (.if_icmp .ge 54, 3) := by decide +kernel
theorem dX1_closeGaps_114 : decode cX1_closeGaps 114 = .ok (.iinc 2 1, 3) := by decide +kernel
theorem dX1_closeGaps_117 : decode cX1_closeGaps 117 = .ok (.goto (-66), 3) := by decide +kernel
theorem dX1_closeGaps_63 : decode cX1_closeGaps 63 = .ok (.iload_n 2, 1) := by decide +kernel
theorem dX1_closeGaps_64 : decode cX1_closeGaps 64 = .ok (.iconst 4, 1) := by decide +kernel
theorem dX1_closeGaps_65 : decode cX1_closeGaps 65 = .ok (.imul, 1) := by decide +kernel
theorem dX1_closeGaps_66 : decode cX1_closeGaps 66 = .ok (.iload_n 3, 1) := by decide +kernel
theorem dX1_closeGaps_67 : decode cX1_closeGaps 67 = .ok (.iadd, 1) := by decide +kernel
theorem dX1_closeGaps_68 : decode cX1_closeGaps 68 = .ok (.istore 4, 2) := by decide +kernel
theorem dX1_closeGaps_70 : decode cX1_closeGaps 70 = .ok (.aload_n 0, 1) := by decide +kernel
theorem dX1_closeGaps_71 : decode cX1_closeGaps 71 = .ok (.getfield 34, 3) := by decide +kernel
theorem dX1_closeGaps_74 : decode cX1_closeGaps 74 = .ok (.iload 4, 2) := by decide +kernel
theorem dX1_closeGaps_76 : decode cX1_closeGaps 76 = .ok (.aload_n 0, 1) := by decide +kernel
theorem dX1_closeGaps_77 : decode cX1_closeGaps 77 = .ok (.getfield 34, 3) := by decide +kernel
theorem dX1_closeGaps_80 : decode cX1_closeGaps 80 = .ok (.iload 4, 2) := by decide +kernel
theorem dX1_closeGaps_82 : decode cX1_closeGaps 82 = .ok (.iaload, 1) := by decide +kernel
theorem dX1_closeGaps_83 : decode cX1_closeGaps 83 = .ok (.aload_n 0, 1) := by decide +kernel
theorem dX1_closeGaps_84 : decode cX1_closeGaps 84 = .ok (.getfield 34, 3) := by decide +kernel
theorem dX1_closeGaps_87 : decode cX1_closeGaps 87 = .ok (.iload_n 2, 1) := by decide +kernel
theorem dX1_closeGaps_88 : decode cX1_closeGaps 88 = .ok (.iconst 4, 1) := by decide +kernel
theorem dX1_closeGaps_89 : decode cX1_closeGaps 89 = .ok (.imul, 1) := by decide +kernel
theorem dX1_closeGaps_90 : decode cX1_closeGaps 90 = .ok (.iload_n 1, 1) := by decide +kernel
theorem dX1_closeGaps_91 : decode cX1_closeGaps 91 = .ok (.iadd, 1) := by decide +kernel
theorem dX1_closeGaps_92 : decode cX1_closeGaps 92 = .ok (.iaload, 1) := by decide +kernel
theorem dX1_closeGaps_93 : decode cX1_closeGaps 93 = .ok (.aload_n 0, 1) := by decide +kernel
theorem dX1_closeGaps_94 : decode cX1_closeGaps 94 = .ok (.getfield 34, 3) := by decide +kernel
theorem dX1_closeGaps_97 : decode cX1_closeGaps 97 = .ok (.iload_n 1, 1) := by decide +kernel
theorem dX1_closeGaps_98 : decode cX1_closeGaps 98 = .ok (.iconst 4, 1) := by decide +kernel
theorem dX1_closeGaps_99 : decode cX1_closeGaps 99 = .ok (.imul, 1) := by decide +kernel
theorem dX1_closeGaps_100 : decode cX1_closeGaps 100 = .ok (.iload_n 3, 1) := by decide +kernel
theorem dX1_closeGaps_101 : decode cX1_closeGaps 101 = .ok (.iadd, 1) := by decide +kernel
theorem dX1_closeGaps_102 : decode cX1_closeGaps 102 = .ok (.iaload, 1) := by decide +kernel
theorem dX1_closeGaps_103 : decode cX1_closeGaps 103 = .ok (.iadd, 1) := by decide +kernel
theorem dX1_closeGaps_104 : decode cX1_closeGaps 104 = .ok (.invokestatic 55, 3) := by decide +kernel
theorem dX1_closeGaps_107 : decode cX1_closeGaps 107 = .ok (.iastore, 1) := by decide +kernel
theorem dX1_closeGaps_108 : decode cX1_closeGaps 108 = .ok (.iinc 3 1, 3) := by decide +kernel
theorem dX1_closeGaps_111 : decode cX1_closeGaps 111 = .ok (.goto (-53), 3) := by decide +kernel
theorem dX1_closeGaps_7 : decode cX1_closeGaps 7 = .ok (.iconst 0, 1) := by decide +kernel
theorem dX1_closeGaps_8 : decode cX1_closeGaps 8 = .ok (.istore_n 2, 1) := by decide +kernel
theorem dX1_closeGaps_9 : decode cX1_closeGaps 9 = .ok (.iload_n 2, 1) := by decide +kernel
theorem dX1_closeGaps_10 : decode cX1_closeGaps 10 = .ok (.iconst 4, 1) := by decide +kernel
theorem dX1_closeGaps_11 : decode cX1_closeGaps 11 = .ok (.if_icmp .ge 25, 3) := by decide +kernel
theorem dX1_closeGaps_36 : decode cX1_closeGaps 36 = .ok (.iinc 1 1, 3) := by decide +kernel
theorem dX1_closeGaps_39 : decode cX1_closeGaps 39 = .ok (.goto (-37), 3) := by decide +kernel
theorem dX1_closeGaps_14 : decode cX1_closeGaps 14 = .ok (.aload_n 0, 1) := by decide +kernel
theorem dX1_closeGaps_15 : decode cX1_closeGaps 15 = .ok (.getfield 34, 3) := by decide +kernel
theorem dX1_closeGaps_18 : decode cX1_closeGaps 18 = .ok (.iload_n 1, 1) := by decide +kernel
theorem dX1_closeGaps_19 : decode cX1_closeGaps 19 = .ok (.iconst 4, 1) := by decide +kernel
theorem dX1_closeGaps_20 : decode cX1_closeGaps 20 = .ok (.imul, 1) := by decide +kernel
theorem dX1_closeGaps_21 : decode cX1_closeGaps 21 = .ok (.iload_n 2, 1) := by decide +kernel
theorem dX1_closeGaps_22 : decode cX1_closeGaps 22 = .ok (.iadd, 1) := by decide +kernel
theorem dX1_closeGaps_23 : decode cX1_closeGaps 23 = .ok (.aload_n 0, 1) := by decide +kernel
theorem dX1_closeGaps_24 : decode cX1_closeGaps 24 = .ok (.iload_n 1, 1) := by decide +kernel
theorem dX1_closeGaps_25 : decode cX1_closeGaps 25 = .ok (.iload_n 2, 1) := by decide +kernel
theorem dX1_closeGaps_26 : decode cX1_closeGaps 26 = .ok (.invokevirtual 97, 3) := by decide +kernel
theorem dX1_closeGaps_29 : decode cX1_closeGaps 29 = .ok (.iastore, 1) := by decide +kernel
theorem dX1_closeGaps_30 : decode cX1_closeGaps 30 = .ok (.iinc 2 1, 3) := by decide +kernel
theorem dX1_closeGaps_33 : decode cX1_closeGaps 33 = .ok (.goto (-24), 3) := by decide +kernel
set_option maxHeartbeats 4000000 in
set_option maxRecDepth 100000 in
theorem c_X1_setFirstBounds (l : Launch) (D : va_G) (sz : Nat) (h0 : Nat) (fs : List Value) (ql : Nat) (qh : Nat) (kl : ClassId) (kh : ClassId) (fl : Nat → Int32) (fh : Nat → Int32) (hf2 : fs[2]? = some (.ref ql)) (hf3 : fs[3]? = some (.ref qh)) : Met l yX1_setFirstBounds (.code yX1_setFirstBounds cX1_setFirstBounds 5 none :: G) ({ frames := 2, cells := 0, slots := 0, locals := 40 }) (va_Pc [.ref h0] (pw D sz [(h0, .inr (1, fs)), (ql, .inl (kl, 96, .inl fl)), (qh, .inl (kh, 96, .inl fh))] [(kl, .int), (kh, .int)])) (va_Qv (fun (u : (Nat → Int32) × (Nat → Int32)) => True) (fun (u : (Nat → Int32) × (Nat → Int32)) => qw D (va_A [(h0, .inr (1, fs)), (ql, .inl (kl, 96, .inl fl)), (qh, .inl (kh, 96, .inl fh))] sz) [(h0, .inr (1, fs)), (ql, .inl (kl, 96, .inl u.1)), (qh, .inl (kh, 96, .inl u.2))] []) (va_A [(h0, .inr (1, fs)), (ql, .inl (kl, 96, .inl fl)), (qh, .inl (kh, 96, .inl fh))] sz)) 0 0 (va_A [(h0, .inr (1, fs)), (ql, .inl (kl, 96, .inl fl)), (qh, .inl (kh, 96, .inl fh))] sz) := by
  refine Met.ofW (cc := cX1_setFirstBounds) (maxL := 5) (ret := none) (by decide) rfl ?_
  intro p e s m args below meth c s₁ B hml hv
  obtain ⟨rfl, hsz, hP, hK, hD0, hN⟩ := hv
  have hx := B.exec
  have hb := B.bytes
  have hr := B.returns
  have hts := atoms_spec (ws := (.code yX1_setFirstBounds cX1_setFirstBounds 5 none :: G)) B.pre
  have hown : s.vm.findClass RX1 = some m.cls := findClass_of_methodNamed B.named
  have hlocks := B.notSynchronized
  subst hsz
  have hD := hD0.self (sz := s.heap.size)
  generalize hAe : va_A [(h0, .inr (1, fs)), (ql, .inl (kl, 96, .inl fl)), (qh, .inl (kh, 96, .inl fh))] s.heap.size = A at hD ⊢
  have hA : ∀ q : Nat, s.heap.size ≤ q → A q := fun q h => by rw [← hAe]; exact Or.inr h
  have hS : va_S A s.heap s.heap [] := va_S.rf
  have hP : va_P D vwCl [(h0, .inr (1, fs)), (ql, .inl (kl, 96, .inl fl)), (qh, .inl (kh, 96, .inl fh))] s.heap := hP
  have hl := lv_entry ([.ref h0]) (n := 5) (Nat.le_of_ble_eq_true rfl)
  rw [lg_entry_eq]
  generalize (lg_sl ([.ref h0]) ++ List.replicate (5 - (lg_sl ([.ref h0])).length) Slot.unset).toArray = ls at hl ⊢
  have hl : lv_has ls 5 [(0, .ref h0)] := hl
  refine lv_iconst (v := 0) hx hb dX1_setFirstBounds_0 (by decide) ?_
  refine lv_istore_n (lv' := [(1, .int 0), (0, .ref h0)]) hx hb dX1_setFirstBounds_1 rfl hl (by decide) rfl (fun ls hl => ?_)
  have lp2 : ∀ (n i1 : Nat) (f_1 : Nat → Int32) (f_2 : Nat → Int32) (H : Heap) (locs : List Loc) (ls : Array Slot), i1 ≤ 24 → 24 < i1 + n → va_P D vwCl [(h0, .inr (1, fs)), (ql, .inl (kl, 96, .inl f_1)), (qh, .inl (kh, 96, .inl f_2))] H → va_D A [(h0, .inr (1, fs)), (ql, .inl (kl, 96, .inl f_1)), (qh, .inl (kh, 96, .inl f_2))] → va_S A s.heap H locs → lv_has ls 5 [(1, .int (nI i1)), (0, .ref h0)] → W p l e ({ frames := 2, cells := 0, slots := 0, locals := 40 } : Room) s m (([.ref h0] : List Value).toArray) below meth c H locs 0 0 (MQ below (va_Qv (fun (u : (Nat → Int32) × (Nat → Int32)) => True) (fun (u : (Nat → Int32) × (Nat → Int32)) => qw D A [(h0, .inr (1, fs)), (ql, .inl (kl, 96, .inl u.1)), (qh, .inl (kh, 96, .inl u.2))] []) A) (([.ref h0] : List Value).toArray) s 0 0 A) (F0 m 2 ls []) := by
    intro n
    induction n with
    | zero => intro i1 f_1 f_2 H locs ls hi hn; exact absurd hn (by omega)
    | succ n ih2 =>
      intro i1 f_1 f_2 H locs ls hi_3 hn_4 hP hD hS hl
      refine lv_iload_n hx hb dX1_setFirstBounds_2 rfl (lv_at hl 0 rfl) ?_
      refine lv_bipush (v := 24) hx hb dX1_setFirstBounds_3 (by decide) ?_
      refine lv_icmp_ge (tgt := 65) hx hb dX1_setFirstBounds_5 (by decide) (fun c_6 => ?_) (fun c_6 => ?_)
      · skip
        have hc_6 := ge_of (i := i1) 24 c_6 rfl (by omega) (by omega)
        have hP9 := hP.sub (ws' := [(h0, .inr (1, fs)), (ql, .inl (kl, 96, .inl f_1)), (qh, .inl (kh, 96, .inl f_2))]) [0, 1, 2] rfl
        have hD9 := hD.sub (ws' := [(h0, .inr (1, fs)), (ql, .inl (kl, 96, .inl f_1)), (qh, .inl (kh, 96, .inl f_2))]) [0, 1, 2] (by decide) rfl
        have hK9 := hK.sub (tys' := []) [] rfl
        refine W.widen (k := 0) (n := 0) (Nat.le_of_ble_eq_true rfl) (Nat.le_of_ble_eq_true rfl) ?_
        exact W.vret hx hb hr (fun t ht hW => ⟨⟨(f_1, f_2), rfl, (by first | trivial | rfl), by rw [ht]; exact hP9, va_K.moved hW.alike hK9, hD9⟩, hS.F ht⟩) hS.2.2 dX1_setFirstBounds_65
      · skip
        have hc_6 := lt_of (i := i1) 24 c_6 rfl (by omega)
        refine lv_iconst (v := 0) hx hb dX1_setFirstBounds_8 (by decide) ?_
        refine lv_istore_n (lv' := [(2, .int 0), (1, .int (nI i1)), (0, .ref h0)]) hx hb dX1_setFirstBounds_9 rfl hl (by decide) rfl (fun ls hl => ?_)
        have lp10 : ∀ (n i2 : Nat) (f_7 : Nat → Int32) (f_8 : Nat → Int32) (H : Heap) (locs : List Loc) (ls : Array Slot), i2 ≤ 4 → 4 < i2 + n → va_P D vwCl [(h0, .inr (1, fs)), (ql, .inl (kl, 96, .inl f_7)), (qh, .inl (kh, 96, .inl f_8))] H → va_D A [(h0, .inr (1, fs)), (ql, .inl (kl, 96, .inl f_7)), (qh, .inl (kh, 96, .inl f_8))] → va_S A s.heap H locs → lv_has ls 5 [(2, .int (nI i2)), (1, .int (nI i1)), (0, .ref h0)] → W p l e ({ frames := 2, cells := 0, slots := 0, locals := 40 } : Room) s m (([.ref h0] : List Value).toArray) below meth c H locs 0 0 (MQ below (va_Qv (fun (u : (Nat → Int32) × (Nat → Int32)) => True) (fun (u : (Nat → Int32) × (Nat → Int32)) => qw D A [(h0, .inr (1, fs)), (ql, .inl (kl, 96, .inl u.1)), (qh, .inl (kh, 96, .inl u.2))] []) A) (([.ref h0] : List Value).toArray) s 0 0 A) (F0 m 10 ls []) := by
          intro n
          induction n with
          | zero => intro i2 f_7 f_8 H locs ls hi hn; exact absurd hn (by omega)
          | succ n ih10 =>
            intro i2 f_7 f_8 H locs ls hi_9 hn_10 hP hD hS hl
            refine lv_iload_n hx hb dX1_setFirstBounds_10 rfl (lv_at hl 0 rfl) ?_
            refine lv_iconst (v := 4) hx hb dX1_setFirstBounds_11 (by decide) ?_
            refine lv_icmp_ge (tgt := 59) hx hb dX1_setFirstBounds_12 (by decide) (fun c_12 => ?_) (fun c_12 => ?_)
            · skip
              have hc_12 := ge_of (i := i2) 4 c_12 rfl (by omega) (by omega)
              refine lv_iinc (v := (nI (i1 + 1))) (lv' := [(1, .int (nI (i1 + 1))), (2, .int (nI i2)), (0, .ref h0)]) hx hb dX1_setFirstBounds_59 hl (k := 1) rfl (nI_1 _) (by decide) rfl (fun ls hl => ?_)
              refine lv_goto (tgt := 2) hx hb dX1_setFirstBounds_62 (by decide) ?_
              exact ih2 (i1 + 1) _ _ _ _ _ (by omega) (by omega) (hP.sub [0, 1, 2] rfl) (hD.sub [0, 1, 2] (by decide) rfl) hS (lv_sub hl [0, 2] rfl)
            · skip
              have hc_12 := lt_of (i := i2) 4 c_12 rfl (by omega)
              refine lv_iload_n hx hb dX1_setFirstBounds_15 rfl (lv_at hl 1 rfl) ?_
              refine lv_iconst (v := 4) hx hb dX1_setFirstBounds_16 (by decide) ?_
              refine lv_imul hx hb dX1_setFirstBounds_17 ?_
              refine tI (y := nI (i1 * 4)) (pk_mul i1 4) ?_
              refine lv_iload_n hx hb dX1_setFirstBounds_18 rfl (lv_at hl 0 rfl) ?_
              refine lv_iadd hx hb dX1_setFirstBounds_19 ?_
              refine tI (y := nI ((i1 * 4) + i2)) (nI_add (i1 * 4) i2) ?_
              refine lv_istore_n (lv' := [(3, .int (nI ((i1 * 4) + i2))), (2, .int (nI i2)), (1, .int (nI i1)), (0, .ref h0)]) hx hb dX1_setFirstBounds_20 rfl hl (by decide) rfl (fun ls hl => ?_)
              refine lv_iload_n hx hb dX1_setFirstBounds_21 rfl (lv_at hl 1 rfl) ?_
              refine lv_if_ne (tgt := 29) hx hb dX1_setFirstBounds_22 (by decide) (fun c_13 => ?_) (fun c_13 => ?_)
              · skip
                refine lv_iconst (v := 3) hx hb dX1_setFirstBounds_29 (by decide) ?_
                refine lv_istore (lv' := [(4, .int 3), (3, .int (nI ((i1 * 4) + i2))), (2, .int (nI i2)), (1, .int (nI i1)), (0, .ref h0)]) hx hb dX1_setFirstBounds_30 hl (by decide) rfl (fun ls hl => ?_)
                refine lv_aload_n hx hb dX1_setFirstBounds_32 rfl (lv_at hl 4 rfl) ?_
                refine va_get (D := D) (ci := 1) (v := .ref ql) (C := RX1) (T := TX1) (N := 7) hx hb hts (fun w h => List.mem_cons_of_mem _ (inG1 w h)) hown hK hP 0 rfl rfl 2 (by decide) (hts _ (List.mem_cons_of_mem _ gw_54)) (fun _ h9 => h9) hf2 dX1_setFirstBounds_33 ?_
                refine lv_iload_n hx hb dX1_setFirstBounds_36 rfl (lv_at hl 1 rfl) ?_
                refine lv_iconst (v := 1) hx hb dX1_setFirstBounds_37 (by decide) ?_
                refine lv_iload hx hb dX1_setFirstBounds_38 (lv_at hl 0 rfl) ?_
                refine lv_isub hx hb dX1_setFirstBounds_40 ?_
                refine tI (y := (-2)) (by decide) ?_
                refine va_iast hx hb hK hP hD hS 1 0 rfl rfl (vp_in_nI (n := (i1 * 4) + i2) (N := 96) (by omega) (by omega)) dX1_setFirstBounds_41 (fun H locs hP hD hS => ?_)
                obtain ⟨f_14, hP, hD⟩ : ∃ f : Nat → Int32, va_P D vwCl [(h0, .inr (1, fs)), (ql, .inl (kl, 96, .inl f)), (qh, .inl (kh, 96, .inl f_8))] H ∧ va_D A [(h0, .inr (1, fs)), (ql, .inl (kl, 96, .inl f)), (qh, .inl (kh, 96, .inl f_8))] := ⟨_, hP, hD⟩
                refine lv_aload_n hx hb dX1_setFirstBounds_42 rfl (lv_at hl 4 rfl) ?_
                refine va_get (D := D) (ci := 1) (v := .ref qh) (C := RX1) (T := TX1) (N := 7) hx hb hts (fun w h => List.mem_cons_of_mem _ (inG1 w h)) hown hK hP 0 rfl rfl 3 (by decide) (hts _ (List.mem_cons_of_mem _ gw_55)) (fun _ h9 => h9) hf3 dX1_setFirstBounds_43 ?_
                refine lv_iload_n hx hb dX1_setFirstBounds_46 rfl (lv_at hl 1 rfl) ?_
                refine lv_bipush (v := 30) hx hb dX1_setFirstBounds_47 (by decide) ?_
                refine lv_iload hx hb dX1_setFirstBounds_49 (lv_at hl 0 rfl) ?_
                refine lv_iadd hx hb dX1_setFirstBounds_51 ?_
                refine tI (y := 33) (by decide) ?_
                refine va_iast hx hb hK hP hD hS 2 1 rfl rfl (vp_in_nI (n := (i1 * 4) + i2) (N := 96) (by omega) (by omega)) dX1_setFirstBounds_52 (fun H locs hP hD hS => ?_)
                obtain ⟨f_15, hP, hD⟩ : ∃ f : Nat → Int32, va_P D vwCl [(h0, .inr (1, fs)), (ql, .inl (kl, 96, .inl f_14)), (qh, .inl (kh, 96, .inl f))] H ∧ va_D A [(h0, .inr (1, fs)), (ql, .inl (kl, 96, .inl f_14)), (qh, .inl (kh, 96, .inl f))] := ⟨_, hP, hD⟩
                refine lv_iinc (v := (nI (i2 + 1))) (lv' := [(2, .int (nI (i2 + 1))), (4, .int 3), (3, .int (nI ((i1 * 4) + i2))), (1, .int (nI i1)), (0, .ref h0)]) hx hb dX1_setFirstBounds_53 hl (k := 2) rfl (nI_1 _) (by decide) rfl (fun ls hl => ?_)
                refine lv_goto (tgt := 10) hx hb dX1_setFirstBounds_56 (by decide) ?_
                exact ih10 (i2 + 1) _ _ _ _ _ (by omega) (by omega) (hP.sub [0, 1, 2] rfl) (hD.sub [0, 1, 2] (by decide) rfl) hS (lv_sub hl [0, 3, 4] rfl)
              · skip
                refine lv_iconst (v := 0) hx hb dX1_setFirstBounds_25 (by decide) ?_
                refine lv_goto (tgt := 30) hx hb dX1_setFirstBounds_26 (by decide) ?_
                refine lv_istore (lv' := [(4, .int 0), (3, .int (nI ((i1 * 4) + i2))), (2, .int (nI i2)), (1, .int (nI i1)), (0, .ref h0)]) hx hb dX1_setFirstBounds_30 hl (by decide) rfl (fun ls hl => ?_)
                refine lv_aload_n hx hb dX1_setFirstBounds_32 rfl (lv_at hl 4 rfl) ?_
                refine va_get (D := D) (ci := 1) (v := .ref ql) (C := RX1) (T := TX1) (N := 7) hx hb hts (fun w h => List.mem_cons_of_mem _ (inG1 w h)) hown hK hP 0 rfl rfl 2 (by decide) (hts _ (List.mem_cons_of_mem _ gw_54)) (fun _ h9 => h9) hf2 dX1_setFirstBounds_33 ?_
                refine lv_iload_n hx hb dX1_setFirstBounds_36 rfl (lv_at hl 1 rfl) ?_
                refine lv_iconst (v := 1) hx hb dX1_setFirstBounds_37 (by decide) ?_
                refine lv_iload hx hb dX1_setFirstBounds_38 (lv_at hl 0 rfl) ?_
                refine lv_isub hx hb dX1_setFirstBounds_40 ?_
                refine tI (y := 1) (by decide) ?_
                refine va_iast hx hb hK hP hD hS 1 0 rfl rfl (vp_in_nI (n := (i1 * 4) + i2) (N := 96) (by omega) (by omega)) dX1_setFirstBounds_41 (fun H locs hP hD hS => ?_)
                obtain ⟨f_16, hP, hD⟩ : ∃ f : Nat → Int32, va_P D vwCl [(h0, .inr (1, fs)), (ql, .inl (kl, 96, .inl f)), (qh, .inl (kh, 96, .inl f_8))] H ∧ va_D A [(h0, .inr (1, fs)), (ql, .inl (kl, 96, .inl f)), (qh, .inl (kh, 96, .inl f_8))] := ⟨_, hP, hD⟩
                refine lv_aload_n hx hb dX1_setFirstBounds_42 rfl (lv_at hl 4 rfl) ?_
                refine va_get (D := D) (ci := 1) (v := .ref qh) (C := RX1) (T := TX1) (N := 7) hx hb hts (fun w h => List.mem_cons_of_mem _ (inG1 w h)) hown hK hP 0 rfl rfl 3 (by decide) (hts _ (List.mem_cons_of_mem _ gw_55)) (fun _ h9 => h9) hf3 dX1_setFirstBounds_43 ?_
                refine lv_iload_n hx hb dX1_setFirstBounds_46 rfl (lv_at hl 1 rfl) ?_
                refine lv_bipush (v := 30) hx hb dX1_setFirstBounds_47 (by decide) ?_
                refine lv_iload hx hb dX1_setFirstBounds_49 (lv_at hl 0 rfl) ?_
                refine lv_iadd hx hb dX1_setFirstBounds_51 ?_
                refine tI (y := 30) (by decide) ?_
                refine va_iast hx hb hK hP hD hS 2 1 rfl rfl (vp_in_nI (n := (i1 * 4) + i2) (N := 96) (by omega) (by omega)) dX1_setFirstBounds_52 (fun H locs hP hD hS => ?_)
                obtain ⟨f_17, hP, hD⟩ : ∃ f : Nat → Int32, va_P D vwCl [(h0, .inr (1, fs)), (ql, .inl (kl, 96, .inl f_16)), (qh, .inl (kh, 96, .inl f))] H ∧ va_D A [(h0, .inr (1, fs)), (ql, .inl (kl, 96, .inl f_16)), (qh, .inl (kh, 96, .inl f))] := ⟨_, hP, hD⟩
                refine lv_iinc (v := (nI (i2 + 1))) (lv' := [(2, .int (nI (i2 + 1))), (4, .int 0), (3, .int (nI ((i1 * 4) + i2))), (1, .int (nI i1)), (0, .ref h0)]) hx hb dX1_setFirstBounds_53 hl (k := 2) rfl (nI_1 _) (by decide) rfl (fun ls hl => ?_)
                refine lv_goto (tgt := 10) hx hb dX1_setFirstBounds_56 (by decide) ?_
                exact ih10 (i2 + 1) _ _ _ _ _ (by omega) (by omega) (hP.sub [0, 1, 2] rfl) (hD.sub [0, 1, 2] (by decide) rfl) hS (lv_sub hl [0, 3, 4] rfl)
        exact lp10 (4 + 1) 0 _ _ _ _ _ (by omega) (by omega) hP hD hS (lv_sub hl [0, 1, 2] rfl)
  exact lp2 (24 + 1) 0 _ _ _ _ _ (by omega) (by omega) hP hD hS (lv_sub hl [0, 1] rfl)
set_option maxHeartbeats 4000000 in
set_option maxRecDepth 100000 in
theorem c_X1_directGap (l : Launch) (D : va_G) (sz : Nat) (h0 : Nat) (i0 : Nat) (j0 : Nat) (fs : List Value) (ql : Nat) (qh : Nat) (kl : ClassId) (kh : ClassId) (fl : Nat → Int32) (fh : Nat → Int32) (hf2 : fs[2]? = some (.ref ql)) (hf3 : fs[3]? = some (.ref qh)) (hi0 : i0 < 4) (hj0 : j0 < 4) : Met l yX1_directGap (.code yX1_directGap cX1_directGap 5 (some .int) :: G) ({ frames := 2, cells := 0, slots := 0, locals := 60 }) (va_Pc [.ref h0, .int (nI i0), .int (nI j0)] (pw D sz [(h0, .inr (1, fs)), (ql, .inl (kl, 96, .inl fl)), (qh, .inl (kh, 96, .inl fh))] [(kl, .int), (kh, .int)])) (va_Qi (fun (r : Int32) (u : Unit) => True) (fun (u : Unit) => qw D (va_A [(h0, .inr (1, fs)), (ql, .inl (kl, 96, .inl fl)), (qh, .inl (kh, 96, .inl fh))] sz) [(h0, .inr (1, fs)), (ql, .inl (kl, 96, .inl fl)), (qh, .inl (kh, 96, .inl fh))] []) (va_A [(h0, .inr (1, fs)), (ql, .inl (kl, 96, .inl fl)), (qh, .inl (kh, 96, .inl fh))] sz)) 0 0 (va_A [(h0, .inr (1, fs)), (ql, .inl (kl, 96, .inl fl)), (qh, .inl (kh, 96, .inl fh))] sz) := by
  refine Met.ofW (cc := cX1_directGap) (maxL := 5) (ret := (some .int)) (by decide) rfl ?_
  intro p e s m args below meth c s₁ B hml hv
  obtain ⟨rfl, hsz, hP, hK, hD0, hN⟩ := hv
  have hx := B.exec
  have hb := B.bytes
  have hr := B.returns
  have hts := atoms_spec (ws := (.code yX1_directGap cX1_directGap 5 (some .int) :: G)) B.pre
  have hown : s.vm.findClass RX1 = some m.cls := findClass_of_methodNamed B.named
  have hlocks := B.notSynchronized
  subst hsz
  have hD := hD0.self (sz := s.heap.size)
  generalize hAe : va_A [(h0, .inr (1, fs)), (ql, .inl (kl, 96, .inl fl)), (qh, .inl (kh, 96, .inl fh))] s.heap.size = A at hD ⊢
  have hA : ∀ q : Nat, s.heap.size ≤ q → A q := fun q h => by rw [← hAe]; exact Or.inr h
  have hS : va_S A s.heap s.heap [] := va_S.rf
  have hP : va_P D vwCl [(h0, .inr (1, fs)), (ql, .inl (kl, 96, .inl fl)), (qh, .inl (kh, 96, .inl fh))] s.heap := hP
  have hl := lv_entry ([.ref h0, .int (nI i0), .int (nI j0)]) (n := 5) (Nat.le_of_ble_eq_true rfl)
  rw [lg_entry_eq]
  generalize (lg_sl ([.ref h0, .int (nI i0), .int (nI j0)]) ++ List.replicate (5 - (lg_sl ([.ref h0, .int (nI i0), .int (nI j0)])).length) Slot.unset).toArray = ls at hl ⊢
  have hl : lv_has ls 5 [(0, .ref h0), (1, .int (nI i0)), (2, .int (nI j0))] := hl
  refine lv_iload_n hx hb dX1_directGap_0 rfl (lv_at hl 1 rfl) ?_
  refine lv_iload_n hx hb dX1_directGap_1 rfl (lv_at hl 2 rfl) ?_
  refine lv_icmp_ne (tgt := 9) hx hb dX1_directGap_2 (by decide) (fun c_1 => ?_) (fun c_1 => ?_)
  · skip
    refine lv_iload_n hx hb dX1_directGap_9 rfl (lv_at hl 1 rfl) ?_
    refine lv_if_eq (tgt := 17) hx hb dX1_directGap_10 (by decide) (fun c_2 => ?_) (fun c_2 => ?_)
    · skip
      refine lv_iconst (v := 3) hx hb dX1_directGap_17 (by decide) ?_
      refine lv_goto (tgt := 23) hx hb dX1_directGap_18 (by decide) ?_
      refine lv_istore_n (lv' := [(3, .int 3), (0, .ref h0), (1, .int (nI i0)), (2, .int (nI j0))]) hx hb dX1_directGap_23 rfl hl (by decide) rfl (fun ls hl => ?_)
      refine lv_iconst (v := 0) hx hb dX1_directGap_24 (by decide) ?_
      refine lv_istore (lv' := [(4, .int 0), (3, .int 3), (0, .ref h0), (1, .int (nI i0)), (2, .int (nI j0))]) hx hb dX1_directGap_25 hl (by decide) rfl (fun ls hl => ?_)
      have lp27 : ∀ (n i4 : Nat) (y_3 : Int32) (H : Heap) (locs : List Loc) (ls : Array Slot), i4 ≤ 24 → 24 < i4 + n → va_P D vwCl [(h0, .inr (1, fs)), (ql, .inl (kl, 96, .inl fl)), (qh, .inl (kh, 96, .inl fh))] H → va_D A [(h0, .inr (1, fs)), (ql, .inl (kl, 96, .inl fl)), (qh, .inl (kh, 96, .inl fh))] → va_S A s.heap H locs → lv_has ls 5 [(4, .int (nI i4)), (3, .int y_3), (0, .ref h0), (1, .int (nI i0)), (2, .int (nI j0))] → W p l e ({ frames := 2, cells := 0, slots := 0, locals := 60 } : Room) s m (([.ref h0, .int (nI i0), .int (nI j0)] : List Value).toArray) below meth c H locs 0 0 (MQ below (va_Qi (fun (r : Int32) (u : Unit) => True) (fun (u : Unit) => qw D A [(h0, .inr (1, fs)), (ql, .inl (kl, 96, .inl fl)), (qh, .inl (kh, 96, .inl fh))] []) A) (([.ref h0, .int (nI i0), .int (nI j0)] : List Value).toArray) s 0 0 A) (F0 m 27 ls []) := by
        intro n
        induction n with
        | zero => intro i4 y_3 H locs ls hi hn; exact absurd hn (by omega)
        | succ n ih27 =>
          intro i4 y_3 H locs ls hi_4 hn_5 hP hD hS hl
          refine lv_iload hx hb dX1_directGap_27 (lv_at hl 0 rfl) ?_
          refine lv_bipush (v := 24) hx hb dX1_directGap_29 (by decide) ?_
          refine lv_icmp_ge (tgt := 68) hx hb dX1_directGap_31 (by decide) (fun c_7 => ?_) (fun c_7 => ?_)
          · skip
            have hc_7 := ge_of (i := i4) 24 c_7 rfl (by omega) (by omega)
            refine lv_iload_n hx hb dX1_directGap_68 rfl (lv_at hl 1 rfl) ?_
            have hP9 := hP.sub (ws' := [(h0, .inr (1, fs)), (ql, .inl (kl, 96, .inl fl)), (qh, .inl (kh, 96, .inl fh))]) [0, 1, 2] rfl
            have hD9 := hD.sub (ws' := [(h0, .inr (1, fs)), (ql, .inl (kl, 96, .inl fl)), (qh, .inl (kh, 96, .inl fh))]) [0, 1, 2] (by decide) rfl
            have hK9 := hK.sub (tys' := []) [] rfl
            refine W.widen (k := 0) (n := 0) (Nat.le_of_ble_eq_true rfl) (Nat.le_of_ble_eq_true rfl) ?_
            exact W.iret (v := y_3) hx hb hr (fun t ht hW => ⟨⟨y_3, (), rfl, (by first | trivial | rfl), by rw [ht]; exact hP9, va_K.moved hW.alike hK9, hD9⟩, hS.F ht⟩) hS.2.2 dX1_directGap_69
          · skip
            have hc_7 := lt_of (i := i4) 24 c_7 rfl (by omega)
            refine lv_iload_n hx hb dX1_directGap_34 rfl (lv_at hl 1 rfl) ?_
            refine lv_aload_n hx hb dX1_directGap_35 rfl (lv_at hl 2 rfl) ?_
            refine va_get (D := D) (ci := 1) (v := .ref qh) (C := RX1) (T := TX1) (N := 7) hx hb hts (fun w h => List.mem_cons_of_mem _ (inG1 w h)) hown hK hP 0 rfl rfl 3 (by decide) (hts _ (List.mem_cons_of_mem _ gw_55)) (fun _ h9 => h9) hf3 dX1_directGap_36 ?_
            refine lv_iload hx hb dX1_directGap_39 (lv_at hl 0 rfl) ?_
            refine lv_iconst (v := 4) hx hb dX1_directGap_41 (by decide) ?_
            refine lv_imul hx hb dX1_directGap_42 ?_
            refine tI (y := nI (i4 * 4)) (pk_mul i4 4) ?_
            refine lv_iload_n hx hb dX1_directGap_43 rfl (lv_at hl 4 rfl) ?_
            refine lv_iadd hx hb dX1_directGap_44 ?_
            refine tI (y := nI ((i4 * 4) + j0)) (nI_add (i4 * 4) j0) ?_
            refine va_iald hx hb hK hP 2 1 rfl rfl (vp_in_nI (n := (i4 * 4) + j0) (N := 96) (by omega) (by omega)) dX1_directGap_45 ?_
            refine tF (fun v_8 => ?_)
            refine lv_aload_n hx hb dX1_directGap_46 rfl (lv_at hl 2 rfl) ?_
            refine va_get (D := D) (ci := 1) (v := .ref ql) (C := RX1) (T := TX1) (N := 7) hx hb hts (fun w h => List.mem_cons_of_mem _ (inG1 w h)) hown hK hP 0 rfl rfl 2 (by decide) (hts _ (List.mem_cons_of_mem _ gw_54)) (fun _ h9 => h9) hf2 dX1_directGap_47 ?_
            refine lv_iload hx hb dX1_directGap_50 (lv_at hl 0 rfl) ?_
            refine lv_iconst (v := 4) hx hb dX1_directGap_52 (by decide) ?_
            refine lv_imul hx hb dX1_directGap_53 ?_
            refine tI (y := nI (i4 * 4)) (pk_mul i4 4) ?_
            refine lv_iload_n hx hb dX1_directGap_54 rfl (lv_at hl 3 rfl) ?_
            refine lv_iadd hx hb dX1_directGap_55 ?_
            refine tI (y := nI ((i4 * 4) + i0)) (nI_add (i4 * 4) i0) ?_
            refine va_iald hx hb hK hP 1 0 rfl rfl (vp_in_nI (n := (i4 * 4) + i0) (N := 96) (by omega) (by omega)) dX1_directGap_56 ?_
            refine tF (fun v_9 => ?_)
            refine lv_isub hx hb dX1_directGap_57 ?_
            refine tF (fun v_10 => ?_)
            refine va_mmin hx hb (by rw [hml]; exact hl.1.symm) hown (hts _ (List.mem_cons_of_mem _ gw_56)) (hts _ (List.mem_cons_of_mem _ gw_57)) (hts _ (List.mem_cons_of_mem _ gw_58)) (hts _ (List.mem_cons_of_mem _ gw_59)) (Nat.le_of_ble_eq_true rfl) (Nat.le_of_ble_eq_true rfl) (Nat.le_of_ble_eq_true rfl) (Nat.le_of_ble_eq_true rfl) dX1_directGap_58 ?_
            refine tF (fun v_11 => ?_)
            refine lv_istore_n (lv' := [(3, .int v_11), (4, .int (nI i4)), (0, .ref h0), (1, .int (nI i0)), (2, .int (nI j0))]) hx hb dX1_directGap_61 rfl hl (by decide) rfl (fun ls hl => ?_)
            refine lv_iinc (v := (nI (i4 + 1))) (lv' := [(4, .int (nI (i4 + 1))), (3, .int v_11), (0, .ref h0), (1, .int (nI i0)), (2, .int (nI j0))]) hx hb dX1_directGap_62 hl (k := 1) rfl (nI_1 _) (by decide) rfl (fun ls hl => ?_)
            refine lv_goto (tgt := 27) hx hb dX1_directGap_65 (by decide) ?_
            exact ih27 (i4 + 1) _ _ _ _ (by omega) (by omega) (hP.sub [0, 1, 2] rfl) (hD.sub [0, 1, 2] (by decide) rfl) hS (lv_sub hl [0, 1, 2, 3, 4] rfl)
      exact lp27 (24 + 1) 0 _ _ _ _ (by omega) (by omega) hP hD hS (lv_sub hl [0, 1, 2, 3, 4] rfl)
    · skip
      refine lv_iload_n hx hb dX1_directGap_13 rfl (lv_at hl 2 rfl) ?_
      refine lv_if_ne (tgt := 21) hx hb dX1_directGap_14 (by decide) (fun c_12 => ?_) (fun c_12 => ?_)
      · skip
        refine lv_bipush (v := 6) hx hb dX1_directGap_21 (by decide) ?_
        refine lv_istore_n (lv' := [(3, .int 6), (0, .ref h0), (1, .int (nI i0)), (2, .int (nI j0))]) hx hb dX1_directGap_23 rfl hl (by decide) rfl (fun ls hl => ?_)
        refine lv_iconst (v := 0) hx hb dX1_directGap_24 (by decide) ?_
        refine lv_istore (lv' := [(4, .int 0), (3, .int 6), (0, .ref h0), (1, .int (nI i0)), (2, .int (nI j0))]) hx hb dX1_directGap_25 hl (by decide) rfl (fun ls hl => ?_)
        have lp27 : ∀ (n i4 : Nat) (y_13 : Int32) (H : Heap) (locs : List Loc) (ls : Array Slot), i4 ≤ 24 → 24 < i4 + n → va_P D vwCl [(h0, .inr (1, fs)), (ql, .inl (kl, 96, .inl fl)), (qh, .inl (kh, 96, .inl fh))] H → va_D A [(h0, .inr (1, fs)), (ql, .inl (kl, 96, .inl fl)), (qh, .inl (kh, 96, .inl fh))] → va_S A s.heap H locs → lv_has ls 5 [(4, .int (nI i4)), (3, .int y_13), (0, .ref h0), (1, .int (nI i0)), (2, .int (nI j0))] → W p l e ({ frames := 2, cells := 0, slots := 0, locals := 60 } : Room) s m (([.ref h0, .int (nI i0), .int (nI j0)] : List Value).toArray) below meth c H locs 0 0 (MQ below (va_Qi (fun (r : Int32) (u : Unit) => True) (fun (u : Unit) => qw D A [(h0, .inr (1, fs)), (ql, .inl (kl, 96, .inl fl)), (qh, .inl (kh, 96, .inl fh))] []) A) (([.ref h0, .int (nI i0), .int (nI j0)] : List Value).toArray) s 0 0 A) (F0 m 27 ls []) := by
          intro n
          induction n with
          | zero => intro i4 y_13 H locs ls hi hn; exact absurd hn (by omega)
          | succ n ih27 =>
            intro i4 y_13 H locs ls hi_14 hn_15 hP hD hS hl
            refine lv_iload hx hb dX1_directGap_27 (lv_at hl 0 rfl) ?_
            refine lv_bipush (v := 24) hx hb dX1_directGap_29 (by decide) ?_
            refine lv_icmp_ge (tgt := 68) hx hb dX1_directGap_31 (by decide) (fun c_17 => ?_) (fun c_17 => ?_)
            · skip
              have hc_17 := ge_of (i := i4) 24 c_17 rfl (by omega) (by omega)
              refine lv_iload_n hx hb dX1_directGap_68 rfl (lv_at hl 1 rfl) ?_
              have hP9 := hP.sub (ws' := [(h0, .inr (1, fs)), (ql, .inl (kl, 96, .inl fl)), (qh, .inl (kh, 96, .inl fh))]) [0, 1, 2] rfl
              have hD9 := hD.sub (ws' := [(h0, .inr (1, fs)), (ql, .inl (kl, 96, .inl fl)), (qh, .inl (kh, 96, .inl fh))]) [0, 1, 2] (by decide) rfl
              have hK9 := hK.sub (tys' := []) [] rfl
              refine W.widen (k := 0) (n := 0) (Nat.le_of_ble_eq_true rfl) (Nat.le_of_ble_eq_true rfl) ?_
              exact W.iret (v := y_13) hx hb hr (fun t ht hW => ⟨⟨y_13, (), rfl, (by first | trivial | rfl), by rw [ht]; exact hP9, va_K.moved hW.alike hK9, hD9⟩, hS.F ht⟩) hS.2.2 dX1_directGap_69
            · skip
              have hc_17 := lt_of (i := i4) 24 c_17 rfl (by omega)
              refine lv_iload_n hx hb dX1_directGap_34 rfl (lv_at hl 1 rfl) ?_
              refine lv_aload_n hx hb dX1_directGap_35 rfl (lv_at hl 2 rfl) ?_
              refine va_get (D := D) (ci := 1) (v := .ref qh) (C := RX1) (T := TX1) (N := 7) hx hb hts (fun w h => List.mem_cons_of_mem _ (inG1 w h)) hown hK hP 0 rfl rfl 3 (by decide) (hts _ (List.mem_cons_of_mem _ gw_55)) (fun _ h9 => h9) hf3 dX1_directGap_36 ?_
              refine lv_iload hx hb dX1_directGap_39 (lv_at hl 0 rfl) ?_
              refine lv_iconst (v := 4) hx hb dX1_directGap_41 (by decide) ?_
              refine lv_imul hx hb dX1_directGap_42 ?_
              refine tI (y := nI (i4 * 4)) (pk_mul i4 4) ?_
              refine lv_iload_n hx hb dX1_directGap_43 rfl (lv_at hl 4 rfl) ?_
              refine lv_iadd hx hb dX1_directGap_44 ?_
              refine tI (y := nI ((i4 * 4) + j0)) (nI_add (i4 * 4) j0) ?_
              refine va_iald hx hb hK hP 2 1 rfl rfl (vp_in_nI (n := (i4 * 4) + j0) (N := 96) (by omega) (by omega)) dX1_directGap_45 ?_
              refine tF (fun v_18 => ?_)
              refine lv_aload_n hx hb dX1_directGap_46 rfl (lv_at hl 2 rfl) ?_
              refine va_get (D := D) (ci := 1) (v := .ref ql) (C := RX1) (T := TX1) (N := 7) hx hb hts (fun w h => List.mem_cons_of_mem _ (inG1 w h)) hown hK hP 0 rfl rfl 2 (by decide) (hts _ (List.mem_cons_of_mem _ gw_54)) (fun _ h9 => h9) hf2 dX1_directGap_47 ?_
              refine lv_iload hx hb dX1_directGap_50 (lv_at hl 0 rfl) ?_
              refine lv_iconst (v := 4) hx hb dX1_directGap_52 (by decide) ?_
              refine lv_imul hx hb dX1_directGap_53 ?_
              refine tI (y := nI (i4 * 4)) (pk_mul i4 4) ?_
              refine lv_iload_n hx hb dX1_directGap_54 rfl (lv_at hl 3 rfl) ?_
              refine lv_iadd hx hb dX1_directGap_55 ?_
              refine tI (y := nI ((i4 * 4) + i0)) (nI_add (i4 * 4) i0) ?_
              refine va_iald hx hb hK hP 1 0 rfl rfl (vp_in_nI (n := (i4 * 4) + i0) (N := 96) (by omega) (by omega)) dX1_directGap_56 ?_
              refine tF (fun v_19 => ?_)
              refine lv_isub hx hb dX1_directGap_57 ?_
              refine tF (fun v_20 => ?_)
              refine va_mmin hx hb (by rw [hml]; exact hl.1.symm) hown (hts _ (List.mem_cons_of_mem _ gw_56)) (hts _ (List.mem_cons_of_mem _ gw_57)) (hts _ (List.mem_cons_of_mem _ gw_58)) (hts _ (List.mem_cons_of_mem _ gw_59)) (Nat.le_of_ble_eq_true rfl) (Nat.le_of_ble_eq_true rfl) (Nat.le_of_ble_eq_true rfl) (Nat.le_of_ble_eq_true rfl) dX1_directGap_58 ?_
              refine tF (fun v_21 => ?_)
              refine lv_istore_n (lv' := [(3, .int v_21), (4, .int (nI i4)), (0, .ref h0), (1, .int (nI i0)), (2, .int (nI j0))]) hx hb dX1_directGap_61 rfl hl (by decide) rfl (fun ls hl => ?_)
              refine lv_iinc (v := (nI (i4 + 1))) (lv' := [(4, .int (nI (i4 + 1))), (3, .int v_21), (0, .ref h0), (1, .int (nI i0)), (2, .int (nI j0))]) hx hb dX1_directGap_62 hl (k := 1) rfl (nI_1 _) (by decide) rfl (fun ls hl => ?_)
              refine lv_goto (tgt := 27) hx hb dX1_directGap_65 (by decide) ?_
              exact ih27 (i4 + 1) _ _ _ _ (by omega) (by omega) (hP.sub [0, 1, 2] rfl) (hD.sub [0, 1, 2] (by decide) rfl) hS (lv_sub hl [0, 1, 2, 3, 4] rfl)
        exact lp27 (24 + 1) 0 _ _ _ _ (by omega) (by omega) hP hD hS (lv_sub hl [0, 1, 2, 3, 4] rfl)
      · skip
        refine lv_iconst (v := 3) hx hb dX1_directGap_17 (by decide) ?_
        refine lv_goto (tgt := 23) hx hb dX1_directGap_18 (by decide) ?_
        refine lv_istore_n (lv' := [(3, .int 3), (0, .ref h0), (1, .int (nI i0)), (2, .int (nI j0))]) hx hb dX1_directGap_23 rfl hl (by decide) rfl (fun ls hl => ?_)
        refine lv_iconst (v := 0) hx hb dX1_directGap_24 (by decide) ?_
        refine lv_istore (lv' := [(4, .int 0), (3, .int 3), (0, .ref h0), (1, .int (nI i0)), (2, .int (nI j0))]) hx hb dX1_directGap_25 hl (by decide) rfl (fun ls hl => ?_)
        have lp27 : ∀ (n i4 : Nat) (y_22 : Int32) (H : Heap) (locs : List Loc) (ls : Array Slot), i4 ≤ 24 → 24 < i4 + n → va_P D vwCl [(h0, .inr (1, fs)), (ql, .inl (kl, 96, .inl fl)), (qh, .inl (kh, 96, .inl fh))] H → va_D A [(h0, .inr (1, fs)), (ql, .inl (kl, 96, .inl fl)), (qh, .inl (kh, 96, .inl fh))] → va_S A s.heap H locs → lv_has ls 5 [(4, .int (nI i4)), (3, .int y_22), (0, .ref h0), (1, .int (nI i0)), (2, .int (nI j0))] → W p l e ({ frames := 2, cells := 0, slots := 0, locals := 60 } : Room) s m (([.ref h0, .int (nI i0), .int (nI j0)] : List Value).toArray) below meth c H locs 0 0 (MQ below (va_Qi (fun (r : Int32) (u : Unit) => True) (fun (u : Unit) => qw D A [(h0, .inr (1, fs)), (ql, .inl (kl, 96, .inl fl)), (qh, .inl (kh, 96, .inl fh))] []) A) (([.ref h0, .int (nI i0), .int (nI j0)] : List Value).toArray) s 0 0 A) (F0 m 27 ls []) := by
          intro n
          induction n with
          | zero => intro i4 y_22 H locs ls hi hn; exact absurd hn (by omega)
          | succ n ih27 =>
            intro i4 y_22 H locs ls hi_23 hn_24 hP hD hS hl
            refine lv_iload hx hb dX1_directGap_27 (lv_at hl 0 rfl) ?_
            refine lv_bipush (v := 24) hx hb dX1_directGap_29 (by decide) ?_
            refine lv_icmp_ge (tgt := 68) hx hb dX1_directGap_31 (by decide) (fun c_26 => ?_) (fun c_26 => ?_)
            · skip
              have hc_26 := ge_of (i := i4) 24 c_26 rfl (by omega) (by omega)
              refine lv_iload_n hx hb dX1_directGap_68 rfl (lv_at hl 1 rfl) ?_
              have hP9 := hP.sub (ws' := [(h0, .inr (1, fs)), (ql, .inl (kl, 96, .inl fl)), (qh, .inl (kh, 96, .inl fh))]) [0, 1, 2] rfl
              have hD9 := hD.sub (ws' := [(h0, .inr (1, fs)), (ql, .inl (kl, 96, .inl fl)), (qh, .inl (kh, 96, .inl fh))]) [0, 1, 2] (by decide) rfl
              have hK9 := hK.sub (tys' := []) [] rfl
              refine W.widen (k := 0) (n := 0) (Nat.le_of_ble_eq_true rfl) (Nat.le_of_ble_eq_true rfl) ?_
              exact W.iret (v := y_22) hx hb hr (fun t ht hW => ⟨⟨y_22, (), rfl, (by first | trivial | rfl), by rw [ht]; exact hP9, va_K.moved hW.alike hK9, hD9⟩, hS.F ht⟩) hS.2.2 dX1_directGap_69
            · skip
              have hc_26 := lt_of (i := i4) 24 c_26 rfl (by omega)
              refine lv_iload_n hx hb dX1_directGap_34 rfl (lv_at hl 1 rfl) ?_
              refine lv_aload_n hx hb dX1_directGap_35 rfl (lv_at hl 2 rfl) ?_
              refine va_get (D := D) (ci := 1) (v := .ref qh) (C := RX1) (T := TX1) (N := 7) hx hb hts (fun w h => List.mem_cons_of_mem _ (inG1 w h)) hown hK hP 0 rfl rfl 3 (by decide) (hts _ (List.mem_cons_of_mem _ gw_55)) (fun _ h9 => h9) hf3 dX1_directGap_36 ?_
              refine lv_iload hx hb dX1_directGap_39 (lv_at hl 0 rfl) ?_
              refine lv_iconst (v := 4) hx hb dX1_directGap_41 (by decide) ?_
              refine lv_imul hx hb dX1_directGap_42 ?_
              refine tI (y := nI (i4 * 4)) (pk_mul i4 4) ?_
              refine lv_iload_n hx hb dX1_directGap_43 rfl (lv_at hl 4 rfl) ?_
              refine lv_iadd hx hb dX1_directGap_44 ?_
              refine tI (y := nI ((i4 * 4) + j0)) (nI_add (i4 * 4) j0) ?_
              refine va_iald hx hb hK hP 2 1 rfl rfl (vp_in_nI (n := (i4 * 4) + j0) (N := 96) (by omega) (by omega)) dX1_directGap_45 ?_
              refine tF (fun v_27 => ?_)
              refine lv_aload_n hx hb dX1_directGap_46 rfl (lv_at hl 2 rfl) ?_
              refine va_get (D := D) (ci := 1) (v := .ref ql) (C := RX1) (T := TX1) (N := 7) hx hb hts (fun w h => List.mem_cons_of_mem _ (inG1 w h)) hown hK hP 0 rfl rfl 2 (by decide) (hts _ (List.mem_cons_of_mem _ gw_54)) (fun _ h9 => h9) hf2 dX1_directGap_47 ?_
              refine lv_iload hx hb dX1_directGap_50 (lv_at hl 0 rfl) ?_
              refine lv_iconst (v := 4) hx hb dX1_directGap_52 (by decide) ?_
              refine lv_imul hx hb dX1_directGap_53 ?_
              refine tI (y := nI (i4 * 4)) (pk_mul i4 4) ?_
              refine lv_iload_n hx hb dX1_directGap_54 rfl (lv_at hl 3 rfl) ?_
              refine lv_iadd hx hb dX1_directGap_55 ?_
              refine tI (y := nI ((i4 * 4) + i0)) (nI_add (i4 * 4) i0) ?_
              refine va_iald hx hb hK hP 1 0 rfl rfl (vp_in_nI (n := (i4 * 4) + i0) (N := 96) (by omega) (by omega)) dX1_directGap_56 ?_
              refine tF (fun v_28 => ?_)
              refine lv_isub hx hb dX1_directGap_57 ?_
              refine tF (fun v_29 => ?_)
              refine va_mmin hx hb (by rw [hml]; exact hl.1.symm) hown (hts _ (List.mem_cons_of_mem _ gw_56)) (hts _ (List.mem_cons_of_mem _ gw_57)) (hts _ (List.mem_cons_of_mem _ gw_58)) (hts _ (List.mem_cons_of_mem _ gw_59)) (Nat.le_of_ble_eq_true rfl) (Nat.le_of_ble_eq_true rfl) (Nat.le_of_ble_eq_true rfl) (Nat.le_of_ble_eq_true rfl) dX1_directGap_58 ?_
              refine tF (fun v_30 => ?_)
              refine lv_istore_n (lv' := [(3, .int v_30), (4, .int (nI i4)), (0, .ref h0), (1, .int (nI i0)), (2, .int (nI j0))]) hx hb dX1_directGap_61 rfl hl (by decide) rfl (fun ls hl => ?_)
              refine lv_iinc (v := (nI (i4 + 1))) (lv' := [(4, .int (nI (i4 + 1))), (3, .int v_30), (0, .ref h0), (1, .int (nI i0)), (2, .int (nI j0))]) hx hb dX1_directGap_62 hl (k := 1) rfl (nI_1 _) (by decide) rfl (fun ls hl => ?_)
              refine lv_goto (tgt := 27) hx hb dX1_directGap_65 (by decide) ?_
              exact ih27 (i4 + 1) _ _ _ _ (by omega) (by omega) (hP.sub [0, 1, 2] rfl) (hD.sub [0, 1, 2] (by decide) rfl) hS (lv_sub hl [0, 1, 2, 3, 4] rfl)
        exact lp27 (24 + 1) 0 _ _ _ _ (by omega) (by omega) hP hD hS (lv_sub hl [0, 1, 2, 3, 4] rfl)
  · skip
    refine lv_iconst (v := 0) hx hb dX1_directGap_5 (by decide) ?_
    refine lv_goto (tgt := 23) hx hb dX1_directGap_6 (by decide) ?_
    refine lv_istore_n (lv' := [(3, .int 0), (0, .ref h0), (1, .int (nI i0)), (2, .int (nI j0))]) hx hb dX1_directGap_23 rfl hl (by decide) rfl (fun ls hl => ?_)
    refine lv_iconst (v := 0) hx hb dX1_directGap_24 (by decide) ?_
    refine lv_istore (lv' := [(4, .int 0), (3, .int 0), (0, .ref h0), (1, .int (nI i0)), (2, .int (nI j0))]) hx hb dX1_directGap_25 hl (by decide) rfl (fun ls hl => ?_)
    have lp27 : ∀ (n i4 : Nat) (y_31 : Int32) (H : Heap) (locs : List Loc) (ls : Array Slot), i4 ≤ 24 → 24 < i4 + n → va_P D vwCl [(h0, .inr (1, fs)), (ql, .inl (kl, 96, .inl fl)), (qh, .inl (kh, 96, .inl fh))] H → va_D A [(h0, .inr (1, fs)), (ql, .inl (kl, 96, .inl fl)), (qh, .inl (kh, 96, .inl fh))] → va_S A s.heap H locs → lv_has ls 5 [(4, .int (nI i4)), (3, .int y_31), (0, .ref h0), (1, .int (nI i0)), (2, .int (nI j0))] → W p l e ({ frames := 2, cells := 0, slots := 0, locals := 60 } : Room) s m (([.ref h0, .int (nI i0), .int (nI j0)] : List Value).toArray) below meth c H locs 0 0 (MQ below (va_Qi (fun (r : Int32) (u : Unit) => True) (fun (u : Unit) => qw D A [(h0, .inr (1, fs)), (ql, .inl (kl, 96, .inl fl)), (qh, .inl (kh, 96, .inl fh))] []) A) (([.ref h0, .int (nI i0), .int (nI j0)] : List Value).toArray) s 0 0 A) (F0 m 27 ls []) := by
      intro n
      induction n with
      | zero => intro i4 y_31 H locs ls hi hn; exact absurd hn (by omega)
      | succ n ih27 =>
        intro i4 y_31 H locs ls hi_32 hn_33 hP hD hS hl
        refine lv_iload hx hb dX1_directGap_27 (lv_at hl 0 rfl) ?_
        refine lv_bipush (v := 24) hx hb dX1_directGap_29 (by decide) ?_
        refine lv_icmp_ge (tgt := 68) hx hb dX1_directGap_31 (by decide) (fun c_35 => ?_) (fun c_35 => ?_)
        · skip
          have hc_35 := ge_of (i := i4) 24 c_35 rfl (by omega) (by omega)
          refine lv_iload_n hx hb dX1_directGap_68 rfl (lv_at hl 1 rfl) ?_
          have hP9 := hP.sub (ws' := [(h0, .inr (1, fs)), (ql, .inl (kl, 96, .inl fl)), (qh, .inl (kh, 96, .inl fh))]) [0, 1, 2] rfl
          have hD9 := hD.sub (ws' := [(h0, .inr (1, fs)), (ql, .inl (kl, 96, .inl fl)), (qh, .inl (kh, 96, .inl fh))]) [0, 1, 2] (by decide) rfl
          have hK9 := hK.sub (tys' := []) [] rfl
          refine W.widen (k := 0) (n := 0) (Nat.le_of_ble_eq_true rfl) (Nat.le_of_ble_eq_true rfl) ?_
          exact W.iret (v := y_31) hx hb hr (fun t ht hW => ⟨⟨y_31, (), rfl, (by first | trivial | rfl), by rw [ht]; exact hP9, va_K.moved hW.alike hK9, hD9⟩, hS.F ht⟩) hS.2.2 dX1_directGap_69
        · skip
          have hc_35 := lt_of (i := i4) 24 c_35 rfl (by omega)
          refine lv_iload_n hx hb dX1_directGap_34 rfl (lv_at hl 1 rfl) ?_
          refine lv_aload_n hx hb dX1_directGap_35 rfl (lv_at hl 2 rfl) ?_
          refine va_get (D := D) (ci := 1) (v := .ref qh) (C := RX1) (T := TX1) (N := 7) hx hb hts (fun w h => List.mem_cons_of_mem _ (inG1 w h)) hown hK hP 0 rfl rfl 3 (by decide) (hts _ (List.mem_cons_of_mem _ gw_55)) (fun _ h9 => h9) hf3 dX1_directGap_36 ?_
          refine lv_iload hx hb dX1_directGap_39 (lv_at hl 0 rfl) ?_
          refine lv_iconst (v := 4) hx hb dX1_directGap_41 (by decide) ?_
          refine lv_imul hx hb dX1_directGap_42 ?_
          refine tI (y := nI (i4 * 4)) (pk_mul i4 4) ?_
          refine lv_iload_n hx hb dX1_directGap_43 rfl (lv_at hl 4 rfl) ?_
          refine lv_iadd hx hb dX1_directGap_44 ?_
          refine tI (y := nI ((i4 * 4) + j0)) (nI_add (i4 * 4) j0) ?_
          refine va_iald hx hb hK hP 2 1 rfl rfl (vp_in_nI (n := (i4 * 4) + j0) (N := 96) (by omega) (by omega)) dX1_directGap_45 ?_
          refine tF (fun v_36 => ?_)
          refine lv_aload_n hx hb dX1_directGap_46 rfl (lv_at hl 2 rfl) ?_
          refine va_get (D := D) (ci := 1) (v := .ref ql) (C := RX1) (T := TX1) (N := 7) hx hb hts (fun w h => List.mem_cons_of_mem _ (inG1 w h)) hown hK hP 0 rfl rfl 2 (by decide) (hts _ (List.mem_cons_of_mem _ gw_54)) (fun _ h9 => h9) hf2 dX1_directGap_47 ?_
          refine lv_iload hx hb dX1_directGap_50 (lv_at hl 0 rfl) ?_
          refine lv_iconst (v := 4) hx hb dX1_directGap_52 (by decide) ?_
          refine lv_imul hx hb dX1_directGap_53 ?_
          refine tI (y := nI (i4 * 4)) (pk_mul i4 4) ?_
          refine lv_iload_n hx hb dX1_directGap_54 rfl (lv_at hl 3 rfl) ?_
          refine lv_iadd hx hb dX1_directGap_55 ?_
          refine tI (y := nI ((i4 * 4) + i0)) (nI_add (i4 * 4) i0) ?_
          refine va_iald hx hb hK hP 1 0 rfl rfl (vp_in_nI (n := (i4 * 4) + i0) (N := 96) (by omega) (by omega)) dX1_directGap_56 ?_
          refine tF (fun v_37 => ?_)
          refine lv_isub hx hb dX1_directGap_57 ?_
          refine tF (fun v_38 => ?_)
          refine va_mmin hx hb (by rw [hml]; exact hl.1.symm) hown (hts _ (List.mem_cons_of_mem _ gw_56)) (hts _ (List.mem_cons_of_mem _ gw_57)) (hts _ (List.mem_cons_of_mem _ gw_58)) (hts _ (List.mem_cons_of_mem _ gw_59)) (Nat.le_of_ble_eq_true rfl) (Nat.le_of_ble_eq_true rfl) (Nat.le_of_ble_eq_true rfl) (Nat.le_of_ble_eq_true rfl) dX1_directGap_58 ?_
          refine tF (fun v_39 => ?_)
          refine lv_istore_n (lv' := [(3, .int v_39), (4, .int (nI i4)), (0, .ref h0), (1, .int (nI i0)), (2, .int (nI j0))]) hx hb dX1_directGap_61 rfl hl (by decide) rfl (fun ls hl => ?_)
          refine lv_iinc (v := (nI (i4 + 1))) (lv' := [(4, .int (nI (i4 + 1))), (3, .int v_39), (0, .ref h0), (1, .int (nI i0)), (2, .int (nI j0))]) hx hb dX1_directGap_62 hl (k := 1) rfl (nI_1 _) (by decide) rfl (fun ls hl => ?_)
          refine lv_goto (tgt := 27) hx hb dX1_directGap_65 (by decide) ?_
          exact ih27 (i4 + 1) _ _ _ _ (by omega) (by omega) (hP.sub [0, 1, 2] rfl) (hD.sub [0, 1, 2] (by decide) rfl) hS (lv_sub hl [0, 1, 2, 3, 4] rfl)
    exact lp27 (24 + 1) 0 _ _ _ _ (by omega) (by omega) hP hD hS (lv_sub hl [0, 1, 2, 3, 4] rfl)
set_option maxHeartbeats 4000000 in
set_option maxRecDepth 100000 in
theorem c_X1_closeGaps (l : Launch) (D : va_G) (sz : Nat) (h0 : Nat) (fs : List Value) (ql : Nat) (qh : Nat) (qp : Nat) (kl : ClassId) (kh : ClassId) (kp : ClassId) (fl : Nat → Int32) (fh : Nat → Int32) (fp : Nat → Int32) (hf2 : fs[2]? = some (.ref ql)) (hf3 : fs[3]? = some (.ref qh)) (hf6 : fs[6]? = some (.ref qp)) : Met l yX1_closeGaps (.code yX1_closeGaps cX1_closeGaps 5 none :: G) ({ frames := 4, cells := 0, slots := 0, locals := 90 }) (va_Pc [.ref h0] (pw D sz [(h0, .inr (1, fs)), (ql, .inl (kl, 96, .inl fl)), (qh, .inl (kh, 96, .inl fh)), (qp, .inl (kp, 16, .inl fp))] [(kl, .int), (kh, .int), (kp, .int)])) (va_Qv (fun (u : (Nat → Int32) × (Nat → Int32) × (Nat → Int32)) => True) (fun (u : (Nat → Int32) × (Nat → Int32) × (Nat → Int32)) => qw D (va_A [(h0, .inr (1, fs)), (ql, .inl (kl, 96, .inl fl)), (qh, .inl (kh, 96, .inl fh)), (qp, .inl (kp, 16, .inl fp))] sz) [(h0, .inr (1, fs)), (ql, .inl (kl, 96, .inl u.1)), (qh, .inl (kh, 96, .inl u.2.1)), (qp, .inl (kp, 16, .inl u.2.2))] []) (va_A [(h0, .inr (1, fs)), (ql, .inl (kl, 96, .inl fl)), (qh, .inl (kh, 96, .inl fh)), (qp, .inl (kp, 16, .inl fp))] sz)) 0 0 (va_A [(h0, .inr (1, fs)), (ql, .inl (kl, 96, .inl fl)), (qh, .inl (kh, 96, .inl fh)), (qp, .inl (kp, 16, .inl fp))] sz) := by
  refine Met.ofW (cc := cX1_closeGaps) (maxL := 5) (ret := none) (by decide) rfl ?_
  intro p e s m args below meth c s₁ B hml hv
  obtain ⟨rfl, hsz, hP, hK, hD0, hN⟩ := hv
  have hx := B.exec
  have hb := B.bytes
  have hr := B.returns
  have hts := atoms_spec (ws := (.code yX1_closeGaps cX1_closeGaps 5 none :: G)) B.pre
  have hown : s.vm.findClass RX1 = some m.cls := findClass_of_methodNamed B.named
  have hlocks := B.notSynchronized
  subst hsz
  have hD := hD0.self (sz := s.heap.size)
  generalize hAe : va_A [(h0, .inr (1, fs)), (ql, .inl (kl, 96, .inl fl)), (qh, .inl (kh, 96, .inl fh)), (qp, .inl (kp, 16, .inl fp))] s.heap.size = A at hD ⊢
  have hA : ∀ q : Nat, s.heap.size ≤ q → A q := fun q h => by rw [← hAe]; exact Or.inr h
  have hS : va_S A s.heap s.heap [] := va_S.rf
  have hP : va_P D vwCl [(h0, .inr (1, fs)), (ql, .inl (kl, 96, .inl fl)), (qh, .inl (kh, 96, .inl fh)), (qp, .inl (kp, 16, .inl fp))] s.heap := hP
  have hl := lv_entry ([.ref h0]) (n := 5) (Nat.le_of_ble_eq_true rfl)
  rw [lg_entry_eq]
  generalize (lg_sl ([.ref h0]) ++ List.replicate (5 - (lg_sl ([.ref h0])).length) Slot.unset).toArray = ls at hl ⊢
  have hl : lv_has ls 5 [(0, .ref h0)] := hl
  refine lv_iconst (v := 0) hx hb dX1_closeGaps_0 (by decide) ?_
  refine lv_istore_n (lv' := [(1, .int 0), (0, .ref h0)]) hx hb dX1_closeGaps_1 rfl hl (by decide) rfl (fun ls hl => ?_)
  have lp2 : ∀ (n i1 : Nat) (f_1 : Nat → Int32) (f_2 : Nat → Int32) (f_3 : Nat → Int32) (H : Heap) (locs : List Loc) (ls : Array Slot), i1 ≤ 4 → 4 < i1 + n → va_P D vwCl [(h0, .inr (1, fs)), (ql, .inl (kl, 96, .inl f_1)), (qh, .inl (kh, 96, .inl f_2)), (qp, .inl (kp, 16, .inl f_3))] H → va_D A [(h0, .inr (1, fs)), (ql, .inl (kl, 96, .inl f_1)), (qh, .inl (kh, 96, .inl f_2)), (qp, .inl (kp, 16, .inl f_3))] → va_S A s.heap H locs → lv_has ls 5 [(1, .int (nI i1)), (0, .ref h0)] → W p l e ({ frames := 4, cells := 0, slots := 0, locals := 90 } : Room) s m (([.ref h0] : List Value).toArray) below meth c H locs 0 0 (MQ below (va_Qv (fun (u : (Nat → Int32) × (Nat → Int32) × (Nat → Int32)) => True) (fun (u : (Nat → Int32) × (Nat → Int32) × (Nat → Int32)) => qw D A [(h0, .inr (1, fs)), (ql, .inl (kl, 96, .inl u.1)), (qh, .inl (kh, 96, .inl u.2.1)), (qp, .inl (kp, 16, .inl u.2.2))] []) A) (([.ref h0] : List Value).toArray) s 0 0 A) (F0 m 2 ls []) := by
    intro n
    induction n with
    | zero => intro i1 f_1 f_2 f_3 H locs ls hi hn; exact absurd hn (by omega)
    | succ n ih2 =>
      intro i1 f_1 f_2 f_3 H locs ls hi_4 hn_5 hP hD hS hl
      refine lv_iload_n hx hb dX1_closeGaps_2 rfl (lv_at hl 0 rfl) ?_
      refine lv_iconst (v := 4) hx hb dX1_closeGaps_3 (by decide) ?_
      refine lv_icmp_ge (tgt := 42) hx hb dX1_closeGaps_4 (by decide) (fun c_7 => ?_) (fun c_7 => ?_)
      · skip
        have hc_7 := ge_of (i := i1) 4 c_7 rfl (by omega) (by omega)
        refine lv_iconst (v := 0) hx hb dX1_closeGaps_42 (by decide) ?_
        refine lv_istore_n (lv' := [(1, .int 0), (0, .ref h0)]) hx hb dX1_closeGaps_43 rfl hl (by decide) rfl (fun ls hl => ?_)
        have lp44 : ∀ (n a1 : Nat) (f_8 : Nat → Int32) (f_9 : Nat → Int32) (f_10 : Nat → Int32) (H : Heap) (locs : List Loc) (ls : Array Slot), a1 ≤ 4 → 4 < a1 + n → va_P D vwCl [(h0, .inr (1, fs)), (ql, .inl (kl, 96, .inl f_8)), (qh, .inl (kh, 96, .inl f_9)), (qp, .inl (kp, 16, .inl f_10))] H → va_D A [(h0, .inr (1, fs)), (ql, .inl (kl, 96, .inl f_8)), (qh, .inl (kh, 96, .inl f_9)), (qp, .inl (kp, 16, .inl f_10))] → va_S A s.heap H locs → lv_has ls 5 [(1, .int (nI a1)), (0, .ref h0)] → W p l e ({ frames := 4, cells := 0, slots := 0, locals := 90 } : Room) s m (([.ref h0] : List Value).toArray) below meth c H locs 0 0 (MQ below (va_Qv (fun (u : (Nat → Int32) × (Nat → Int32) × (Nat → Int32)) => True) (fun (u : (Nat → Int32) × (Nat → Int32) × (Nat → Int32)) => qw D A [(h0, .inr (1, fs)), (ql, .inl (kl, 96, .inl u.1)), (qh, .inl (kh, 96, .inl u.2.1)), (qp, .inl (kp, 16, .inl u.2.2))] []) A) (([.ref h0] : List Value).toArray) s 0 0 A) (F0 m 44 ls []) := by
          intro n
          induction n with
          | zero => intro a1 f_8 f_9 f_10 H locs ls hi hn; exact absurd hn (by omega)
          | succ n ih44 =>
            intro a1 f_8 f_9 f_10 H locs ls hi_11 hn_12 hP hD hS hl
            refine lv_iload_n hx hb dX1_closeGaps_44 rfl (lv_at hl 0 rfl) ?_
            refine lv_iconst (v := 4) hx hb dX1_closeGaps_45 (by decide) ?_
            refine lv_icmp_ge (tgt := 126) hx hb dX1_closeGaps_46 (by decide) (fun c_14 => ?_) (fun c_14 => ?_)
            · skip
              have hc_14 := ge_of (i := a1) 4 c_14 rfl (by omega) (by omega)
              have hP9 := hP.sub (ws' := [(h0, .inr (1, fs)), (ql, .inl (kl, 96, .inl f_8)), (qh, .inl (kh, 96, .inl f_9)), (qp, .inl (kp, 16, .inl f_10))]) [0, 1, 2, 3] rfl
              have hD9 := hD.sub (ws' := [(h0, .inr (1, fs)), (ql, .inl (kl, 96, .inl f_8)), (qh, .inl (kh, 96, .inl f_9)), (qp, .inl (kp, 16, .inl f_10))]) [0, 1, 2, 3] (by decide) rfl
              have hK9 := hK.sub (tys' := []) [] rfl
              refine W.widen (k := 0) (n := 0) (Nat.le_of_ble_eq_true rfl) (Nat.le_of_ble_eq_true rfl) ?_
              exact W.vret hx hb hr (fun t ht hW => ⟨⟨(f_8, f_9, f_10), rfl, (by first | trivial | rfl), by rw [ht]; exact hP9, va_K.moved hW.alike hK9, hD9⟩, hS.F ht⟩) hS.2.2 dX1_closeGaps_126
            · skip
              have hc_14 := lt_of (i := a1) 4 c_14 rfl (by omega)
              refine lv_iconst (v := 0) hx hb dX1_closeGaps_49 (by decide) ?_
              refine lv_istore_n (lv' := [(2, .int 0), (1, .int (nI a1)), (0, .ref h0)]) hx hb dX1_closeGaps_50 rfl hl (by decide) rfl (fun ls hl => ?_)
              have lp51 : ∀ (n a2 : Nat) (f_15 : Nat → Int32) (f_16 : Nat → Int32) (f_17 : Nat → Int32) (H : Heap) (locs : List Loc) (ls : Array Slot), a2 ≤ 4 → 4 < a2 + n → va_P D vwCl [(h0, .inr (1, fs)), (ql, .inl (kl, 96, .inl f_15)), (qh, .inl (kh, 96, .inl f_16)), (qp, .inl (kp, 16, .inl f_17))] H → va_D A [(h0, .inr (1, fs)), (ql, .inl (kl, 96, .inl f_15)), (qh, .inl (kh, 96, .inl f_16)), (qp, .inl (kp, 16, .inl f_17))] → va_S A s.heap H locs → lv_has ls 5 [(2, .int (nI a2)), (1, .int (nI a1)), (0, .ref h0)] → W p l e ({ frames := 4, cells := 0, slots := 0, locals := 90 } : Room) s m (([.ref h0] : List Value).toArray) below meth c H locs 0 0 (MQ below (va_Qv (fun (u : (Nat → Int32) × (Nat → Int32) × (Nat → Int32)) => True) (fun (u : (Nat → Int32) × (Nat → Int32) × (Nat → Int32)) => qw D A [(h0, .inr (1, fs)), (ql, .inl (kl, 96, .inl u.1)), (qh, .inl (kh, 96, .inl u.2.1)), (qp, .inl (kp, 16, .inl u.2.2))] []) A) (([.ref h0] : List Value).toArray) s 0 0 A) (F0 m 51 ls []) := by
                intro n
                induction n with
                | zero => intro a2 f_15 f_16 f_17 H locs ls hi hn; exact absurd hn (by omega)
                | succ n ih51 =>
                  intro a2 f_15 f_16 f_17 H locs ls hi_18 hn_19 hP hD hS hl
                  refine lv_iload_n hx hb dX1_closeGaps_51 rfl (lv_at hl 0 rfl) ?_
                  refine lv_iconst (v := 4) hx hb dX1_closeGaps_52 (by decide) ?_
                  refine lv_icmp_ge (tgt := 120) hx hb dX1_closeGaps_53 (by decide) (fun c_21 => ?_) (fun c_21 => ?_)
                  · skip
                    have hc_21 := ge_of (i := a2) 4 c_21 rfl (by omega) (by omega)
                    refine lv_iinc (v := (nI (a1 + 1))) (lv' := [(1, .int (nI (a1 + 1))), (2, .int (nI a2)), (0, .ref h0)]) hx hb dX1_closeGaps_120 hl (k := 1) rfl (nI_1 _) (by decide) rfl (fun ls hl => ?_)
                    refine lv_goto (tgt := 44) hx hb dX1_closeGaps_123 (by decide) ?_
                    exact ih44 (a1 + 1) _ _ _ _ _ _ (by omega) (by omega) (hP.sub [0, 1, 2, 3] rfl) (hD.sub [0, 1, 2, 3] (by decide) rfl) hS (lv_sub hl [0, 2] rfl)
                  · skip
                    have hc_21 := lt_of (i := a2) 4 c_21 rfl (by omega)
                    refine lv_iconst (v := 0) hx hb dX1_closeGaps_56 (by decide) ?_
                    refine lv_istore_n (lv' := [(3, .int 0), (2, .int (nI a2)), (1, .int (nI a1)), (0, .ref h0)]) hx hb dX1_closeGaps_57 rfl hl (by decide) rfl (fun ls hl => ?_)
                    have lp58 : ∀ (n a3 : Nat) (f_22 : Nat → Int32) (f_23 : Nat → Int32) (f_24 : Nat → Int32) (H : Heap) (locs : List Loc) (ls : Array Slot), a3 ≤ 4 → 4 < a3 + n → va_P D vwCl [(h0, .inr (1, fs)), (ql, .inl (kl, 96, .inl f_22)), (qh, .inl (kh, 96, .inl f_23)), (qp, .inl (kp, 16, .inl f_24))] H → va_D A [(h0, .inr (1, fs)), (ql, .inl (kl, 96, .inl f_22)), (qh, .inl (kh, 96, .inl f_23)), (qp, .inl (kp, 16, .inl f_24))] → va_S A s.heap H locs → lv_has ls 5 [(3, .int (nI a3)), (2, .int (nI a2)), (1, .int (nI a1)), (0, .ref h0)] → W p l e ({ frames := 4, cells := 0, slots := 0, locals := 90 } : Room) s m (([.ref h0] : List Value).toArray) below meth c H locs 0 0 (MQ below (va_Qv (fun (u : (Nat → Int32) × (Nat → Int32) × (Nat → Int32)) => True) (fun (u : (Nat → Int32) × (Nat → Int32) × (Nat → Int32)) => qw D A [(h0, .inr (1, fs)), (ql, .inl (kl, 96, .inl u.1)), (qh, .inl (kh, 96, .inl u.2.1)), (qp, .inl (kp, 16, .inl u.2.2))] []) A) (([.ref h0] : List Value).toArray) s 0 0 A) (F0 m 58 ls []) := by
                      intro n
                      induction n with
                      | zero => intro a3 f_22 f_23 f_24 H locs ls hi hn; exact absurd hn (by omega)
                      | succ n ih58 =>
                        intro a3 f_22 f_23 f_24 H locs ls hi_25 hn_26 hP hD hS hl
                        refine lv_iload_n hx hb dX1_closeGaps_58 rfl (lv_at hl 0 rfl) ?_
                        refine lv_iconst (v := 4) hx hb dX1_closeGaps_59 (by decide) ?_
                        refine lv_icmp_ge (tgt := 114) hx hb dX1_closeGaps_60 (by decide) (fun c_28 => ?_) (fun c_28 => ?_)
                        · skip
                          have hc_28 := ge_of (i := a3) 4 c_28 rfl (by omega) (by omega)
                          refine lv_iinc (v := (nI (a2 + 1))) (lv' := [(2, .int (nI (a2 + 1))), (3, .int (nI a3)), (1, .int (nI a1)), (0, .ref h0)]) hx hb dX1_closeGaps_114 hl (k := 1) rfl (nI_1 _) (by decide) rfl (fun ls hl => ?_)
                          refine lv_goto (tgt := 51) hx hb dX1_closeGaps_117 (by decide) ?_
                          exact ih51 (a2 + 1) _ _ _ _ _ _ (by omega) (by omega) (hP.sub [0, 1, 2, 3] rfl) (hD.sub [0, 1, 2, 3] (by decide) rfl) hS (lv_sub hl [0, 2, 3] rfl)
                        · skip
                          have hc_28 := lt_of (i := a3) 4 c_28 rfl (by omega)
                          refine lv_iload_n hx hb dX1_closeGaps_63 rfl (lv_at hl 1 rfl) ?_
                          refine lv_iconst (v := 4) hx hb dX1_closeGaps_64 (by decide) ?_
                          refine lv_imul hx hb dX1_closeGaps_65 ?_
                          refine tI (y := nI (a2 * 4)) (pk_mul a2 4) ?_
                          refine lv_iload_n hx hb dX1_closeGaps_66 rfl (lv_at hl 0 rfl) ?_
                          refine lv_iadd hx hb dX1_closeGaps_67 ?_
                          refine tI (y := nI ((a2 * 4) + a3)) (nI_add (a2 * 4) a3) ?_
                          refine lv_istore (lv' := [(4, .int (nI ((a2 * 4) + a3))), (3, .int (nI a3)), (2, .int (nI a2)), (1, .int (nI a1)), (0, .ref h0)]) hx hb dX1_closeGaps_68 hl (by decide) rfl (fun ls hl => ?_)
                          refine lv_aload_n hx hb dX1_closeGaps_70 rfl (lv_at hl 4 rfl) ?_
                          refine va_get (D := D) (ci := 1) (v := .ref qp) (C := RX1) (T := TX1) (N := 7) hx hb hts (fun w h => List.mem_cons_of_mem _ (inG1 w h)) hown hK hP 0 rfl rfl 6 (by decide) (hts _ (List.mem_cons_of_mem _ gw_60)) (fun _ h9 => h9) hf6 dX1_closeGaps_71 ?_
                          refine lv_iload hx hb dX1_closeGaps_74 (lv_at hl 0 rfl) ?_
                          refine lv_aload_n hx hb dX1_closeGaps_76 rfl (lv_at hl 4 rfl) ?_
                          refine va_get (D := D) (ci := 1) (v := .ref qp) (C := RX1) (T := TX1) (N := 7) hx hb hts (fun w h => List.mem_cons_of_mem _ (inG1 w h)) hown hK hP 0 rfl rfl 6 (by decide) (hts _ (List.mem_cons_of_mem _ gw_60)) (fun _ h9 => h9) hf6 dX1_closeGaps_77 ?_
                          refine lv_iload hx hb dX1_closeGaps_80 (lv_at hl 0 rfl) ?_
                          refine va_iald hx hb hK hP 3 2 rfl rfl (vp_in_nI (n := (a2 * 4) + a3) (N := 16) (by omega) (by omega)) dX1_closeGaps_82 ?_
                          refine tF (fun v_29 => ?_)
                          refine lv_aload_n hx hb dX1_closeGaps_83 rfl (lv_at hl 4 rfl) ?_
                          refine va_get (D := D) (ci := 1) (v := .ref qp) (C := RX1) (T := TX1) (N := 7) hx hb hts (fun w h => List.mem_cons_of_mem _ (inG1 w h)) hown hK hP 0 rfl rfl 6 (by decide) (hts _ (List.mem_cons_of_mem _ gw_60)) (fun _ h9 => h9) hf6 dX1_closeGaps_84 ?_
                          refine lv_iload_n hx hb dX1_closeGaps_87 rfl (lv_at hl 2 rfl) ?_
                          refine lv_iconst (v := 4) hx hb dX1_closeGaps_88 (by decide) ?_
                          refine lv_imul hx hb dX1_closeGaps_89 ?_
                          refine tI (y := nI (a2 * 4)) (pk_mul a2 4) ?_
                          refine lv_iload_n hx hb dX1_closeGaps_90 rfl (lv_at hl 3 rfl) ?_
                          refine lv_iadd hx hb dX1_closeGaps_91 ?_
                          refine tI (y := nI ((a2 * 4) + a1)) (nI_add (a2 * 4) a1) ?_
                          refine va_iald hx hb hK hP 3 2 rfl rfl (vp_in_nI (n := (a2 * 4) + a1) (N := 16) (by omega) (by omega)) dX1_closeGaps_92 ?_
                          refine tF (fun v_30 => ?_)
                          refine lv_aload_n hx hb dX1_closeGaps_93 rfl (lv_at hl 4 rfl) ?_
                          refine va_get (D := D) (ci := 1) (v := .ref qp) (C := RX1) (T := TX1) (N := 7) hx hb hts (fun w h => List.mem_cons_of_mem _ (inG1 w h)) hown hK hP 0 rfl rfl 6 (by decide) (hts _ (List.mem_cons_of_mem _ gw_60)) (fun _ h9 => h9) hf6 dX1_closeGaps_94 ?_
                          refine lv_iload_n hx hb dX1_closeGaps_97 rfl (lv_at hl 3 rfl) ?_
                          refine lv_iconst (v := 4) hx hb dX1_closeGaps_98 (by decide) ?_
                          refine lv_imul hx hb dX1_closeGaps_99 ?_
                          refine tI (y := nI (a1 * 4)) (pk_mul a1 4) ?_
                          refine lv_iload_n hx hb dX1_closeGaps_100 rfl (lv_at hl 1 rfl) ?_
                          refine lv_iadd hx hb dX1_closeGaps_101 ?_
                          refine tI (y := nI ((a1 * 4) + a3)) (nI_add (a1 * 4) a3) ?_
                          refine va_iald hx hb hK hP 3 2 rfl rfl (vp_in_nI (n := (a1 * 4) + a3) (N := 16) (by omega) (by omega)) dX1_closeGaps_102 ?_
                          refine tF (fun v_31 => ?_)
                          refine lv_iadd hx hb dX1_closeGaps_103 ?_
                          refine tF (fun v_32 => ?_)
                          refine va_mmin hx hb (by rw [hml]; exact hl.1.symm) hown (hts _ (List.mem_cons_of_mem _ gw_56)) (hts _ (List.mem_cons_of_mem _ gw_57)) (hts _ (List.mem_cons_of_mem _ gw_58)) (hts _ (List.mem_cons_of_mem _ gw_59)) (Nat.le_of_ble_eq_true rfl) (Nat.le_of_ble_eq_true rfl) (Nat.le_of_ble_eq_true rfl) (Nat.le_of_ble_eq_true rfl) dX1_closeGaps_104 ?_
                          refine tF (fun v_33 => ?_)
                          refine va_iast hx hb hK hP hD hS 3 2 rfl rfl (vp_in_nI (n := (a2 * 4) + a3) (N := 16) (by omega) (by omega)) dX1_closeGaps_107 (fun H locs hP hD hS => ?_)
                          obtain ⟨f_34, hP, hD⟩ : ∃ f : Nat → Int32, va_P D vwCl [(h0, .inr (1, fs)), (ql, .inl (kl, 96, .inl f_22)), (qh, .inl (kh, 96, .inl f_23)), (qp, .inl (kp, 16, .inl f))] H ∧ va_D A [(h0, .inr (1, fs)), (ql, .inl (kl, 96, .inl f_22)), (qh, .inl (kh, 96, .inl f_23)), (qp, .inl (kp, 16, .inl f))] := ⟨_, hP, hD⟩
                          refine lv_iinc (v := (nI (a3 + 1))) (lv' := [(3, .int (nI (a3 + 1))), (4, .int (nI ((a2 * 4) + a3))), (2, .int (nI a2)), (1, .int (nI a1)), (0, .ref h0)]) hx hb dX1_closeGaps_108 hl (k := 1) rfl (nI_1 _) (by decide) rfl (fun ls hl => ?_)
                          refine lv_goto (tgt := 58) hx hb dX1_closeGaps_111 (by decide) ?_
                          exact ih58 (a3 + 1) _ _ _ _ _ _ (by omega) (by omega) (hP.sub [0, 1, 2, 3] rfl) (hD.sub [0, 1, 2, 3] (by decide) rfl) hS (lv_sub hl [0, 2, 3, 4] rfl)
                    exact lp58 (4 + 1) 0 _ _ _ _ _ _ (by omega) (by omega) hP hD hS (lv_sub hl [0, 1, 2, 3] rfl)
              exact lp51 (4 + 1) 0 _ _ _ _ _ _ (by omega) (by omega) hP hD hS (lv_sub hl [0, 1, 2] rfl)
        exact lp44 (4 + 1) 0 _ _ _ _ _ _ (by omega) (by omega) hP hD hS (lv_sub hl [0, 1] rfl)
      · skip
        have hc_7 := lt_of (i := i1) 4 c_7 rfl (by omega)
        refine lv_iconst (v := 0) hx hb dX1_closeGaps_7 (by decide) ?_
        refine lv_istore_n (lv' := [(2, .int 0), (1, .int (nI i1)), (0, .ref h0)]) hx hb dX1_closeGaps_8 rfl hl (by decide) rfl (fun ls hl => ?_)
        have lp9 : ∀ (n i2 : Nat) (f_35 : Nat → Int32) (f_36 : Nat → Int32) (f_37 : Nat → Int32) (H : Heap) (locs : List Loc) (ls : Array Slot), i2 ≤ 4 → 4 < i2 + n → va_P D vwCl [(h0, .inr (1, fs)), (ql, .inl (kl, 96, .inl f_35)), (qh, .inl (kh, 96, .inl f_36)), (qp, .inl (kp, 16, .inl f_37))] H → va_D A [(h0, .inr (1, fs)), (ql, .inl (kl, 96, .inl f_35)), (qh, .inl (kh, 96, .inl f_36)), (qp, .inl (kp, 16, .inl f_37))] → va_S A s.heap H locs → lv_has ls 5 [(2, .int (nI i2)), (1, .int (nI i1)), (0, .ref h0)] → W p l e ({ frames := 4, cells := 0, slots := 0, locals := 90 } : Room) s m (([.ref h0] : List Value).toArray) below meth c H locs 0 0 (MQ below (va_Qv (fun (u : (Nat → Int32) × (Nat → Int32) × (Nat → Int32)) => True) (fun (u : (Nat → Int32) × (Nat → Int32) × (Nat → Int32)) => qw D A [(h0, .inr (1, fs)), (ql, .inl (kl, 96, .inl u.1)), (qh, .inl (kh, 96, .inl u.2.1)), (qp, .inl (kp, 16, .inl u.2.2))] []) A) (([.ref h0] : List Value).toArray) s 0 0 A) (F0 m 9 ls []) := by
          intro n
          induction n with
          | zero => intro i2 f_35 f_36 f_37 H locs ls hi hn; exact absurd hn (by omega)
          | succ n ih9 =>
            intro i2 f_35 f_36 f_37 H locs ls hi_38 hn_39 hP hD hS hl
            refine lv_iload_n hx hb dX1_closeGaps_9 rfl (lv_at hl 0 rfl) ?_
            refine lv_iconst (v := 4) hx hb dX1_closeGaps_10 (by decide) ?_
            refine lv_icmp_ge (tgt := 36) hx hb dX1_closeGaps_11 (by decide) (fun c_41 => ?_) (fun c_41 => ?_)
            · skip
              have hc_41 := ge_of (i := i2) 4 c_41 rfl (by omega) (by omega)
              refine lv_iinc (v := (nI (i1 + 1))) (lv' := [(1, .int (nI (i1 + 1))), (2, .int (nI i2)), (0, .ref h0)]) hx hb dX1_closeGaps_36 hl (k := 1) rfl (nI_1 _) (by decide) rfl (fun ls hl => ?_)
              refine lv_goto (tgt := 2) hx hb dX1_closeGaps_39 (by decide) ?_
              exact ih2 (i1 + 1) _ _ _ _ _ _ (by omega) (by omega) (hP.sub [0, 1, 2, 3] rfl) (hD.sub [0, 1, 2, 3] (by decide) rfl) hS (lv_sub hl [0, 2] rfl)
            · skip
              have hc_41 := lt_of (i := i2) 4 c_41 rfl (by omega)
              refine lv_aload_n hx hb dX1_closeGaps_14 rfl (lv_at hl 2 rfl) ?_
              refine va_get (D := D) (ci := 1) (v := .ref qp) (C := RX1) (T := TX1) (N := 7) hx hb hts (fun w h => List.mem_cons_of_mem _ (inG1 w h)) hown hK hP 0 rfl rfl 6 (by decide) (hts _ (List.mem_cons_of_mem _ gw_60)) (fun _ h9 => h9) hf6 dX1_closeGaps_15 ?_
              refine lv_iload_n hx hb dX1_closeGaps_18 rfl (lv_at hl 1 rfl) ?_
              refine lv_iconst (v := 4) hx hb dX1_closeGaps_19 (by decide) ?_
              refine lv_imul hx hb dX1_closeGaps_20 ?_
              refine tI (y := nI (i1 * 4)) (pk_mul i1 4) ?_
              refine lv_iload_n hx hb dX1_closeGaps_21 rfl (lv_at hl 0 rfl) ?_
              refine lv_iadd hx hb dX1_closeGaps_22 ?_
              refine tI (y := nI ((i1 * 4) + i2)) (nI_add (i1 * 4) i2) ?_
              refine lv_aload_n hx hb dX1_closeGaps_23 rfl (lv_at hl 2 rfl) ?_
              refine lv_iload_n hx hb dX1_closeGaps_24 rfl (lv_at hl 1 rfl) ?_
              refine lv_iload_n hx hb dX1_closeGaps_25 rfl (lv_at hl 0 rfl) ?_
              refine fr_i (wr := [(qp, .inl (kp, 16, .inl f_37))]) (va_runV (As := [.int (nI i1), .int (nI i2)]) (rest := [.int (nI ((i1 * 4) + i2)), .ref qp]) ⟨hx, hb, hml, hown, hts⟩ (c_X1_directGap l D H.size h0 i1 i2 fs ql qh kl kh f_35 f_36 hf2 hf3 (by omega) (by omega)) (cwV 2 hts (gV (fun w h => List.mem_cons_of_mem _ h) gw_62 gw_63 gw_64 gw_65 gw_61) rfl rfl rfl (by decide +kernel) ⟨Nat.le_of_ble_eq_true rfl, Nat.le_of_ble_eq_true rfl⟩) (pw_V [0, 1, 2] [0, 1] hP hD hK hN rfl rfl (by decide) rfl (ci := 1) (q0 := 0) rfl rfl) rfl rfl hl.1 rfl (lv_room (Nat.le_of_ble_eq_true rfl)) dX1_closeGaps_26 ⟨Nat.le_of_ble_eq_true rfl, Nat.le_of_ble_eq_true rfl⟩) hP hD hK hS hA [0, 1, 2] [3] rfl rfl (by decide) (by decide) (fun r_43 u_42 H locs hw_44 hP hD hK hS => ?_)
              try dsimp only at hw_44
              have hP : va_P D vwCl [(qp, .inl (kp, 16, .inl f_37)), (h0, .inr (1, fs)), (ql, .inl (kl, 96, .inl f_35)), (qh, .inl (kh, 96, .inl f_36))] H := hP
              have hD : va_D A [(qp, .inl (kp, 16, .inl f_37)), (h0, .inr (1, fs)), (ql, .inl (kl, 96, .inl f_35)), (qh, .inl (kh, 96, .inl f_36))] := hD
              have hK : va_K D vwCl [(kl, .int), (kh, .int), (kp, .int)] s := hK
              refine W.widen (k := 0) (n := 0) (Nat.le_of_ble_eq_true rfl) (Nat.le_of_ble_eq_true rfl) ?_
              refine va_iast hx hb hK hP hD hS 0 2 rfl rfl (vp_in_nI (n := (i1 * 4) + i2) (N := 16) (by omega) (by omega)) dX1_closeGaps_29 (fun H locs hP hD hS => ?_)
              obtain ⟨f_45, hP, hD⟩ : ∃ f : Nat → Int32, va_P D vwCl [(qp, .inl (kp, 16, .inl f)), (h0, .inr (1, fs)), (ql, .inl (kl, 96, .inl f_35)), (qh, .inl (kh, 96, .inl f_36))] H ∧ va_D A [(qp, .inl (kp, 16, .inl f)), (h0, .inr (1, fs)), (ql, .inl (kl, 96, .inl f_35)), (qh, .inl (kh, 96, .inl f_36))] := ⟨_, hP, hD⟩
              refine lv_iinc (v := (nI (i2 + 1))) (lv' := [(2, .int (nI (i2 + 1))), (1, .int (nI i1)), (0, .ref h0)]) hx hb dX1_closeGaps_30 hl (k := 0) rfl (nI_1 _) (by decide) rfl (fun ls hl => ?_)
              refine lv_goto (tgt := 9) hx hb dX1_closeGaps_33 (by decide) ?_
              exact ih9 (i2 + 1) _ _ _ _ _ _ (by omega) (by omega) (hP.sub [1, 2, 3, 0] rfl) (hD.sub [1, 2, 3, 0] (by decide) rfl) hS (lv_sub hl [0, 1, 2] rfl)
        exact lp9 (4 + 1) 0 _ _ _ _ _ _ (by omega) (by omega) hP hD hS (lv_sub hl [0, 1, 2] rfl)
  exact lp2 (4 + 1) 0 _ _ _ _ _ _ (by omega) (by omega) hP hD hS (lv_sub hl [0, 1] rfl)
