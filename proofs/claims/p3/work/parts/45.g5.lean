/-- the walk over text t: where it ends, whether it is of orders -/
def eS (f : Nat → Int32) (a : Nat → Nat → Int32) (t : Nat) (ob : Bool) : Prop := t < 7 ∧ (f 23).toInt = 400 * (t : Int) + (a 2 (107 + t)).toInt ∧ f 25 = (if ob = true then 1 else 0) ∧ 0 ≤ (a 2 (107 + t)).toInt ∧ (a 2 (107 + t)).toInt ≤ 400
theorem eS_fE {L : List Nat} {f f1 : Nat → Int32} {a : Nat → Nat → Int32} {t : Nat} {ob : Bool} (h : fE L f f1) (q : eS f a t ob) (n1 : L.contains 23 = false) (n2 : L.contains 25 = false) : eS f1 a t ob := ⟨q.1, by rw [h 23 n1]; exact q.2.1, by rw [h 25 n2]; exact q.2.2.1, q.2.2.2⟩
theorem mC_in {k : Nat → Int32} {t i : Nat} {x : Int32} (h : (i : Int) < (k (107 + t)).toInt) (e : x.toInt = 114 + (400 * (t : Int) + (i : Int))) : k x.toNatClampNeg = mC k t i := by
  unfold mC
  rw [if_pos h]
  have : x.toNatClampNeg = 114 + 400 * t + i := by unfold Int32.toNatClampNeg; omega
  rw [this]
theorem mC_out {k : Nat → Int32} {t i : Nat} (h : ¬ (i : Int) < (k (107 + t)).toInt) : 0 = mC k t i := by
  unfold mC
  rw [if_neg h]
theorem mC_lt {f : Nat → Int32} {a : Nat → Nat → Int32} {t i : Nat} {ob : Bool} (hS : eS f a t ob) (h : ¬ mC (a 2) t i = 0) : i < 400 := by
  unfold mC at h
  by_cases q : (i : Int) < (a 2 (107 + t)).toInt
  · have := hS.2.2.2.2; omega
  · rw [if_neg q] at h; exact absurd rfl h
theorem kb_go {f : Nat → Int32} {a : Nat → Nat → Int32} {t i : Nat} {ob : Bool} {x : Int32} (hS : eS f a t ob) (h : i < 400) (e : x.toInt = 400 * (t : Int) + (i : Int)) : kb 0 x 2799 := by
  have := hS.1; unfold kb; omega
theorem kb_go1 {f : Nat → Int32} {a : Nat → Nat → Int32} {t i : Nat} {ob : Bool} {x : Int32} (hS : eS f a t ob) (h : i ≤ 401) (e : x.toInt = 400 * (t : Int) + (i : Int)) : kb 0 x 2801 := by
  have := hS.1; unfold kb; omega
theorem ne_0 {x : Int32} {c : Int32} (e : x = c) (h : ¬ c = 0) : ¬ x = 0 := by rw [e]; exact h
theorem pass_y {v x : Int32} {c : Int32} {P Q : Prop} (h : (v = 1 ∧ c = x ∧ P) ∨ (v = 0 ∧ ¬ c = x ∧ Q)) (q : c = x) : v = 1 ∧ P := by
  rcases h with h | h
  · exact ⟨h.1, h.2.2⟩
  · exact absurd q h.2.1
theorem pass_n {v x : Int32} {c : Int32} {P Q : Prop} (h : (v = 1 ∧ c = x ∧ P) ∨ (v = 0 ∧ ¬ c = x ∧ Q)) (q : ¬ c = x) : v = 0 ∧ Q := by
  rcases h with h | h
  · exact absurd h.2.1 q
  · exact ⟨h.1, h.2.2⟩
theorem dX12_codeAt_0 : decode cX12_codeAt 0 = .ok (.iload_n 1, 1) := by decide +kernel
theorem dX12_codeAt_1 : decode cX12_codeAt 1 = .ok (.aload_n 0, 1) := by decide +kernel
theorem dX12_codeAt_2 : decode cX12_codeAt 2 = .ok (.getfield 242, 3) := by decide +kernel
theorem dX12_codeAt_5 : decode cX12_codeAt 5 = .ok (.if_icmp .ge 15, 3) := by decide +kernel
theorem dX12_codeAt_8 : decode cX12_codeAt 8 = .ok (.aload_n 0, 1) := by decide +kernel
theorem dX12_codeAt_9 : decode cX12_codeAt 9 = .ok (.getfield 24, 3) := by decide +kernel
theorem dX12_codeAt_12 : decode cX12_codeAt 12 = .ok (.bipush 114, 2) := by decide +kernel
theorem dX12_codeAt_14 : decode cX12_codeAt 14 = .ok (.iload_n 1, 1) := by decide +kernel
theorem dX12_codeAt_15 : decode cX12_codeAt 15 = .ok (.iadd, 1) := by decide +kernel
theorem dX12_codeAt_16 : decode cX12_codeAt 16 = .ok (.iaload, 1) := by decide +kernel
theorem dX12_codeAt_17 : decode cX12_codeAt 17 = .ok (.goto 4, 3) := by decide +kernel
theorem dX12_codeAt_20 : decode cX12_codeAt 20 = .ok (.iconst 0, 1) := by decide +kernel
theorem dX12_codeAt_21 : decode cX12_codeAt 21 = .ok (.ireturn, 1) := by decide +kernel
theorem dX12_passes0_0 : decode cX12_passes0 0 = .ok (.aload_n 0, 1) := by decide +kernel
theorem dX12_passes0_1 : decode cX12_passes0 1 = .ok (.aload_n 0, 1) := by decide +kernel
theorem dX12_passes0_2 : decode cX12_passes0 2 = .ok (.getfield 245, 3) := by decide +kernel
theorem dX12_passes0_5 : decode cX12_passes0 5 = .ok (.invokevirtual 248, 3) := by decide +kernel
theorem dX12_passes0_8 : decode cX12_passes0 8 = .ok (.iload_n 1, 1) := by decide +kernel
theorem dX12_passes0_9 : decode cX12_passes0 9 = .ok (.if_icmp .ne 7, 3) := by decide +kernel
theorem dX12_passes0_12 : decode cX12_passes0 12 = .ok (.iconst 1, 1) := by decide +kernel
theorem dX12_passes0_13 : decode cX12_passes0 13 = .ok (.goto 4, 3) := by decide +kernel
theorem dX12_passes0_16 : decode cX12_passes0 16 = .ok (.iconst 0, 1) := by decide +kernel
theorem dX12_passes0_17 : decode cX12_passes0 17 = .ok (.istore_n 2, 1) := by decide +kernel
theorem dX12_passes0_18 : decode cX12_passes0 18 = .ok (.iload_n 2, 1) := by decide +kernel
theorem dX12_passes0_19 : decode cX12_passes0 19 = .ok (.ifCond .eq 13, 3) := by decide +kernel
theorem dX12_passes0_22 : decode cX12_passes0 22 = .ok (.aload_n 0, 1) := by decide +kernel
theorem dX12_passes0_23 : decode cX12_passes0 23 = .ok (.dup, 1) := by decide +kernel
theorem dX12_passes0_24 : decode cX12_passes0 24 = .ok (.getfield 245, 3) := by decide +kernel
theorem dX12_passes0_27 : decode cX12_passes0 27 = .ok (.iconst 1, 1) := by decide +kernel
theorem dX12_passes0_28 : decode cX12_passes0 28 = .ok (.iadd, 1) := by decide +kernel
theorem dX12_passes0_29 : decode cX12_passes0 29 = .ok (.putfield 245, 3) := by decide +kernel
theorem dX12_passes0_32 : decode cX12_passes0 32 = .ok (.iload_n 2, 1) := by decide +kernel
theorem dX12_passes0_33 : decode cX12_passes0 33 = .ok (.ireturn, 1) := by decide +kernel
theorem dX12_bounded_0 : decode cX12_bounded 0 = .ok (.iload_n 3, 1) := by decide +kernel
theorem dX12_bounded_1 : decode cX12_bounded 1 = .ok (.ifCond .eq 24, 3) := by decide +kernel
theorem dX12_bounded_4 : decode cX12_bounded 4 = .ok (.lload_n 1, 1) := by decide +kernel
theorem dX12_bounded_5 : decode cX12_bounded 5 = .ok (.ldc2_w 251, 3) := by decide +kernel
theorem dX12_bounded_8 : decode cX12_bounded 8 = .ok (.lcmp, 1) := by decide +kernel
theorem dX12_bounded_9 : decode cX12_bounded 9 = .ok (.ifCond .gt 11, 3) := by decide +kernel
theorem dX12_bounded_12 : decode cX12_bounded 12 = .ok (.lload_n 1, 1) := by decide +kernel
theorem dX12_bounded_13 : decode cX12_bounded 13 = .ok (.ldc2_w 253, 3) := by decide +kernel
theorem dX12_bounded_16 : decode cX12_bounded 16 = .ok (.lcmp, 1) := by decide +kernel
theorem dX12_bounded_17 : decode cX12_bounded 17 = .ok (.ifCond .ge 8, 3) := by decide +kernel
theorem dX12_bounded_20 : decode cX12_bounded 20 = .ok (.aload_n 0, 1) := by decide +kernel
theorem dX12_bounded_21 : decode cX12_bounded 21 = .ok (.iconst 1, 1) := by decide +kernel
theorem dX12_bounded_22 : decode cX12_bounded 22 = .ok (.putfield 255, 3) := by decide +kernel
theorem dX12_bounded_25 : decode cX12_bounded 25 = .ok (.aload_n 0, 1) := by decide +kernel
theorem dX12_bounded_26 : decode cX12_bounded 26 = .ok (.getfield 255, 3) := by decide +kernel
theorem dX12_bounded_29 : decode cX12_bounded 29 = .ok (.ifCond .eq 7, 3) := by decide +kernel
theorem dX12_bounded_32 : decode cX12_bounded 32 = .ok (.lconst 0, 1) := by decide +kernel
theorem dX12_bounded_33 : decode cX12_bounded 33 = .ok (.goto 4, 3) := by decide +kernel
theorem dX12_bounded_36 : decode cX12_bounded 36 = .ok (.lload_n 1, 1) := by decide +kernel
theorem dX12_bounded_37 : decode cX12_bounded 37 = .ok (.lreturn, 1) := by decide +kernel
theorem dX12_orderValue_0 : decode cX12_orderValue 0 = .ok (.iload_n 1, 1) := by decide +kernel
theorem dX12_orderValue_1 : decode cX12_orderValue 1 = .ok (.tableswitch 126 16 22 #[43, 64, 108, 116, 121, 126, 86], 43) := by decide +kernel
theorem dX12_orderValue_44 : decode cX12_orderValue 44 = .ok (.aload_n 0, 1) := by decide +kernel
theorem dX12_orderValue_45 : decode cX12_orderValue 45 = .ok (.iload_n 2, 1) := by decide +kernel
theorem dX12_orderValue_46 : decode cX12_orderValue 46 = .ok (.invokevirtual 122, 3) := by decide +kernel
theorem dX12_orderValue_49 : decode cX12_orderValue 49 = .ok (.ifCond .eq 14, 3) := by decide +kernel
theorem dX12_orderValue_52 : decode cX12_orderValue 52 = .ok (.aload_n 0, 1) := by decide +kernel
theorem dX12_orderValue_53 : decode cX12_orderValue 53 = .ok (.getfield 24, 3) := by decide +kernel
theorem dX12_orderValue_56 : decode cX12_orderValue 56 = .ok (.iconst 0, 1) := by decide +kernel
theorem dX12_orderValue_57 : decode cX12_orderValue 57 = .ok (.iload_n 2, 1) := by decide +kernel
theorem dX12_orderValue_58 : decode cX12_orderValue 58 = .ok (.iadd, 1) := by decide +kernel
theorem dX12_orderValue_59 : decode cX12_orderValue 59 = .ok (.iaload, 1) := by decide +kernel
theorem dX12_orderValue_60 : decode cX12_orderValue 60 = .ok (.goto 4, 3) := by decide +kernel
theorem dX12_orderValue_63 : decode cX12_orderValue 63 = .ok (.iconst (-1), 1) := by decide +kernel
theorem dX12_orderValue_64 : decode cX12_orderValue 64 = .ok (.ireturn, 1) := by decide +kernel
theorem dX12_orderValue_65 : decode cX12_orderValue 65 = .ok (.aload_n 0, 1) := by decide +kernel
theorem dX12_orderValue_66 : decode cX12_orderValue 66 = .ok (.iload_n 2, 1) := by decide +kernel
theorem dX12_orderValue_67 : decode cX12_orderValue 67 = .ok (.invokevirtual 131, 3) := by decide +kernel
theorem dX12_orderValue_70 : decode cX12_orderValue 70 = .ok (.ifCond .eq 15, 3) := by decide +kernel
theorem dX12_orderValue_73 : decode cX12_orderValue 73 = .ok (.aload_n 0, 1) := by decide +kernel
theorem dX12_orderValue_74 : decode cX12_orderValue 74 = .ok (.getfield 24, 3) := by decide +kernel
theorem dX12_orderValue_77 : decode cX12_orderValue 77 = .ok (.bipush 10, 2) := by decide +kernel
theorem dX12_orderValue_79 : decode cX12_orderValue 79 = .ok (.iload_n 2, 1) := by decide +kernel
theorem dX12_orderValue_80 : decode cX12_orderValue 80 = .ok (.iadd, 1) := by decide +kernel
theorem dX12_orderValue_81 : decode cX12_orderValue 81 = .ok (.iaload, 1) := by decide +kernel
theorem dX12_orderValue_82 : decode cX12_orderValue 82 = .ok (.goto 4, 3) := by decide +kernel
theorem dX12_orderValue_85 : decode cX12_orderValue 85 = .ok (.iconst (-1), 1) := by decide +kernel
theorem dX12_orderValue_86 : decode cX12_orderValue 86 = .ok (.ireturn, 1) := by decide +kernel
theorem dX12_orderValue_87 : decode cX12_orderValue 87 = .ok (.aload_n 0, 1) := by decide +kernel
theorem dX12_orderValue_88 : decode cX12_orderValue 88 = .ok (.iload_n 2, 1) := by decide +kernel
theorem dX12_orderValue_89 : decode cX12_orderValue 89 = .ok (.invokevirtual 131, 3) := by decide +kernel
theorem dX12_orderValue_92 : decode cX12_orderValue 92 = .ok (.ifCond .eq 15, 3) := by decide +kernel
theorem dX12_orderValue_95 : decode cX12_orderValue 95 = .ok (.aload_n 0, 1) := by decide +kernel
theorem dX12_orderValue_96 : decode cX12_orderValue 96 = .ok (.getfield 24, 3) := by decide +kernel
theorem dX12_orderValue_99 : decode cX12_orderValue 99 = .ok (.bipush 16, 2) := by decide +kernel
theorem dX12_orderValue_101 : decode cX12_orderValue 101 = .ok (.iload_n 2, 1) := by decide +kernel
theorem dX12_orderValue_102 : decode cX12_orderValue 102 = .ok (.iadd, 1) := by decide +kernel
theorem dX12_orderValue_103 : decode cX12_orderValue 103 = .ok (.iaload, 1) := by decide +kernel
theorem dX12_orderValue_104 : decode cX12_orderValue 104 = .ok (.goto 4, 3) := by decide +kernel
theorem dX12_orderValue_107 : decode cX12_orderValue 107 = .ok (.iconst (-1), 1) := by decide +kernel
theorem dX12_orderValue_108 : decode cX12_orderValue 108 = .ok (.ireturn, 1) := by decide +kernel
theorem dX12_orderValue_109 : decode cX12_orderValue 109 = .ok (.aload_n 0, 1) := by decide +kernel
theorem dX12_orderValue_110 : decode cX12_orderValue 110 = .ok (.getfield 24, 3) := by decide +kernel
theorem dX12_orderValue_113 : decode cX12_orderValue 113 = .ok (.bipush 22, 2) := by decide +kernel
theorem dX12_orderValue_115 : decode cX12_orderValue 115 = .ok (.iaload, 1) := by decide +kernel
theorem dX12_orderValue_116 : decode cX12_orderValue 116 = .ok (.ireturn, 1) := by decide +kernel
theorem dX12_orderValue_117 : decode cX12_orderValue 117 = .ok (.aload_n 0, 1) := by decide +kernel
theorem dX12_orderValue_118 : decode cX12_orderValue 118 = .ok (.getfield 281, 3) := by decide +kernel
theorem dX12_orderValue_121 : decode cX12_orderValue 121 = .ok (.ireturn, 1) := by decide +kernel
theorem dX12_orderValue_122 : decode cX12_orderValue 122 = .ok (.aload_n 0, 1) := by decide +kernel
theorem dX12_orderValue_123 : decode cX12_orderValue 123 = .ok (.getfield 284, 3) := by decide +kernel
theorem dX12_orderValue_126 : decode cX12_orderValue 126 = .ok (.ireturn, 1) := by decide +kernel
theorem dX12_orderValue_127 : decode cX12_orderValue 127 = .ok (.aload_n 0, 1) := by decide +kernel
theorem dX12_orderValue_128 : decode cX12_orderValue 128 = .ok (.invokevirtual 118, 3) := by decide +kernel
theorem dX12_orderValue_131 : decode cX12_orderValue 131 = .ok (.invokestatic 287, 3) := by decide +kernel
theorem dX12_orderValue_134 : decode cX12_orderValue 134 = .ok (.ireturn, 1) := by decide +kernel
theorem wt5_183 : Cond.fieldLink RX12 242 "SunriseRoofModel" "goEnd" "I" ∈ kG := kt5 183 rfl rfl
theorem wt5_182 : Cond.fieldLink RX12 245 "SunriseRoofModel" "go" "I" ∈ kG := kt5 182 rfl rfl
theorem wt7_47 : Cond.methodLink RX12 248 yX12_codeAt ∈ kG := kt7 47 rfl rfl
theorem wt7_49 : Cond.instanceMethod yX12_codeAt ∈ kG := kt7 49 rfl rfl
theorem wp5_8 : Cond.selects RX12 yX12_codeAt yX12_codeAt ∈ kG := kp5 8 rfl rfl
theorem wt7_50 : Cond.code yX12_codeAt cX12_codeAt 2 (some .int) ∈ kG := kt7 50 rfl rfl
theorem wt7_78 : Cond.constantLong RX12 251 (1000000000) ∈ kG := kt7 78 rfl rfl
theorem wt7_79 : Cond.constantLong RX12 253 (-1000000000) ∈ kG := kt7 79 rfl rfl
theorem wt5_184 : Cond.fieldLink RX12 255 "SunriseRoofModel" "broken" "Z" ∈ kG := kt5 184 rfl rfl
theorem wt5_187 : Cond.fieldLink RX12 281 "SunriseRoofModel" "orderDone" "I" ∈ kG := kt5 187 rfl rfl
theorem wt5_188 : Cond.fieldLink RX12 284 "SunriseRoofModel" "orderStood" "I" ∈ kG := kt5 188 rfl rfl
theorem wt7_71 : Cond.methodLink RX12 287 yX12_ones ∈ kG := kt7 71 rfl rfl
theorem wt7_72 : Cond.static yX12_ones ∈ kG := kt7 72 rfl rfl
theorem wt7_73 : Cond.code yX12_ones cX12_ones 3 (some .int) ∈ kG := kt7 73 rfl rfl
theorem cl_22 : (22 : Int32).toNatClampNeg = 22 := by decide +kernel
theorem kc_114 : kb 114 114 114 := ⟨by decide +kernel, by decide +kernel⟩
theorem kc_17 : kb 17 17 17 := ⟨by decide +kernel, by decide +kernel⟩
theorem kc_18 : kb 18 18 18 := ⟨by decide +kernel, by decide +kernel⟩
theorem kc_19 : kb 19 19 19 := ⟨by decide +kernel, by decide +kernel⟩
theorem kc_20 : kb 20 20 20 := ⟨by decide +kernel, by decide +kernel⟩
theorem kc_21 : kb 21 21 21 := ⟨by decide +kernel, by decide +kernel⟩
theorem kc_22 : kb 22 22 22 := ⟨by decide +kernel, by decide +kernel⟩
theorem kcl_1000000000 : kbl 1000000000 1000000000 1000000000 := ⟨by decide +kernel, by decide +kernel⟩
theorem kcl_m1000000000 : kbl (-1000000000) (-1000000000) (-1000000000) := ⟨by decide +kernel, by decide +kernel⟩
set_option maxHeartbeats 4000000 in
set_option maxRecDepth 100000 in
theorem m_codeAt  (l : Launch) {D : va_G} {K : Nat → ClassId} (o : Nat) (r : Nat → Nat) (f : Nat → Int32) (a : Nat → Nat → Int32) (g : Nat → Int64) (hI : mI f a) (x : Int32)  (t i : Nat) (ob : Bool) (hp0 : eS f a t ob) (hp1 : x.toInt = 400 * (t : Int) + (i : Int)) : kI l yX12_codeAt (Cond.code yX12_codeAt cX12_codeAt 2 (some .int) :: kG) (rmD 1 0 0) D (tysK K) [.ref o, .int x] (mW K o r f a g) (fun v (_ : Unit) => kb (-2147483648) v 2147483647 ∧ v = mC (a 2) t i) (fun _ => mW K o r f a g) 0 0 := by
  refine kI.of (cc := cX12_codeAt) (maxL := 2) (ret := (some .int)) (by decide) rfl (Nat.le_of_ble_eq_true rfl) ?_
  intro p e s m below meth c A hx hb hr hml hown hts hlocks hnm hK hP hD hS hA ls hl
  have hg : ∀ w ∈ kG, w.before _ s = true := fun w h => hts w (List.mem_cons_of_mem _ h)
  have hown : s.vm.findClass RX12 = some m.cls := hown
  have hl : lv_has ls 2 [(0, .ref o), (1, .int x)] := hl
  obtain ⟨c23_f, ec23_f⟩ : ∃ z : Int32, z = f 23 := ⟨_, rfl⟩
  refine lv_iload_n hx hb dX12_codeAt_0 rfl (lv_at hl 1 rfl) ?_
  refine lv_aload_n hx hb dX12_codeAt_1 rfl (lv_at hl 0 rfl) ?_
  refine va_get (D := D) (ci := 12) (v := .int (f 23)) (C := RX12) (T := TX12) (N := 48) hx hb hg inC12 hown hK hP 0 rfl rfl 23 (by decide) (hg _ wt5_183) (fun _ h9 => h9) rfl dX12_codeAt_2 ?_
  refine k_top (z := c23_f) ec23_f.symm ?_
  refine lv_icmp_ge (tgt := 20) hx hb dX12_codeAt_5 (by decide) (fun c1 => ?_) (fun c1 => ?_)
  · have h2 := (kc_le c1)
    refine lv_iconst (v := 0) hx hb dX12_codeAt_20 (by decide) ?_
    exact kI_ret (v := 0) hx hb hr hlocks rfl hK hS dX12_codeAt_21 () hP hD ⟨(kb_w kc_0 (by decide) (by decide)), (mC_out (by have h2 := congrArg Int32.toInt ec23_f; have h3 := hp0.2.1; omega))⟩
  · have h3 := (kc_nle c1)
    have b4 : kb (-2147483648) x 2147483646 := kr_lt1 h3 (kb_any x) (kb_any c23_f) (by decide)
    have b5 : kb (-2147483647) c23_f 2147483647 := kr_lt2 h3 (kb_any x) (kb_any c23_f) (by decide)
    have b6 : kb 0 x 2799 := ⟨by have h1 := hp1; omega, by have h1 := h3; have h2 := congrArg Int32.toInt ec23_f; have h3 := hp0.2.1; have h4 := hp0.2.2.2.2; have h5 := hp0.1; omega⟩
    refine lv_aload_n hx hb dX12_codeAt_8 rfl (lv_at hl 0 rfl) ?_
    refine va_get (D := D) (ci := 12) (v := .ref (r 2)) (C := RX12) (T := TX12) (N := 48) hx hb hg inC12 hown hK hP 0 rfl rfl 2 (by decide) (hg _ wt5_162) (fun _ h9 => h9) rfl dX12_codeAt_9 ?_
    refine lv_bipush (v := 114) hx hb dX12_codeAt_12 (by decide) ?_
    refine lv_iload_n hx hb dX12_codeAt_14 rfl (lv_at hl 1 rfl) ?_
    refine lv_iadd hx hb dX12_codeAt_15 ?_
    refine lv_topi (fun t7 et7 => ?_)
    have b8 : kb 114 t7 2913 := kb_eq et7 (kb_add kc_114 b6 (by decide) (by decide))
    have qt7 : t7.toInt = 114 + x.toInt := by rw [et7]; exact kt_cadd kc_114 b6 (by decide) (by decide)
    refine va_iald hx hb hK hP 2 0 rfl rfl (kb_in b8 (by decide) (by decide)) dX12_codeAt_16 ?_
    refine lv_topi (fun t9 et9 => ?_)
    refine lv_goto (tgt := 21) hx hb dX12_codeAt_17 (by decide) ?_
    exact kI_ret (v := t9) hx hb hr hlocks rfl hK hS dX12_codeAt_21 () hP hD ⟨(kb_any t9), (et9.trans (mC_in (by have h2 := congrArg Int32.toInt ec23_f; have h3 := hp0.2.1; omega) (by rw [qt7, hp1])))⟩
set_option maxHeartbeats 4000000 in
set_option maxRecDepth 100000 in
theorem m_passes0  (l : Launch) {D : va_G} {K : Nat → ClassId} (o : Nat) (r : Nat → Nat) (f : Nat → Int32) (a : Nat → Nat → Int32) (g : Nat → Int64) (hI : mI f a) (x : Int32) (bx : kb 1 x 200) (t i : Nat) (ob : Bool) (hp0 : eS f a t ob) (hp1 : (f 22).toInt = 400 * (t : Int) + (i : Int)) : kI l yX12_passes0 (Cond.code yX12_passes0 cX12_passes0 3 (some .boolean) :: kG) (rmD 2 0 0) D (tysK K) [.ref o, .int x] (mW K o r f a g) (fun v (u : Nat → Int32) => kb 0 v 1 ∧ mI u a ∧ fE [22] f u ∧ ((v = 1 ∧ mC (a 2) t i = x ∧ (u 22).toInt = 400 * (t : Int) + ((i + 1 : Nat) : Int)) ∨ (v = 0 ∧ ¬ mC (a 2) t i = x ∧ (u 22).toInt = 400 * (t : Int) + (i : Int)))) (fun u => mW K o r u a g) 0 0 := by
  refine kI.of (cc := cX12_passes0) (maxL := 3) (ret := (some .boolean)) (by decide) rfl (Nat.le_of_ble_eq_true rfl) ?_
  intro p e s m below meth c A hx hb hr hml hown hts hlocks hnm hK hP hD hS hA ls hl
  have hE : fE [22] f f := fE_rf
  have hg : ∀ w ∈ kG, w.before _ s = true := fun w h => hts w (List.mem_cons_of_mem _ h)
  have hown : s.vm.findClass RX12 = some m.cls := hown
  have hl : lv_has ls 3 [(0, .ref o), (1, .int x)] := hl
  obtain ⟨c22, ec22⟩ : ∃ z : Int32, z = f 22 := ⟨_, rfl⟩
  have hg0 : c22.toInt = 400 * (t : Int) + (i : Int) := by rw [ec22]; exact hp1
  refine lv_aload_n hx hb dX12_passes0_0 rfl (lv_at hl 0 rfl) ?_
  refine lv_aload_n hx hb dX12_passes0_1 rfl (lv_at hl 0 rfl) ?_
  refine va_get (D := D) (ci := 12) (v := .int (f 22)) (C := RX12) (T := TX12) (N := 48) hx hb hg inC12 hown hK hP 0 rfl rfl 22 (by decide) (hg _ wt5_182) (fun _ h9 => h9) rfl dX12_passes0_2 ?_
  refine k_top (z := c22) ec22.symm ?_
  refine kI.callV (As := [.int c22]) (rest := []) ⟨hx, hb, hml, hown, hg⟩ (m_codeAt l o r f a g hI c22  t (i) ob (eS_fE hE hp0 (by decide) (by decide)) hg0) (cwV 1 hg (kgV wt7_47 wt7_49 wp5_8 wt1_14 wt7_50) rfl rfl rfl (by decide +kernel) ⟨by decide, by decide⟩) hK hP hD hS hA mIs [] rfl (wr := []) rfl rfl rfl (fun i h => by cases h) 0 12 rfl rfl rfl hl.1 rfl (Nat.le_of_ble_eq_true rfl) dX12_passes0_5 ⟨Nat.le_refl _, Nat.le_refl _⟩ (fun v2 u3 H locs hw1 hP hD hS => ?_)
  have hP : va_P D vwCl (mW K o r f a g) H := hP
  have hD : va_D A (mW K o r f a g) := hD
  refine lv_iload_n hx hb dX12_passes0_8 rfl (lv_at hl 1 rfl) ?_
  refine lv_icmp_ne (tgt := 16) hx hb dX12_passes0_9 (by decide) (fun c4 => ?_) (fun c4 => ?_)
  · refine lv_iconst (v := 0) hx hb dX12_passes0_16 (by decide) ?_
    refine lv_istore_n (lv' := [(2, .int 0), (0, .ref o), (1, .int x)]) hx hb dX12_passes0_17 rfl hl (by decide) rfl (fun ls hl => ?_)
    refine lv_iload_n hx hb dX12_passes0_18 rfl (lv_at hl 0 rfl) ?_
    refine lv_if_eq (tgt := 32) hx hb dX12_passes0_19 (by decide) (fun c5 => ?_) (fun c5 => ?_)
    · refine lv_iload_n hx hb dX12_passes0_32 rfl (lv_at hl 0 rfl) ?_
      exact kI_ret (v := 0) hx hb hr hlocks (by decide +kernel) hK hS dX12_passes0_33 f hP hD ⟨(kb_w kc_0 (by decide) (by decide)), hI, hE, (Or.inr ⟨rfl, (fun q => c4 (hw1.2.trans q)), by rw [ec22.symm]; exact hg0⟩)⟩
    · exact kb_nsame c5 kc_0 kc_0
  · have b6 : kb 1 v2 200 := kb_eq c4 bx
    refine lv_iconst (v := 1) hx hb dX12_passes0_12 (by decide) ?_
    refine lv_goto (tgt := 17) hx hb dX12_passes0_13 (by decide) ?_
    refine lv_istore_n (lv' := [(2, .int 1), (0, .ref o), (1, .int x)]) hx hb dX12_passes0_17 rfl hl (by decide) rfl (fun ls hl => ?_)
    refine lv_iload_n hx hb dX12_passes0_18 rfl (lv_at hl 0 rfl) ?_
    refine lv_if_eq (tgt := 32) hx hb dX12_passes0_19 (by decide) (fun c7 => ?_) (fun c7 => ?_)
    · exact kb_dj c7 kc_1 kc_0 (by decide)
    · have b8 : kb 0 c22 2799 := kb_go hp0 (mC_lt hp0 (ne_0 (hw1.2.symm.trans c4) (kb_nz bx (by decide)))) hg0
      refine lv_aload_n hx hb dX12_passes0_22 rfl (lv_at hl 1 rfl) ?_
      refine lv_dup hx hb dX12_passes0_23 rfl ?_
      refine va_get (D := D) (ci := 12) (v := .int (f 22)) (C := RX12) (T := TX12) (N := 48) hx hb hg inC12 hown hK hP 0 rfl rfl 22 (by decide) (hg _ wt5_182) (fun _ h9 => h9) rfl dX12_passes0_24 ?_
      refine k_top (z := c22) ec22.symm ?_
      refine lv_iconst (v := 1) hx hb dX12_passes0_27 (by decide) ?_
      refine lv_iadd hx hb dX12_passes0_28 ?_
      refine lv_topi (fun t9 et9 => ?_)
      have b10 : kb 1 t9 2800 := kb_eq et9 (kb_add b8 kc_1 (by decide) (by decide))
      have qt9 : t9.toInt = c22.toInt + 1 := by rw [et9]; exact kt_addc b8 kc_1 (by decide) (by decide)
      have hg11 : t9.toInt = 400 * (t : Int) + ((i + 1 : Nat) : Int) := by rw [qt9, hg0]; omega
      refine va_put (D := D) (ci := 12) (v := .int t9) (ty := .int) (C := RX12) (T := TX12) (N := 48) hx hb hg inC12 tyX12 tyX12_ok nmX12 hown hK hP hD hS 0 rfl rfl 22 (by decide) (hg _ wt5_182) (fun _ h9 => h9) rfl (by decide +kernel) rfl rfl (Nat.le_of_ble_eq_true rfl) dX12_passes0_29 (fun H locs hP hD hS => ?_)
      have hP : va_P D vwCl (mW K o r (upd f 22 t9) a g) H := hP
      have hD : va_D A (mW K o r (upd f 22 t9) a g) := hD
      refine k_gen (P := fun z => va_P D vwCl (mW K o r z a g) H ∧ va_D A (mW K o r z a g) ∧ (mI z a) ∧ (fE [22] f z)) (upd f 22 t9) ⟨hP, hD, (mI_f hI (fI_st hI.1 22 (kb_any _) (by decide) (by decide))), (fE_f hE (by decide))⟩ (fun f_12 ef_12 hq => ?_)
      obtain ⟨hP, hD, hI, hE⟩ := hq
      refine lv_iload_n hx hb dX12_passes0_32 rfl (lv_at hl 0 rfl) ?_
      exact kI_ret (v := 1) hx hb hr hlocks (by decide +kernel) hK hS dX12_passes0_33 f_12 hP hD ⟨(kb_w kc_1 (by decide) (by decide)), hI, hE, (Or.inl ⟨rfl, (hw1.2 ▸ c4), by rw [(show f_12 22 = t9 from by rw [← ef_12]; rfl)]; exact hg11⟩)⟩
set_option maxHeartbeats 4000000 in
set_option maxRecDepth 100000 in
theorem m_bounded  (l : Launch) {D : va_G} {K : Nat → ClassId} (o : Nat) (r : Nat → Nat) (f : Nat → Int32) (a : Nat → Nat → Int32) (g : Nat → Int64) (hI : mI f a) (x : Int64) (lv : Int32) (blv : kb 0 lv 1)   : kL l yX12_bounded (Cond.code yX12_bounded cX12_bounded 4 (some .long) :: kG) (rmD 1 0 0) D (tysK K) [.ref o, .long x, .int lv] (mW K o r f a g) (fun v (u : Nat → Int32) => kbl (-9223372036854775808) v 9223372036854775807 ∧ mI u a ∧ fE [24] f u) (fun u => mW K o r u a g) 0 0 := by
  refine kL.of (cc := cX12_bounded) (maxL := 4) (ret := (some .long)) (by decide) rfl (Nat.le_of_ble_eq_true rfl) ?_
  intro p e s m below meth c A hx hb hr hml hown hts hlocks hnm hK hP hD hS hA ls hl
  have hE : fE [24] f f := fE_rf
  have hg : ∀ w ∈ kG, w.before _ s = true := fun w h => hts w (List.mem_cons_of_mem _ h)
  have hown : s.vm.findClass RX12 = some m.cls := hown
  have hl : lv_has ls 4 [(0, .ref o), (1, .long x), (3, .int lv)] := hl
  refine lv_iload_n hx hb dX12_bounded_0 rfl (lv_at hl 2 rfl) ?_
  have jn28 : ∀ (F27 : Nat → Int32) (H : Heap) (locs : List Loc) (ls : Array Slot), (mI F27 a) → (fE [24] f F27) → va_P D vwCl (mW K o r F27 a g) H → va_D A (mW K o r F27 a g) → va_S A s.heap H locs → lv_has ls 4 [(0, .ref o), (1, .long x), (3, .int lv)] → W p l e (rmD 1 0 0) s m ([.ref o, .long x, .int lv] : List Value).toArray below meth c H locs 0 0 (kQl D (tysK K) (fun v (u : Nat → Int32) => kbl (-9223372036854775808) v 9223372036854775807 ∧ mI u a ∧ fE [24] f u) (fun u => mW K o r u a g) A below ([.ref o, .long x, .int lv] : List Value).toArray s 0 0) (F0 m 25 ls []) := by
    intro F27  H locs ls  hI hE hP hD hS hl
    refine lv_aload_n hx hb dX12_bounded_25 rfl (lv_at hl 0 rfl) ?_
    refine va_get (D := D) (ci := 12) (v := .int (F27 24)) (C := RX12) (T := TX12) (N := 48) hx hb hg inC12 hown hK hP 0 rfl rfl 24 (by decide) (hg _ wt5_184) (fun _ h9 => h9) rfl dX12_bounded_26 ?_
    refine lv_topi (fun t29 et29 => ?_)
    have b30 : kb 0 t29 1 := kb_eq et29 (fI_at hI.1 24 (by decide) (by decide))
    refine lv_if_eq (tgt := 36) hx hb dX12_bounded_29 (by decide) (fun c31 => ?_) (fun c31 => ?_)
    · have b32 : kb 0 t29 0 := kb_eq c31 kc_0
      refine lv_lload_n hx hb dX12_bounded_36 rfl (lv_at hl 1 rfl) ?_
      exact kL_ret (v := x) hx hb hr hlocks hK hS dX12_bounded_37 F27 hP hD ⟨(kbl_any x), hI, hE⟩
    · have b33 : kb 1 t29 1 := kr_nel c31 b30 kc_0 (by decide)
      refine lv_lconst (v := 0) hx hb dX12_bounded_32 (by decide) ?_
      refine lv_goto (tgt := 37) hx hb dX12_bounded_33 (by decide) ?_
      exact kL_ret (v := 0) hx hb hr hlocks hK hS dX12_bounded_37 F27 hP hD ⟨(kbl_w kcl_0 (by decide) (by decide)), hI, hE⟩
  refine lv_if_eq (tgt := 25) hx hb dX12_bounded_1 (by decide) (fun c34 => ?_) (fun c34 => ?_)
  · have b35 : kb 0 lv 0 := kb_eq c34 kc_0
    exact jn28 f _ _ _  hI hE hP hD hS (lv_sub hl [0, 1, 2] rfl)
  · have b36 : kb 1 lv 1 := kr_nel c34 blv kc_0 (by decide)
    refine lv_lload_n hx hb dX12_bounded_4 rfl (lv_at hl 1 rfl) ?_
    refine lv_ldc2 (v := (1000000000)) hx hb hown (hg _ wt7_78) dX12_bounded_5 ?_
    refine W.lcmp hx hb dX12_bounded_8 ?_
    refine lv_topi (fun t37 et37 => ?_)
    have jn48 : ∀ (H : Heap) (locs : List Loc) (ls : Array Slot), va_P D vwCl (mW K o r f a g) H → va_D A (mW K o r f a g) → va_S A s.heap H locs → lv_has ls 4 [(0, .ref o), (1, .long x), (3, .int lv)] → W p l e (rmD 1 0 0) s m ([.ref o, .long x, .int lv] : List Value).toArray below meth c H locs 0 0 (kQl D (tysK K) (fun v (u : Nat → Int32) => kbl (-9223372036854775808) v 9223372036854775807 ∧ mI u a ∧ fE [24] f u) (fun u => mW K o r u a g) A below ([.ref o, .long x, .int lv] : List Value).toArray s 0 0) (F0 m 20 ls []) := by
      intro  H locs ls   hP hD hS hl
      refine lv_aload_n hx hb dX12_bounded_20 rfl (lv_at hl 0 rfl) ?_
      refine lv_iconst (v := 1) hx hb dX12_bounded_21 (by decide) ?_
      refine va_put (D := D) (ci := 12) (v := .int 1) (ty := .boolean) (C := RX12) (T := TX12) (N := 48) hx hb hg inC12 tyX12 tyX12_ok nmX12 hown hK hP hD hS 0 rfl rfl 24 (by decide) (hg _ wt5_184) (fun _ h9 => h9) rfl (by decide +kernel) rfl rfl (Nat.le_of_ble_eq_true rfl) dX12_bounded_22 (fun H locs hP hD hS => ?_)
      have hP : va_P D vwCl (mW K o r (upd f 24 1) a g) H := hP
      have hD : va_D A (mW K o r (upd f 24 1) a g) := hD
      refine k_gen (P := fun z => va_P D vwCl (mW K o r z a g) H ∧ va_D A (mW K o r z a g) ∧ (mI z a) ∧ (fE [24] f z)) (upd f 24 1) ⟨hP, hD, (mI_f hI (fI_st hI.1 24 kc_1 (by decide) (by decide))), (fE_f hE (by decide))⟩ (fun f_49 ef_49 hq => ?_)
      obtain ⟨hP, hD, hI, hE⟩ := hq
      exact jn28 f_49 _ _ _  hI hE hP hD hS (lv_sub hl [0, 1, 2] rfl)
    refine lv_if_gt (tgt := 20) hx hb dX12_bounded_9 (by decide) (fun c50 => ?_) (fun c50 => ?_)
    · have h51 := klc_gt (et37 ▸ c50)
      have b52 : kbl 1000000001 x 9223372036854775807 := klr_lt2 h51 kcl_1000000000 (kbl_any x) (by decide)
      exact jn48 _ _ _   hP hD hS (lv_sub hl [0, 1, 2] rfl)
    · have h53 := klc_ngt (et37 ▸ c50)
      have b54 : kbl (-9223372036854775808) x 1000000000 := klr_le1 h53 (kbl_any x) kcl_1000000000
      refine lv_lload_n hx hb dX12_bounded_12 rfl (lv_at hl 1 rfl) ?_
      refine lv_ldc2 (v := (-1000000000)) hx hb hown (hg _ wt7_79) dX12_bounded_13 ?_
      refine W.lcmp hx hb dX12_bounded_16 ?_
      refine lv_topi (fun t55 et55 => ?_)
      refine lv_if_ge (tgt := 25) hx hb dX12_bounded_17 (by decide) (fun c56 => ?_) (fun c56 => ?_)
      · have h57 := klc_ge (et55 ▸ c56)
        have b58 : kbl (-1000000000) x 1000000000 := klr_le2 h57 kcl_m1000000000 b54
        exact jn28 f _ _ _  hI hE hP hD hS (lv_sub hl [0, 1, 2] rfl)
      · have h59 := klc_nge (et55 ▸ c56)
        have b60 : kbl (-9223372036854775808) x (-1000000001) := klr_lt1 h59 b54 kcl_m1000000000 (by decide)
        exact jn48 _ _ _   hP hD hS (lv_sub hl [0, 1, 2] rfl)
set_option maxHeartbeats 4000000 in
set_option maxRecDepth 100000 in
theorem m_orderValue  (l : Launch) {D : va_G} {K : Nat → ClassId} (o : Nat) (r : Nat → Nat) (f : Nat → Int32) (a : Nat → Nat → Int32) (g : Nat → Int64) (hI : mI f a) (x : Int32) (y : Int32) (bx : kb 16 x 22)   : kI l yX12_orderValue (Cond.code yX12_orderValue cX12_orderValue 3 (some .int) :: kG) (rmD 3 0 0) D (tysK K) [.ref o, .int x, .int y] (mW K o r f a g) (fun v (_ : Unit) => kb (-2147483648) v 2147483647) (fun _ => mW K o r f a g) 0 0 := by
  refine kI.of (cc := cX12_orderValue) (maxL := 3) (ret := (some .int)) (by decide) rfl (Nat.le_of_ble_eq_true rfl) ?_
  intro p e s m below meth c A hx hb hr hml hown hts hlocks hnm hK hP hD hS hA ls hl
  have hg : ∀ w ∈ kG, w.before _ s = true := fun w h => hts w (List.mem_cons_of_mem _ h)
  have hown : s.vm.findClass RX12 = some m.cls := hown
  have hl : lv_has ls 3 [(0, .ref o), (1, .int x), (2, .int y)] := hl
  refine lv_iload_n hx hb dX12_orderValue_0 rfl (lv_at hl 1 rfl) ?_
  by_cases q1 : x = 16
  · have b2 : kb 16 x 16 := kb_eq q1 kc_16
    refine lv_tableIn (tgt := 44) hx hb dX12_orderValue_1 (by rw [q1]; decide +kernel) (by rw [q1]; decide +kernel) (by rw [q1]; rfl) (by decide) ?_
    refine lv_aload_n hx hb dX12_orderValue_44 rfl (lv_at hl 0 rfl) ?_
    refine lv_iload_n hx hb dX12_orderValue_45 rfl (lv_at hl 2 rfl) ?_
    refine kI.callV (As := [.int y]) (rest := []) ⟨hx, hb, hml, hown, hg⟩ (m_isPart l o r f a g hI y  ) (cwV 1 hg (kgV wt6_104 wt6_106 wp3_10 wt1_14 wt6_107) rfl rfl rfl (by decide +kernel) ⟨by decide, by decide⟩) hK hP hD hS hA mIs [] rfl (wr := []) rfl rfl rfl (fun i h => by cases h) 0 12 rfl rfl rfl hl.1 rfl (Nat.le_of_ble_eq_true rfl) dX12_orderValue_46 ⟨Nat.le_refl _, Nat.le_refl _⟩ (fun v4 u5 H locs hw3 hP hD hS => ?_)
    have hP : va_P D vwCl (mW K o r f a g) H := hP
    have hD : va_D A (mW K o r f a g) := hD
    refine lv_if_eq (tgt := 63) hx hb dX12_orderValue_49 (by decide) (fun c6 => ?_) (fun c6 => ?_)
    · have b7 : kb 0 v4 0 := kb_eq c6 kc_0
      refine lv_iconst (v := (-1)) hx hb dX12_orderValue_63 (by decide) ?_
      exact kI_ret (v := (-1)) hx hb hr hlocks rfl hK hS dX12_orderValue_64 () hP hD (kb_w kc_m1 (by decide) (by decide))
    · have b8 : kb 1 v4 1 := kr_nel c6 hw3.1 kc_0 (by decide)
      have h9 := hw3.2.1 c6
      have b10 : kb 0 y 9 := ⟨by have h1 := h9.1; omega, (by have h1 := h9.2; have h2 := (aI_at hI.2.1 2 102 (by decide) (by decide) : kb 0 (a 2 102) 10).2; omega)⟩
      refine lv_aload_n hx hb dX12_orderValue_52 rfl (lv_at hl 0 rfl) ?_
      refine va_get (D := D) (ci := 12) (v := .ref (r 2)) (C := RX12) (T := TX12) (N := 48) hx hb hg inC12 hown hK hP 0 rfl rfl 2 (by decide) (hg _ wt5_162) (fun _ h9 => h9) rfl dX12_orderValue_53 ?_
      refine lv_iconst (v := 0) hx hb dX12_orderValue_56 (by decide) ?_
      refine lv_iload_n hx hb dX12_orderValue_57 rfl (lv_at hl 2 rfl) ?_
      refine lv_iadd hx hb dX12_orderValue_58 ?_
      refine k_top (z := y) (Int32.zero_add _) ?_
      refine va_iald hx hb hK hP 2 0 rfl rfl (kb_in b10 (by decide) (by decide)) dX12_orderValue_59 ?_
      refine lv_topi (fun t11 et11 => ?_)
      have b12 : kb 0 t11 99 := kb_eq et11 (aI_ld hI.2.1 2 0 10 b10 (by decide) (by decide) (by decide +kernel))
      refine lv_goto (tgt := 64) hx hb dX12_orderValue_60 (by decide) ?_
      exact kI_ret (v := t11) hx hb hr hlocks rfl hK hS dX12_orderValue_64 () hP hD (kb_w b12 (by decide) (by decide))
  by_cases q13 : x = 17
  · have b14 : kb 17 x 17 := kb_eq q13 kc_17
    refine lv_tableIn (tgt := 65) hx hb dX12_orderValue_1 (by rw [q13]; decide +kernel) (by rw [q13]; decide +kernel) (by rw [q13]; rfl) (by decide) ?_
    refine lv_aload_n hx hb dX12_orderValue_65 rfl (lv_at hl 0 rfl) ?_
    refine lv_iload_n hx hb dX12_orderValue_66 rfl (lv_at hl 2 rfl) ?_
    refine kI.callV (As := [.int y]) (rest := []) ⟨hx, hb, hml, hown, hg⟩ (m_isBuilder l o r f a g hI y  ) (cwV 1 hg (kgV wt6_138 wt6_140 wp3_15 wt1_14 wt6_141) rfl rfl rfl (by decide +kernel) ⟨by decide, by decide⟩) hK hP hD hS hA mIs [] rfl (wr := []) rfl rfl rfl (fun i h => by cases h) 0 12 rfl rfl rfl hl.1 rfl (Nat.le_of_ble_eq_true rfl) dX12_orderValue_67 ⟨Nat.le_refl _, Nat.le_refl _⟩ (fun v16 u17 H locs hw15 hP hD hS => ?_)
    have hP : va_P D vwCl (mW K o r f a g) H := hP
    have hD : va_D A (mW K o r f a g) := hD
    refine lv_if_eq (tgt := 85) hx hb dX12_orderValue_70 (by decide) (fun c18 => ?_) (fun c18 => ?_)
    · have b19 : kb 0 v16 0 := kb_eq c18 kc_0
      refine lv_iconst (v := (-1)) hx hb dX12_orderValue_85 (by decide) ?_
      exact kI_ret (v := (-1)) hx hb hr hlocks rfl hK hS dX12_orderValue_86 () hP hD (kb_w kc_m1 (by decide) (by decide))
    · have b20 : kb 1 v16 1 := kr_nel c18 hw15.1 kc_0 (by decide)
      have h21 := hw15.2.1 c18
      have b22 : kb 0 y 5 := ⟨by have h1 := h21.1; omega, (by have h1 := h21.2; have h2 := (aI_at hI.2.1 2 103 (by decide) (by decide) : kb 0 (a 2 103) 6).2; omega)⟩
      refine lv_aload_n hx hb dX12_orderValue_73 rfl (lv_at hl 0 rfl) ?_
      refine va_get (D := D) (ci := 12) (v := .ref (r 2)) (C := RX12) (T := TX12) (N := 48) hx hb hg inC12 hown hK hP 0 rfl rfl 2 (by decide) (hg _ wt5_162) (fun _ h9 => h9) rfl dX12_orderValue_74 ?_
      refine lv_bipush (v := 10) hx hb dX12_orderValue_77 (by decide) ?_
      refine lv_iload_n hx hb dX12_orderValue_79 rfl (lv_at hl 2 rfl) ?_
      refine lv_iadd hx hb dX12_orderValue_80 ?_
      refine lv_topi (fun t23 et23 => ?_)
      have b24 : kb 10 t23 15 := kb_eq et23 (kb_add kc_10 b22 (by decide) (by decide))
      have qt23 : t23.toInt = 10 + y.toInt := by rw [et23]; exact kt_cadd kc_10 b22 (by decide) (by decide)
      refine va_iald hx hb hK hP 2 0 rfl rfl (kb_in b24 (by decide) (by decide)) dX12_orderValue_81 ?_
      refine lv_topi (fun t25 et25 => ?_)
      have b26 : kb 0 t25 99 := kb_eq et25 (aI_ld hI.2.1 2 10 6 b24 (by decide) (by decide) (by decide +kernel))
      refine lv_goto (tgt := 86) hx hb dX12_orderValue_82 (by decide) ?_
      exact kI_ret (v := t25) hx hb hr hlocks rfl hK hS dX12_orderValue_86 () hP hD (kb_w b26 (by decide) (by decide))
  by_cases q27 : x = 18
  · have b28 : kb 18 x 18 := kb_eq q27 kc_18
    refine lv_tableIn (tgt := 109) hx hb dX12_orderValue_1 (by rw [q27]; decide +kernel) (by rw [q27]; decide +kernel) (by rw [q27]; rfl) (by decide) ?_
    refine lv_aload_n hx hb dX12_orderValue_109 rfl (lv_at hl 0 rfl) ?_
    refine va_get (D := D) (ci := 12) (v := .ref (r 2)) (C := RX12) (T := TX12) (N := 48) hx hb hg inC12 hown hK hP 0 rfl rfl 2 (by decide) (hg _ wt5_162) (fun _ h9 => h9) rfl dX12_orderValue_110 ?_
    refine lv_bipush (v := 22) hx hb dX12_orderValue_113 (by decide) ?_
    refine va_iald hx hb hK hP 2 0 rfl rfl (kb_in kc_22 (by decide) (by decide)) dX12_orderValue_115 ?_
    refine lv_topi (fun t29 et29 => ?_)
    rw [cl_22] at et29
    exact kI_ret (v := t29) hx hb hr hlocks rfl hK hS dX12_orderValue_116 () hP hD (kb_any t29)
  by_cases q30 : x = 19
  · have b31 : kb 19 x 19 := kb_eq q30 kc_19
    refine lv_tableIn (tgt := 117) hx hb dX12_orderValue_1 (by rw [q30]; decide +kernel) (by rw [q30]; decide +kernel) (by rw [q30]; rfl) (by decide) ?_
    refine lv_aload_n hx hb dX12_orderValue_117 rfl (lv_at hl 0 rfl) ?_
    refine va_get (D := D) (ci := 12) (v := .int (f 27)) (C := RX12) (T := TX12) (N := 48) hx hb hg inC12 hown hK hP 0 rfl rfl 27 (by decide) (hg _ wt5_187) (fun _ h9 => h9) rfl dX12_orderValue_118 ?_
    refine lv_topi (fun t32 et32 => ?_)
    exact kI_ret (v := t32) hx hb hr hlocks rfl hK hS dX12_orderValue_121 () hP hD (kb_any t32)
  by_cases q33 : x = 20
  · have b34 : kb 20 x 20 := kb_eq q33 kc_20
    refine lv_tableIn (tgt := 122) hx hb dX12_orderValue_1 (by rw [q33]; decide +kernel) (by rw [q33]; decide +kernel) (by rw [q33]; rfl) (by decide) ?_
    refine lv_aload_n hx hb dX12_orderValue_122 rfl (lv_at hl 0 rfl) ?_
    refine va_get (D := D) (ci := 12) (v := .int (f 28)) (C := RX12) (T := TX12) (N := 48) hx hb hg inC12 hown hK hP 0 rfl rfl 28 (by decide) (hg _ wt5_188) (fun _ h9 => h9) rfl dX12_orderValue_123 ?_
    refine lv_topi (fun t35 et35 => ?_)
    exact kI_ret (v := t35) hx hb hr hlocks rfl hK hS dX12_orderValue_126 () hP hD (kb_any t35)
  by_cases q36 : x = 21
  · have b37 : kb 21 x 21 := kb_eq q36 kc_21
    refine lv_tableIn (tgt := 127) hx hb dX12_orderValue_1 (by rw [q36]; decide +kernel) (by rw [q36]; decide +kernel) (by rw [q36]; rfl) (by decide) ?_
    refine lv_aload_n hx hb dX12_orderValue_127 rfl (lv_at hl 0 rfl) ?_
    refine kI.callV (As := []) (rest := []) ⟨hx, hb, hml, hown, hg⟩ (m_standing l o r f a g hI   ) (cwV 0 hg (kgV wt6_116 wt6_118 wp3_13 wt1_14 wt6_119) rfl rfl rfl (by decide +kernel) ⟨by decide, by decide⟩) hK hP hD hS hA mIs [] rfl (wr := []) rfl rfl rfl (fun i h => by cases h) 0 12 rfl rfl rfl hl.1 rfl (Nat.le_of_ble_eq_true rfl) dX12_orderValue_128 ⟨Nat.le_refl _, Nat.le_refl _⟩ (fun v39 u40 H locs hw38 hP hD hS => ?_)
    have hP : va_P D vwCl (mW K o r f a g) H := hP
    have hD : va_D A (mW K o r f a g) := hD
    refine kN.callS (As := [.int v39]) (rest := []) ⟨hx, hb, hml, hown, hg⟩ (m_ones l v39 ) (va_cwS 1 hg (kgS wt7_71 wt7_72 wt1_14 wt7_73) rfl rfl rfl (by decide +kernel) ⟨by decide, by decide⟩) hP hS rfl hl.1 rfl (Nat.le_of_ble_eq_true rfl) dX12_orderValue_131 ⟨Nat.le_refl _, Nat.le_refl _⟩ (fun v42 H locs hw41 hP hS => ?_)
    exact kI_ret (v := v42) hx hb hr hlocks rfl hK hS dX12_orderValue_134 () hP hD (kb_w hw41 (by decide) (by decide))
  by_cases q44 : x = 22
  · have b45 : kb 22 x 22 := kb_eq q44 kc_22
    refine lv_tableIn (tgt := 87) hx hb dX12_orderValue_1 (by rw [q44]; decide +kernel) (by rw [q44]; decide +kernel) (by rw [q44]; rfl) (by decide) ?_
    refine lv_aload_n hx hb dX12_orderValue_87 rfl (lv_at hl 0 rfl) ?_
    refine lv_iload_n hx hb dX12_orderValue_88 rfl (lv_at hl 2 rfl) ?_
    refine kI.callV (As := [.int y]) (rest := []) ⟨hx, hb, hml, hown, hg⟩ (m_isBuilder l o r f a g hI y  ) (cwV 1 hg (kgV wt6_138 wt6_140 wp3_15 wt1_14 wt6_141) rfl rfl rfl (by decide +kernel) ⟨by decide, by decide⟩) hK hP hD hS hA mIs [] rfl (wr := []) rfl rfl rfl (fun i h => by cases h) 0 12 rfl rfl rfl hl.1 rfl (Nat.le_of_ble_eq_true rfl) dX12_orderValue_89 ⟨Nat.le_refl _, Nat.le_refl _⟩ (fun v47 u48 H locs hw46 hP hD hS => ?_)
    have hP : va_P D vwCl (mW K o r f a g) H := hP
    have hD : va_D A (mW K o r f a g) := hD
    refine lv_if_eq (tgt := 107) hx hb dX12_orderValue_92 (by decide) (fun c49 => ?_) (fun c49 => ?_)
    · have b50 : kb 0 v47 0 := kb_eq c49 kc_0
      refine lv_iconst (v := (-1)) hx hb dX12_orderValue_107 (by decide) ?_
      exact kI_ret (v := (-1)) hx hb hr hlocks rfl hK hS dX12_orderValue_108 () hP hD (kb_w kc_m1 (by decide) (by decide))
    · have b51 : kb 1 v47 1 := kr_nel c49 hw46.1 kc_0 (by decide)
      have h52 := hw46.2.1 c49
      have b53 : kb 0 y 5 := ⟨by have h1 := h52.1; omega, (by have h1 := h52.2; have h2 := (aI_at hI.2.1 2 103 (by decide) (by decide) : kb 0 (a 2 103) 6).2; omega)⟩
      refine lv_aload_n hx hb dX12_orderValue_95 rfl (lv_at hl 0 rfl) ?_
      refine va_get (D := D) (ci := 12) (v := .ref (r 2)) (C := RX12) (T := TX12) (N := 48) hx hb hg inC12 hown hK hP 0 rfl rfl 2 (by decide) (hg _ wt5_162) (fun _ h9 => h9) rfl dX12_orderValue_96 ?_
      refine lv_bipush (v := 16) hx hb dX12_orderValue_99 (by decide) ?_
      refine lv_iload_n hx hb dX12_orderValue_101 rfl (lv_at hl 2 rfl) ?_
      refine lv_iadd hx hb dX12_orderValue_102 ?_
      refine lv_topi (fun t54 et54 => ?_)
      have b55 : kb 16 t54 21 := kb_eq et54 (kb_add kc_16 b53 (by decide) (by decide))
      have qt54 : t54.toInt = 16 + y.toInt := by rw [et54]; exact kt_cadd kc_16 b53 (by decide) (by decide)
      refine va_iald hx hb hK hP 2 0 rfl rfl (kb_in b55 (by decide) (by decide)) dX12_orderValue_103 ?_
      refine lv_topi (fun t56 et56 => ?_)
      have b57 : kb (-1) t56 9 := kb_eq et56 (aI_ld hI.2.1 2 16 6 b55 (by decide) (by decide) (by decide +kernel))
      refine lv_goto (tgt := 108) hx hb dX12_orderValue_104 (by decide) ?_
      exact kI_ret (v := t56) hx hb hr hlocks rfl hK hS dX12_orderValue_108 () hP hD (kb_w b57 (by decide) (by decide))
  refine lv_tableOut (tgt := 127) hx hb dX12_orderValue_1 (by have gq1 := lv_neT q1 (a := 16) (by decide +kernel); have gq13 := lv_neT q13 (a := 17) (by decide +kernel); have gq27 := lv_neT q27 (a := 18) (by decide +kernel); have gq30 := lv_neT q30 (a := 19) (by decide +kernel); have gq33 := lv_neT q33 (a := 20) (by decide +kernel); have gq36 := lv_neT q36 (a := 21) (by decide +kernel); have gq44 := lv_neT q44 (a := 22) (by decide +kernel); omega) (by decide) ?_
  refine lv_aload_n hx hb dX12_orderValue_127 rfl (lv_at hl 0 rfl) ?_
  refine kI.callV (As := []) (rest := []) ⟨hx, hb, hml, hown, hg⟩ (m_standing l o r f a g hI   ) (cwV 0 hg (kgV wt6_116 wt6_118 wp3_13 wt1_14 wt6_119) rfl rfl rfl (by decide +kernel) ⟨by decide, by decide⟩) hK hP hD hS hA mIs [] rfl (wr := []) rfl rfl rfl (fun i h => by cases h) 0 12 rfl rfl rfl hl.1 rfl (Nat.le_of_ble_eq_true rfl) dX12_orderValue_128 ⟨Nat.le_refl _, Nat.le_refl _⟩ (fun v59 u60 H locs hw58 hP hD hS => ?_)
  have hP : va_P D vwCl (mW K o r f a g) H := hP
  have hD : va_D A (mW K o r f a g) := hD
  refine kN.callS (As := [.int v59]) (rest := []) ⟨hx, hb, hml, hown, hg⟩ (m_ones l v59 ) (va_cwS 1 hg (kgS wt7_71 wt7_72 wt1_14 wt7_73) rfl rfl rfl (by decide +kernel) ⟨by decide, by decide⟩) hP hS rfl hl.1 rfl (Nat.le_of_ble_eq_true rfl) dX12_orderValue_131 ⟨Nat.le_refl _, Nat.le_refl _⟩ (fun v62 H locs hw61 hP hS => ?_)
  exact kI_ret (v := v62) hx hb hr hlocks rfl hK hS dX12_orderValue_134 () hP hD (kb_w hw61 (by decide) (by decide))
