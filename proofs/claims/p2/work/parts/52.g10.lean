theorem w145 {a : Nat → Nat → Int32} {x y : Int32} (h : aI mBa a) (e : x.toInt = 145) (q : y = a 7 x.toNatClampNeg) : y = 32 := by
  have e2 : x.toNatClampNeg = 145 := by unfold Int32.toNatClampNeg; omega
  rw [e2] at q
  have b : kb 32 (a 7 145) 32 := aI_at h 7 145 (by decide +kernel) (by decide +kernel)
  have e3 : (32 : Int32).toInt = 32 := by decide +kernel
  rw [q]
  exact Int32.toInt_inj.mp (by rw [kb_c b, e3])
theorem w144 {a : Nat → Nat → Int32} {x y : Int32} (h : aI mBa a) (hx : x.toInt ≤ 145) (q : y = a 7 x.toNatClampNeg) (c : ¬ y = 32) : x.toInt ≤ 144 := by
  by_cases e : x.toInt = 145
  · exact absurd (w145 h e q) c
  · omega
theorem dX12_wordOf_0 : decode cX12_wordOf 0 = .ok (.iconst 1, 1) := by decide +kernel
theorem dX12_wordOf_1 : decode cX12_wordOf 1 = .ok (.istore_n 3, 1) := by decide +kernel
theorem dX12_wordOf_2 : decode cX12_wordOf 2 = .ok (.iconst 0, 1) := by decide +kernel
theorem dX12_wordOf_3 : decode cX12_wordOf 3 = .ok (.istore 4, 2) := by decide +kernel
theorem dX12_wordOf_5 : decode cX12_wordOf 5 = .ok (.iload 4, 2) := by decide +kernel
theorem dX12_wordOf_7 : decode cX12_wordOf 7 = .ok (.aload_n 0, 1) := by decide +kernel
theorem dX12_wordOf_8 : decode cX12_wordOf 8 = .ok (.getfield 37, 3) := by decide +kernel
theorem dX12_wordOf_11 : decode cX12_wordOf 11 = .ok (.arraylength, 1) := by decide +kernel
theorem dX12_wordOf_12 : decode cX12_wordOf 12 = .ok (.if_icmp .ge 114, 3) := by decide +kernel
theorem dX12_wordOf_15 : decode cX12_wordOf 15 = .ok (.iconst 0, 1) := by decide +kernel
theorem dX12_wordOf_16 : decode cX12_wordOf 16 = .ok (.istore 5, 2) := by decide +kernel
theorem dX12_wordOf_18 : decode cX12_wordOf 18 = .ok (.aload_n 0, 1) := by decide +kernel
theorem dX12_wordOf_19 : decode cX12_wordOf 19 = .ok (.getfield 37, 3) := by decide +kernel
theorem dX12_wordOf_22 : decode cX12_wordOf 22 = .ok (.iload 4, 2) := by decide +kernel
theorem dX12_wordOf_24 : decode cX12_wordOf 24 = .ok (.iload 5, 2) := by decide +kernel
theorem dX12_wordOf_26 : decode cX12_wordOf 26 = .ok (.iadd, 1) := by decide +kernel
theorem dX12_wordOf_27 : decode cX12_wordOf 27 = .ok (.baload, 1) := by decide +kernel
theorem dX12_wordOf_28 : decode cX12_wordOf 28 = .ok (.bipush 32, 2) := by decide +kernel
theorem dX12_wordOf_30 : decode cX12_wordOf 30 = .ok (.if_icmp .eq 9, 3) := by decide +kernel
theorem dX12_wordOf_33 : decode cX12_wordOf 33 = .ok (.iinc 5 1, 3) := by decide +kernel
theorem dX12_wordOf_36 : decode cX12_wordOf 36 = .ok (.goto (-18), 3) := by decide +kernel
theorem dX12_wordOf_39 : decode cX12_wordOf 39 = .ok (.iload 5, 2) := by decide +kernel
theorem dX12_wordOf_41 : decode cX12_wordOf 41 = .ok (.iload_n 2, 1) := by decide +kernel
theorem dX12_wordOf_42 : decode cX12_wordOf 42 = .ok (.iload_n 1, 1) := by decide +kernel
theorem dX12_wordOf_43 : decode cX12_wordOf 43 = .ok (.isub, 1) := by decide +kernel
theorem dX12_wordOf_44 : decode cX12_wordOf 44 = .ok (.if_icmp .ne 7, 3) := by decide +kernel
theorem dX12_wordOf_47 : decode cX12_wordOf 47 = .ok (.iconst 1, 1) := by decide +kernel
theorem dX12_wordOf_48 : decode cX12_wordOf 48 = .ok (.goto 4, 3) := by decide +kernel
theorem dX12_wordOf_51 : decode cX12_wordOf 51 = .ok (.iconst 0, 1) := by decide +kernel
theorem dX12_wordOf_52 : decode cX12_wordOf 52 = .ok (.istore 6, 2) := by decide +kernel
theorem dX12_wordOf_54 : decode cX12_wordOf 54 = .ok (.iconst 0, 1) := by decide +kernel
theorem dX12_wordOf_55 : decode cX12_wordOf 55 = .ok (.istore 7, 2) := by decide +kernel
theorem dX12_wordOf_57 : decode cX12_wordOf 57 = .ok (.iload 7, 2) := by decide +kernel
theorem dX12_wordOf_59 : decode cX12_wordOf 59 = .ok (.iload 5, 2) := by decide +kernel
theorem dX12_wordOf_61 : decode cX12_wordOf 61 = .ok (.if_icmp .ge 43, 3) := by decide +kernel
theorem dX12_wordOf_64 : decode cX12_wordOf 64 = .ok (.iload 6, 2) := by decide +kernel
theorem dX12_wordOf_66 : decode cX12_wordOf 66 = .ok (.ifCond .eq 38, 3) := by decide +kernel
theorem dX12_wordOf_69 : decode cX12_wordOf 69 = .ok (.aload_n 0, 1) := by decide +kernel
theorem dX12_wordOf_70 : decode cX12_wordOf 70 = .ok (.getfield 37, 3) := by decide +kernel
theorem dX12_wordOf_73 : decode cX12_wordOf 73 = .ok (.iload 4, 2) := by decide +kernel
theorem dX12_wordOf_75 : decode cX12_wordOf 75 = .ok (.iload 7, 2) := by decide +kernel
theorem dX12_wordOf_77 : decode cX12_wordOf 77 = .ok (.iadd, 1) := by decide +kernel
theorem dX12_wordOf_78 : decode cX12_wordOf 78 = .ok (.baload, 1) := by decide +kernel
theorem dX12_wordOf_79 : decode cX12_wordOf 79 = .ok (.aload_n 0, 1) := by decide +kernel
theorem dX12_wordOf_80 : decode cX12_wordOf 80 = .ok (.getfield 41, 3) := by decide +kernel
theorem dX12_wordOf_83 : decode cX12_wordOf 83 = .ok (.iload_n 1, 1) := by decide +kernel
theorem dX12_wordOf_84 : decode cX12_wordOf 84 = .ok (.iload 7, 2) := by decide +kernel
theorem dX12_wordOf_86 : decode cX12_wordOf 86 = .ok (.iadd, 1) := by decide +kernel
theorem dX12_wordOf_87 : decode cX12_wordOf 87 = .ok (.baload, 1) := by decide +kernel
theorem dX12_wordOf_88 : decode cX12_wordOf 88 = .ok (.if_icmp .ne 7, 3) := by decide +kernel
theorem dX12_wordOf_91 : decode cX12_wordOf 91 = .ok (.iconst 1, 1) := by decide +kernel
theorem dX12_wordOf_92 : decode cX12_wordOf 92 = .ok (.goto 4, 3) := by decide +kernel
theorem dX12_wordOf_95 : decode cX12_wordOf 95 = .ok (.iconst 0, 1) := by decide +kernel
theorem dX12_wordOf_96 : decode cX12_wordOf 96 = .ok (.istore 6, 2) := by decide +kernel
theorem dX12_wordOf_98 : decode cX12_wordOf 98 = .ok (.iinc 7 1, 3) := by decide +kernel
theorem dX12_wordOf_101 : decode cX12_wordOf 101 = .ok (.goto (-44), 3) := by decide +kernel
theorem dX12_wordOf_104 : decode cX12_wordOf 104 = .ok (.iload 6, 2) := by decide +kernel
theorem dX12_wordOf_106 : decode cX12_wordOf 106 = .ok (.ifCond .eq 5, 3) := by decide +kernel
theorem dX12_wordOf_109 : decode cX12_wordOf 109 = .ok (.iload_n 3, 1) := by decide +kernel
theorem dX12_wordOf_110 : decode cX12_wordOf 110 = .ok (.ireturn, 1) := by decide +kernel
theorem dX12_wordOf_111 : decode cX12_wordOf 111 = .ok (.iload 4, 2) := by decide +kernel
theorem dX12_wordOf_113 : decode cX12_wordOf 113 = .ok (.iload 5, 2) := by decide +kernel
theorem dX12_wordOf_115 : decode cX12_wordOf 115 = .ok (.iconst 1, 1) := by decide +kernel
theorem dX12_wordOf_116 : decode cX12_wordOf 116 = .ok (.iadd, 1) := by decide +kernel
theorem dX12_wordOf_117 : decode cX12_wordOf 117 = .ok (.iadd, 1) := by decide +kernel
theorem dX12_wordOf_118 : decode cX12_wordOf 118 = .ok (.istore 4, 2) := by decide +kernel
theorem dX12_wordOf_120 : decode cX12_wordOf 120 = .ok (.iinc 3 1, 3) := by decide +kernel
theorem dX12_wordOf_123 : decode cX12_wordOf 123 = .ok (.goto (-118), 3) := by decide +kernel
theorem dX12_wordOf_126 : decode cX12_wordOf 126 = .ok (.iconst 0, 1) := by decide +kernel
theorem dX12_wordOf_127 : decode cX12_wordOf 127 = .ok (.ireturn, 1) := by decide +kernel
theorem dX12_readClause_0 : decode cX12_readClause 0 = .ok (.aload_n 0, 1) := by decide +kernel
theorem dX12_readClause_1 : decode cX12_readClause 1 = .ok (.iconst 1, 1) := by decide +kernel
theorem dX12_readClause_2 : decode cX12_readClause 2 = .ok (.invokevirtual 168, 3) := by decide +kernel
theorem dX12_readClause_5 : decode cX12_readClause 5 = .ok (.ifCond .ne 19, 3) := by decide +kernel
theorem dX12_readClause_8 : decode cX12_readClause 8 = .ok (.aload_n 0, 1) := by decide +kernel
theorem dX12_readClause_9 : decode cX12_readClause 9 = .ok (.iconst 2, 1) := by decide +kernel
theorem dX12_readClause_10 : decode cX12_readClause 10 = .ok (.invokevirtual 168, 3) := by decide +kernel
theorem dX12_readClause_13 : decode cX12_readClause 13 = .ok (.ifCond .ne 11, 3) := by decide +kernel
theorem dX12_readClause_16 : decode cX12_readClause 16 = .ok (.aload_n 0, 1) := by decide +kernel
theorem dX12_readClause_17 : decode cX12_readClause 17 = .ok (.iconst 3, 1) := by decide +kernel
theorem dX12_readClause_18 : decode cX12_readClause 18 = .ok (.invokevirtual 168, 3) := by decide +kernel
theorem dX12_readClause_21 : decode cX12_readClause 21 = .ok (.ifCond .eq 11, 3) := by decide +kernel
theorem dX12_readClause_24 : decode cX12_readClause 24 = .ok (.aload_n 0, 1) := by decide +kernel
theorem dX12_readClause_25 : decode cX12_readClause 25 = .ok (.iconst 0, 1) := by decide +kernel
theorem dX12_readClause_26 : decode cX12_readClause 26 = .ok (.invokevirtual 177, 3) := by decide +kernel
theorem dX12_readClause_29 : decode cX12_readClause 29 = .ok (.goto 8, 3) := by decide +kernel
theorem dX12_readClause_32 : decode cX12_readClause 32 = .ok (.aload_n 0, 1) := by decide +kernel
theorem dX12_readClause_33 : decode cX12_readClause 33 = .ok (.iconst 4, 1) := by decide +kernel
theorem dX12_readClause_34 : decode cX12_readClause 34 = .ok (.invokevirtual 181, 3) := by decide +kernel
theorem dX12_readClause_37 : decode cX12_readClause 37 = .ok (.aload_n 0, 1) := by decide +kernel
theorem dX12_readClause_38 : decode cX12_readClause 38 = .ok (.iconst 5, 1) := by decide +kernel
theorem dX12_readClause_39 : decode cX12_readClause 39 = .ok (.invokevirtual 168, 3) := by decide +kernel
theorem dX12_readClause_42 : decode cX12_readClause 42 = .ok (.ifCond .eq 8, 3) := by decide +kernel
theorem dX12_readClause_45 : decode cX12_readClause 45 = .ok (.aload_n 0, 1) := by decide +kernel
theorem dX12_readClause_46 : decode cX12_readClause 46 = .ok (.iconst 0, 1) := by decide +kernel
theorem dX12_readClause_47 : decode cX12_readClause 47 = .ok (.invokevirtual 184, 3) := by decide +kernel
theorem dX12_readClause_50 : decode cX12_readClause 50 = .ok (.return_, 1) := by decide +kernel
theorem dX12_readOrder_0 : decode cX12_readOrder 0 = .ok (.aload_n 0, 1) := by decide +kernel
theorem dX12_readOrder_1 : decode cX12_readOrder 1 = .ok (.bipush 23, 2) := by decide +kernel
theorem dX12_readOrder_3 : decode cX12_readOrder 3 = .ok (.invokevirtual 168, 3) := by decide +kernel
theorem dX12_readOrder_6 : decode cX12_readOrder 6 = .ok (.ifCond .eq 22, 3) := by decide +kernel
theorem dX12_readOrder_9 : decode cX12_readOrder 9 = .ok (.aload_n 0, 1) := by decide +kernel
theorem dX12_readOrder_10 : decode cX12_readOrder 10 = .ok (.iconst 0, 1) := by decide +kernel
theorem dX12_readOrder_11 : decode cX12_readOrder 11 = .ok (.invokevirtual 177, 3) := by decide +kernel
theorem dX12_readOrder_14 : decode cX12_readOrder 14 = .ok (.aload_n 0, 1) := by decide +kernel
theorem dX12_readOrder_15 : decode cX12_readOrder 15 = .ok (.bipush 24, 2) := by decide +kernel
theorem dX12_readOrder_17 : decode cX12_readOrder 17 = .ok (.invokevirtual 181, 3) := by decide +kernel
theorem dX12_readOrder_20 : decode cX12_readOrder 20 = .ok (.aload_n 0, 1) := by decide +kernel
theorem dX12_readOrder_21 : decode cX12_readOrder 21 = .ok (.iconst 0, 1) := by decide +kernel
theorem dX12_readOrder_22 : decode cX12_readOrder 22 = .ok (.invokevirtual 177, 3) := by decide +kernel
theorem dX12_readOrder_25 : decode cX12_readOrder 25 = .ok (.goto 35, 3) := by decide +kernel
theorem dX12_readOrder_28 : decode cX12_readOrder 28 = .ok (.aload_n 0, 1) := by decide +kernel
theorem dX12_readOrder_29 : decode cX12_readOrder 29 = .ok (.bipush 25, 2) := by decide +kernel
theorem dX12_readOrder_31 : decode cX12_readOrder 31 = .ok (.invokevirtual 168, 3) := by decide +kernel
theorem dX12_readOrder_34 : decode cX12_readOrder 34 = .ok (.ifCond .ne 12, 3) := by decide +kernel
theorem dX12_readOrder_37 : decode cX12_readOrder 37 = .ok (.aload_n 0, 1) := by decide +kernel
theorem dX12_readOrder_38 : decode cX12_readOrder 38 = .ok (.bipush 26, 2) := by decide +kernel
theorem dX12_readOrder_40 : decode cX12_readOrder 40 = .ok (.invokevirtual 168, 3) := by decide +kernel
theorem dX12_readOrder_43 : decode cX12_readOrder 43 = .ok (.ifCond .eq 11, 3) := by decide +kernel
theorem dX12_readOrder_46 : decode cX12_readOrder 46 = .ok (.aload_n 0, 1) := by decide +kernel
theorem dX12_readOrder_47 : decode cX12_readOrder 47 = .ok (.iconst 0, 1) := by decide +kernel
theorem dX12_readOrder_48 : decode cX12_readOrder 48 = .ok (.invokevirtual 177, 3) := by decide +kernel
theorem dX12_readOrder_51 : decode cX12_readOrder 51 = .ok (.goto 9, 3) := by decide +kernel
theorem dX12_readOrder_54 : decode cX12_readOrder 54 = .ok (.aload_n 0, 1) := by decide +kernel
theorem dX12_readOrder_55 : decode cX12_readOrder 55 = .ok (.bipush 27, 2) := by decide +kernel
theorem dX12_readOrder_57 : decode cX12_readOrder 57 = .ok (.invokevirtual 181, 3) := by decide +kernel
theorem dX12_readOrder_60 : decode cX12_readOrder 60 = .ok (.aload_n 0, 1) := by decide +kernel
theorem dX12_readOrder_61 : decode cX12_readOrder 61 = .ok (.bipush 28, 2) := by decide +kernel
theorem dX12_readOrder_63 : decode cX12_readOrder 63 = .ok (.invokevirtual 168, 3) := by decide +kernel
theorem dX12_readOrder_66 : decode cX12_readOrder 66 = .ok (.ifCond .eq 10, 3) := by decide +kernel
theorem dX12_readOrder_69 : decode cX12_readOrder 69 = .ok (.aload_n 0, 1) := by decide +kernel
theorem dX12_readOrder_70 : decode cX12_readOrder 70 = .ok (.iconst 1, 1) := by decide +kernel
theorem dX12_readOrder_71 : decode cX12_readOrder 71 = .ok (.bipush 20, 2) := by decide +kernel
theorem dX12_readOrder_73 : decode cX12_readOrder 73 = .ok (.invokevirtual 187, 3) := by decide +kernel
theorem dX12_readOrder_76 : decode cX12_readOrder 76 = .ok (.aload_n 0, 1) := by decide +kernel
theorem dX12_readOrder_77 : decode cX12_readOrder 77 = .ok (.iconst 5, 1) := by decide +kernel
theorem dX12_readOrder_78 : decode cX12_readOrder 78 = .ok (.invokevirtual 168, 3) := by decide +kernel
theorem dX12_readOrder_81 : decode cX12_readOrder 81 = .ok (.ifCond .eq 8, 3) := by decide +kernel
theorem dX12_readOrder_84 : decode cX12_readOrder 84 = .ok (.aload_n 0, 1) := by decide +kernel
theorem dX12_readOrder_85 : decode cX12_readOrder 85 = .ok (.iconst 0, 1) := by decide +kernel
theorem dX12_readOrder_86 : decode cX12_readOrder 86 = .ok (.invokevirtual 184, 3) := by decide +kernel
theorem dX12_readOrder_89 : decode cX12_readOrder 89 = .ok (.return_, 1) := by decide +kernel
theorem dX12_readOne_0 : decode cX12_readOne 0 = .ok (.aload_n 0, 1) := by decide +kernel
theorem dX12_readOne_1 : decode cX12_readOne 1 = .ok (.getfield 191, 3) := by decide +kernel
theorem dX12_readOne_4 : decode cX12_readOne 4 = .ok (.ifCond .eq 10, 3) := by decide +kernel
theorem dX12_readOne_7 : decode cX12_readOne 7 = .ok (.aload_n 0, 1) := by decide +kernel
theorem dX12_readOne_8 : decode cX12_readOne 8 = .ok (.invokevirtual 195, 3) := by decide +kernel
theorem dX12_readOne_11 : decode cX12_readOne 11 = .ok (.goto 7, 3) := by decide +kernel
theorem dX12_readOne_14 : decode cX12_readOne 14 = .ok (.aload_n 0, 1) := by decide +kernel
theorem dX12_readOne_15 : decode cX12_readOne 15 = .ok (.invokevirtual 198, 3) := by decide +kernel
theorem dX12_readOne_18 : decode cX12_readOne 18 = .ok (.return_, 1) := by decide +kernel
theorem wt7_11 : Cond.methodLink RX12 198 yX12_readClause ∈ kG := kt7 11 rfl rfl
theorem wt7_13 : Cond.instanceMethod yX12_readClause ∈ kG := kt7 13 rfl rfl
theorem wp5_2 : Cond.selects RX12 yX12_readClause yX12_readClause ∈ kG := kp5 2 rfl rfl
theorem wt7_14 : Cond.code yX12_readClause cX12_readClause 1 none ∈ kG := kt7 14 rfl rfl
theorem wt6_196 : Cond.methodLink RX12 195 yX12_readOrder ∈ kG := kt6 196 rfl rfl
theorem wt6_198 : Cond.instanceMethod yX12_readOrder ∈ kG := kt6 198 rfl rfl
theorem wp4_5 : Cond.selects RX12 yX12_readOrder yX12_readOrder ∈ kG := kp4 5 rfl rfl
theorem wt6_199 : Cond.code yX12_readOrder cX12_readOrder 1 none ∈ kG := kt6 199 rfl rfl
theorem kc_146 : kb 146 146 146 := ⟨by decide +kernel, by decide +kernel⟩
theorem kc_25 : kb 25 25 25 := ⟨by decide +kernel, by decide +kernel⟩
theorem kc_26 : kb 26 26 26 := ⟨by decide +kernel, by decide +kernel⟩
theorem kc_27 : kb 27 27 27 := ⟨by decide +kernel, by decide +kernel⟩
theorem kc_28 : kb 28 28 28 := ⟨by decide +kernel, by decide +kernel⟩
theorem kc_32 : kb 32 32 32 := ⟨by decide +kernel, by decide +kernel⟩
set_option maxHeartbeats 4000000 in
set_option maxRecDepth 100000 in
theorem m_readClause  (l : Launch) {D : va_G} {K : Nat → ClassId} (o : Nat) (r : Nat → Nat) (f : Nat → Int32) (a : Nat → Nat → Int32) (g : Nat → Int64) (hI : mI f a)   (N i : Nat) (ob : Bool) (hp0 : rS f a N ob) (hp1 : (f 19).toInt = (i : Int)) (hp2 : i ≤ N) : kV l yX12_readClause (Cond.code yX12_readClause cX12_readClause 1 none :: kG) (rmD 48 0 0) D (tysK K) [.ref o] (mW K o r f a g) (fun (u : Nat → Int32) => mI u a ∧ fE [19, 20, 21] f u ∧ (∃ i2 : Nat, (u 19).toInt = (i2 : Int) ∧ i ≤ i2 ∧ i2 ≤ N ∧ (u 21 = -1 → f 21 = -1 ∧ gG ob (rC (a 15) N) 8 11 i i2))) (fun u => mW K o r u a g) 0 0 := by
  refine kV.of (cc := cX12_readClause) (maxL := 1) (ret := none) (by decide) rfl (Nat.le_of_ble_eq_true rfl) ?_
  intro p e s m below meth c A hx hb hr hml hown hts hlocks hnm hK hP hD hS hA ls hl
  have hE : fE [19, 20, 21] f f := fE_rf
  have hg : ∀ w ∈ kG, w.before _ s = true := fun w h => hts w (List.mem_cons_of_mem _ h)
  have hown : s.vm.findClass RX12 = some m.cls := hown
  have hl : lv_has ls 1 [(0, .ref o)] := hl
  obtain ⟨c19, ec19⟩ : ∃ z : Int32, z = f 19 := ⟨_, rfl⟩
  have hg0 : c19.toInt = (i : Int) := by rw [ec19]; exact hp1
  have b1 : kb 0 c19 400 := kb_tok hp0 hp2 hg0
  refine lv_aload_n hx hb dX12_readClause_0 rfl (lv_at hl 0 rfl) ?_
  refine lv_iconst (v := 1) hx hb dX12_readClause_1 (by decide) ?_
  refine kI.callV (As := [.int 1]) (rest := []) ⟨hx, hb, hml, hown, hg⟩ (m_takes0 l o r f a g hI 1 (kb_w kc_1 (by decide) (by decide)) N (i) ob (rS_fE hE hp0 (by decide)) (by rw [ec19.symm]; exact hg0) hp2) (cwV 1 hg (kgV wt6_200 wt6_202 wp4_6 wt1_14 wt6_203) rfl rfl rfl (by decide +kernel) ⟨by decide, by decide⟩) hK hP hD hS hA mIs [] rfl (wr := []) rfl rfl rfl (fun i h => by cases h) 0 12 rfl rfl rfl hl.1 rfl (Nat.le_of_ble_eq_true rfl) dX12_readClause_2 ⟨Nat.le_refl _, Nat.le_refl _⟩ (fun v3 u4 H locs hw2 hP hD hS => ?_)
  have hP : va_P D vwCl (mW K o r u4 a g) H := hP
  have hD : va_D A (mW K o r u4 a g) := hD
  have hI : mI u4 a := hw2.2.1
  have eE5 : fE [19] f u4 := hw2.2.2.1
  have hE : fE [19, 20, 21] f u4 := fE_tr hE (fE_w (by decide) eE5)
  rcases hw2.2.2.2 with ⟨hvk6, hbk6, htk6, hpk6, hlk6⟩ | ⟨hvk6, hnk6, hpk6⟩
  · refine k_top (z := 1) hvk6 ?_
    obtain ⟨gv7, egv7⟩ : ∃ z : Int32, z = u4 19 := ⟨_, rfl⟩
    have hg8 : gv7.toInt = ((i + 1 : Nat) : Int) := by rw [egv7]; exact hpk6
    have b9 : kb 0 gv7 400 := kb_tok (rS_fE hE hp0 (by decide)) hlk6 hg8
    refine lv_if_ne (tgt := 24) hx hb dX12_readClause_5 (by decide) (fun c10 => ?_) (fun c10 => ?_)
    · refine lv_aload_n hx hb dX12_readClause_24 rfl (lv_at hl 0 rfl) ?_
      refine lv_iconst (v := 0) hx hb dX12_readClause_25 (by decide) ?_
      refine kV.callV (As := [.int 0]) (rest := []) ⟨hx, hb, hml, hown, hg⟩ ((m_allRSum 8) l o r u4 a g hI 0 (kb_w kc_0 (by decide) (by decide)) N (i + 1) ob (rS_fE hE hp0 (by decide)) (by rw [egv7.symm]; exact hg8) hlk6 (by decide +kernel)) (cwV 1 hg (kgV wt6_208 wt6_210 wp4_8 wt1_14 wt6_211) rfl rfl rfl (by decide +kernel) ⟨by decide, by decide⟩) hK hP hD hS hA mIs [] rfl (wr := []) rfl rfl rfl (fun i h => by cases h) 0 12 rfl rfl rfl hl.1 rfl (Nat.le_of_ble_eq_true rfl) dX12_readClause_26 ⟨Nat.le_refl _, Nat.le_refl _⟩ (fun u13 H locs hw11 hP hD hS => ?_)
      have hP : va_P D vwCl (mW K o r u13 a g) H := hP
      have hD : va_D A (mW K o r u13 a g) := hD
      have hI : mI u13 a := hw11.1
      have eE14 : fE [19, 20, 21] u4 u13 := hw11.2.1
      have hE : fE [19, 20, 21] f u13 := fE_tr hE eE14
      obtain ⟨ik15, hgk15, hlek15, hNk15, hik15⟩ := hw11.2.2
      obtain ⟨gv16, egv16⟩ : ∃ z : Int32, z = u13 19 := ⟨_, rfl⟩
      have hg17 : gv16.toInt = ((ik15 : Nat) : Int) := by rw [egv16]; exact hgk15
      have b18 : kb 0 gv16 400 := kb_tok (rS_fE hE hp0 (by decide)) hNk15 hg17
      refine lv_goto (tgt := 37) hx hb dX12_readClause_29 (by decide) ?_
      refine lv_aload_n hx hb dX12_readClause_37 rfl (lv_at hl 0 rfl) ?_
      refine lv_iconst (v := 5) hx hb dX12_readClause_38 (by decide) ?_
      refine kI.callV (As := [.int 5]) (rest := []) ⟨hx, hb, hml, hown, hg⟩ (m_takes0 l o r u13 a g hI 5 (kb_w kc_5 (by decide) (by decide)) N (ik15) ob (rS_fE hE hp0 (by decide)) (by rw [egv16.symm]; exact hg17) hNk15) (cwV 1 hg (kgV wt6_200 wt6_202 wp4_6 wt1_14 wt6_203) rfl rfl rfl (by decide +kernel) ⟨by decide, by decide⟩) hK hP hD hS hA mIs [] rfl (wr := []) rfl rfl rfl (fun i h => by cases h) 0 12 rfl rfl rfl hl.1 rfl (Nat.le_of_ble_eq_true rfl) dX12_readClause_39 ⟨Nat.le_refl _, Nat.le_refl _⟩ (fun v20 u21 H locs hw19 hP hD hS => ?_)
      have hP : va_P D vwCl (mW K o r u21 a g) H := hP
      have hD : va_D A (mW K o r u21 a g) := hD
      have hI : mI u21 a := hw19.2.1
      have eE22 : fE [19] u13 u21 := hw19.2.2.1
      have hE : fE [19, 20, 21] f u21 := fE_tr hE (fE_w (by decide) eE22)
      rcases hw19.2.2.2 with ⟨hvk23, hbk23, htk23, hpk23, hlk23⟩ | ⟨hvk23, hnk23, hpk23⟩
      · refine k_top (z := 1) hvk23 ?_
        obtain ⟨gv24, egv24⟩ : ∃ z : Int32, z = u21 19 := ⟨_, rfl⟩
        have hg25 : gv24.toInt = ((ik15 + 1 : Nat) : Int) := by rw [egv24]; exact hpk23
        have b26 : kb 0 gv24 400 := kb_tok (rS_fE hE hp0 (by decide)) hlk23 hg25
        refine lv_if_eq (tgt := 50) hx hb dX12_readClause_42 (by decide) (fun c27 => ?_) (fun c27 => ?_)
        · exact kb_dj c27 kc_1 kc_0 (by decide)
        · refine lv_aload_n hx hb dX12_readClause_45 rfl (lv_at hl 0 rfl) ?_
          refine lv_iconst (v := 0) hx hb dX12_readClause_46 (by decide) ?_
          refine kV.callV (As := [.int 0]) (rest := []) ⟨hx, hb, hml, hown, hg⟩ ((m_allRTest 8) l o r u21 a g hI 0 (kb_w kc_0 (by decide) (by decide)) N (ik15 + 1) ob (rS_fE hE hp0 (by decide)) (by rw [egv24.symm]; exact hg25) hlk23 (by decide +kernel)) (cwV 1 hg (kgV wt6_239 wt7_1 wp4_15 wt1_14 wt7_2) rfl rfl rfl (by decide +kernel) ⟨by decide, by decide⟩) hK hP hD hS hA mIs [] rfl (wr := []) rfl rfl rfl (fun i h => by cases h) 0 12 rfl rfl rfl hl.1 rfl (Nat.le_of_ble_eq_true rfl) dX12_readClause_47 ⟨Nat.le_refl _, Nat.le_refl _⟩ (fun u30 H locs hw28 hP hD hS => ?_)
          have hP : va_P D vwCl (mW K o r u30 a g) H := hP
          have hD : va_D A (mW K o r u30 a g) := hD
          have hI : mI u30 a := hw28.1
          have eE31 : fE [19, 20, 21] u21 u30 := hw28.2.1
          have hE : fE [19, 20, 21] f u30 := fE_tr hE eE31
          obtain ⟨ik32, hgk32, hlek32, hNk32, hik32⟩ := hw28.2.2
          obtain ⟨gv33, egv33⟩ : ∃ z : Int32, z = u30 19 := ⟨_, rfl⟩
          have hg34 : gv33.toInt = ((ik32 : Nat) : Int) := by rw [egv33]; exact hgk32
          have b35 : kb 0 gv33 400 := kb_tok (rS_fE hE hp0 (by decide)) hNk32 hg34
          exact kV_ret hx hb hr hlocks hK hS dX12_readClause_50 u30 hP hD ⟨hI, hE, ⟨ik32, (by rw [egv33.symm]; exact hg34), (Nat.le_trans (Nat.le_succ_of_le (Nat.le_trans (Nat.le_succ_of_le (Nat.le_refl i)) hlek15)) hlek32), hNk32, (fun hq => by obtain ⟨q36, xk32⟩ := hik32 hq; have q37 := (eE22 21 (by decide)).symm.trans q36; obtain ⟨q38, xk15⟩ := hik15 q37; have q39 := (eE5 21 (by decide)).symm.trans q38; exact ⟨q39, gi_11a (Or.inl htk6) xk15 (gi_12y htk23 xk32)⟩)⟩⟩
      · refine k_top (z := 0) hvk23 ?_
        obtain ⟨gv40, egv40⟩ : ∃ z : Int32, z = u21 19 := ⟨_, rfl⟩
        have hg41 : gv40.toInt = ((ik15 : Nat) : Int) := by rw [egv40]; exact hpk23
        have b42 : kb 0 gv40 400 := kb_tok (rS_fE hE hp0 (by decide)) hNk15 hg41
        refine lv_if_eq (tgt := 50) hx hb dX12_readClause_42 (by decide) (fun c43 => ?_) (fun c43 => ?_)
        · exact kV_ret hx hb hr hlocks hK hS dX12_readClause_50 u21 hP hD ⟨hI, hE, ⟨ik15, (by rw [egv40.symm]; exact hg41), (Nat.le_trans (Nat.le_succ_of_le (Nat.le_refl i)) hlek15), hNk15, (fun hq => by have q44 := (eE22 21 (by decide)).symm.trans hq; have nnk23 := hnk23 q44; obtain ⟨q45, xk15⟩ := hik15 q44; have q46 := (eE5 21 (by decide)).symm.trans q45; exact ⟨q46, gi_11a (Or.inl htk6) xk15 (gi_12n nnk23)⟩)⟩⟩
        · exact kb_nsame c43 kc_0 kc_0
    · exact kb_dj c10 kc_1 kc_0 (by decide)
  · refine k_top (z := 0) hvk6 ?_
    obtain ⟨gv47, egv47⟩ : ∃ z : Int32, z = u4 19 := ⟨_, rfl⟩
    have hg48 : gv47.toInt = ((i : Nat) : Int) := by rw [egv47]; exact hpk6
    have b49 : kb 0 gv47 400 := kb_tok (rS_fE hE hp0 (by decide)) hp2 hg48
    refine lv_if_ne (tgt := 24) hx hb dX12_readClause_5 (by decide) (fun c50 => ?_) (fun c50 => ?_)
    · exact kb_nsame c50 kc_0 kc_0
    · refine lv_aload_n hx hb dX12_readClause_8 rfl (lv_at hl 0 rfl) ?_
      refine lv_iconst (v := 2) hx hb dX12_readClause_9 (by decide) ?_
      refine kI.callV (As := [.int 2]) (rest := []) ⟨hx, hb, hml, hown, hg⟩ (m_takes0 l o r u4 a g hI 2 (kb_w kc_2 (by decide) (by decide)) N (i) ob (rS_fE hE hp0 (by decide)) (by rw [egv47.symm]; exact hg48) hp2) (cwV 1 hg (kgV wt6_200 wt6_202 wp4_6 wt1_14 wt6_203) rfl rfl rfl (by decide +kernel) ⟨by decide, by decide⟩) hK hP hD hS hA mIs [] rfl (wr := []) rfl rfl rfl (fun i h => by cases h) 0 12 rfl rfl rfl hl.1 rfl (Nat.le_of_ble_eq_true rfl) dX12_readClause_10 ⟨Nat.le_refl _, Nat.le_refl _⟩ (fun v52 u53 H locs hw51 hP hD hS => ?_)
      have hP : va_P D vwCl (mW K o r u53 a g) H := hP
      have hD : va_D A (mW K o r u53 a g) := hD
      have hI : mI u53 a := hw51.2.1
      have eE54 : fE [19] u4 u53 := hw51.2.2.1
      have hE : fE [19, 20, 21] f u53 := fE_tr hE (fE_w (by decide) eE54)
      rcases hw51.2.2.2 with ⟨hvk55, hbk55, htk55, hpk55, hlk55⟩ | ⟨hvk55, hnk55, hpk55⟩
      · refine k_top (z := 1) hvk55 ?_
        obtain ⟨gv56, egv56⟩ : ∃ z : Int32, z = u53 19 := ⟨_, rfl⟩
        have hg57 : gv56.toInt = ((i + 1 : Nat) : Int) := by rw [egv56]; exact hpk55
        have b58 : kb 0 gv56 400 := kb_tok (rS_fE hE hp0 (by decide)) hlk55 hg57
        refine lv_if_ne (tgt := 24) hx hb dX12_readClause_13 (by decide) (fun c59 => ?_) (fun c59 => ?_)
        · refine lv_aload_n hx hb dX12_readClause_24 rfl (lv_at hl 0 rfl) ?_
          refine lv_iconst (v := 0) hx hb dX12_readClause_25 (by decide) ?_
          refine kV.callV (As := [.int 0]) (rest := []) ⟨hx, hb, hml, hown, hg⟩ ((m_allRSum 8) l o r u53 a g hI 0 (kb_w kc_0 (by decide) (by decide)) N (i + 1) ob (rS_fE hE hp0 (by decide)) (by rw [egv56.symm]; exact hg57) hlk55 (by decide +kernel)) (cwV 1 hg (kgV wt6_208 wt6_210 wp4_8 wt1_14 wt6_211) rfl rfl rfl (by decide +kernel) ⟨by decide, by decide⟩) hK hP hD hS hA mIs [] rfl (wr := []) rfl rfl rfl (fun i h => by cases h) 0 12 rfl rfl rfl hl.1 rfl (Nat.le_of_ble_eq_true rfl) dX12_readClause_26 ⟨Nat.le_refl _, Nat.le_refl _⟩ (fun u62 H locs hw60 hP hD hS => ?_)
          have hP : va_P D vwCl (mW K o r u62 a g) H := hP
          have hD : va_D A (mW K o r u62 a g) := hD
          have hI : mI u62 a := hw60.1
          have eE63 : fE [19, 20, 21] u53 u62 := hw60.2.1
          have hE : fE [19, 20, 21] f u62 := fE_tr hE eE63
          obtain ⟨ik64, hgk64, hlek64, hNk64, hik64⟩ := hw60.2.2
          obtain ⟨gv65, egv65⟩ : ∃ z : Int32, z = u62 19 := ⟨_, rfl⟩
          have hg66 : gv65.toInt = ((ik64 : Nat) : Int) := by rw [egv65]; exact hgk64
          have b67 : kb 0 gv65 400 := kb_tok (rS_fE hE hp0 (by decide)) hNk64 hg66
          refine lv_goto (tgt := 37) hx hb dX12_readClause_29 (by decide) ?_
          refine lv_aload_n hx hb dX12_readClause_37 rfl (lv_at hl 0 rfl) ?_
          refine lv_iconst (v := 5) hx hb dX12_readClause_38 (by decide) ?_
          refine kI.callV (As := [.int 5]) (rest := []) ⟨hx, hb, hml, hown, hg⟩ (m_takes0 l o r u62 a g hI 5 (kb_w kc_5 (by decide) (by decide)) N (ik64) ob (rS_fE hE hp0 (by decide)) (by rw [egv65.symm]; exact hg66) hNk64) (cwV 1 hg (kgV wt6_200 wt6_202 wp4_6 wt1_14 wt6_203) rfl rfl rfl (by decide +kernel) ⟨by decide, by decide⟩) hK hP hD hS hA mIs [] rfl (wr := []) rfl rfl rfl (fun i h => by cases h) 0 12 rfl rfl rfl hl.1 rfl (Nat.le_of_ble_eq_true rfl) dX12_readClause_39 ⟨Nat.le_refl _, Nat.le_refl _⟩ (fun v69 u70 H locs hw68 hP hD hS => ?_)
          have hP : va_P D vwCl (mW K o r u70 a g) H := hP
          have hD : va_D A (mW K o r u70 a g) := hD
          have hI : mI u70 a := hw68.2.1
          have eE71 : fE [19] u62 u70 := hw68.2.2.1
          have hE : fE [19, 20, 21] f u70 := fE_tr hE (fE_w (by decide) eE71)
          rcases hw68.2.2.2 with ⟨hvk72, hbk72, htk72, hpk72, hlk72⟩ | ⟨hvk72, hnk72, hpk72⟩
          · refine k_top (z := 1) hvk72 ?_
            obtain ⟨gv73, egv73⟩ : ∃ z : Int32, z = u70 19 := ⟨_, rfl⟩
            have hg74 : gv73.toInt = ((ik64 + 1 : Nat) : Int) := by rw [egv73]; exact hpk72
            have b75 : kb 0 gv73 400 := kb_tok (rS_fE hE hp0 (by decide)) hlk72 hg74
            refine lv_if_eq (tgt := 50) hx hb dX12_readClause_42 (by decide) (fun c76 => ?_) (fun c76 => ?_)
            · exact kb_dj c76 kc_1 kc_0 (by decide)
            · refine lv_aload_n hx hb dX12_readClause_45 rfl (lv_at hl 0 rfl) ?_
              refine lv_iconst (v := 0) hx hb dX12_readClause_46 (by decide) ?_
              refine kV.callV (As := [.int 0]) (rest := []) ⟨hx, hb, hml, hown, hg⟩ ((m_allRTest 8) l o r u70 a g hI 0 (kb_w kc_0 (by decide) (by decide)) N (ik64 + 1) ob (rS_fE hE hp0 (by decide)) (by rw [egv73.symm]; exact hg74) hlk72 (by decide +kernel)) (cwV 1 hg (kgV wt6_239 wt7_1 wp4_15 wt1_14 wt7_2) rfl rfl rfl (by decide +kernel) ⟨by decide, by decide⟩) hK hP hD hS hA mIs [] rfl (wr := []) rfl rfl rfl (fun i h => by cases h) 0 12 rfl rfl rfl hl.1 rfl (Nat.le_of_ble_eq_true rfl) dX12_readClause_47 ⟨Nat.le_refl _, Nat.le_refl _⟩ (fun u79 H locs hw77 hP hD hS => ?_)
              have hP : va_P D vwCl (mW K o r u79 a g) H := hP
              have hD : va_D A (mW K o r u79 a g) := hD
              have hI : mI u79 a := hw77.1
              have eE80 : fE [19, 20, 21] u70 u79 := hw77.2.1
              have hE : fE [19, 20, 21] f u79 := fE_tr hE eE80
              obtain ⟨ik81, hgk81, hlek81, hNk81, hik81⟩ := hw77.2.2
              obtain ⟨gv82, egv82⟩ : ∃ z : Int32, z = u79 19 := ⟨_, rfl⟩
              have hg83 : gv82.toInt = ((ik81 : Nat) : Int) := by rw [egv82]; exact hgk81
              have b84 : kb 0 gv82 400 := kb_tok (rS_fE hE hp0 (by decide)) hNk81 hg83
              exact kV_ret hx hb hr hlocks hK hS dX12_readClause_50 u79 hP hD ⟨hI, hE, ⟨ik81, (by rw [egv82.symm]; exact hg83), (Nat.le_trans (Nat.le_succ_of_le (Nat.le_trans (Nat.le_succ_of_le (Nat.le_refl i)) hlek64)) hlek81), hNk81, (fun hq => by obtain ⟨q85, xk81⟩ := hik81 hq; have q86 := (eE71 21 (by decide)).symm.trans q85; obtain ⟨q87, xk64⟩ := hik64 q86; have q88 := (eE54 21 (by decide)).symm.trans q87; have q89 := (eE5 21 (by decide)).symm.trans q88; have nnk6 := hnk6 q89; exact ⟨q89, gi_11a (Or.inr (Or.inl htk55)) xk64 (gi_12y htk72 xk81)⟩)⟩⟩
          · refine k_top (z := 0) hvk72 ?_
            obtain ⟨gv90, egv90⟩ : ∃ z : Int32, z = u70 19 := ⟨_, rfl⟩
            have hg91 : gv90.toInt = ((ik64 : Nat) : Int) := by rw [egv90]; exact hpk72
            have b92 : kb 0 gv90 400 := kb_tok (rS_fE hE hp0 (by decide)) hNk64 hg91
            refine lv_if_eq (tgt := 50) hx hb dX12_readClause_42 (by decide) (fun c93 => ?_) (fun c93 => ?_)
            · exact kV_ret hx hb hr hlocks hK hS dX12_readClause_50 u70 hP hD ⟨hI, hE, ⟨ik64, (by rw [egv90.symm]; exact hg91), (Nat.le_trans (Nat.le_succ_of_le (Nat.le_refl i)) hlek64), hNk64, (fun hq => by have q94 := (eE71 21 (by decide)).symm.trans hq; have nnk72 := hnk72 q94; obtain ⟨q95, xk64⟩ := hik64 q94; have q96 := (eE54 21 (by decide)).symm.trans q95; have q97 := (eE5 21 (by decide)).symm.trans q96; have nnk6 := hnk6 q97; exact ⟨q97, gi_11a (Or.inr (Or.inl htk55)) xk64 (gi_12n nnk72)⟩)⟩⟩
            · exact kb_nsame c93 kc_0 kc_0
        · exact kb_dj c59 kc_1 kc_0 (by decide)
      · refine k_top (z := 0) hvk55 ?_
        obtain ⟨gv98, egv98⟩ : ∃ z : Int32, z = u53 19 := ⟨_, rfl⟩
        have hg99 : gv98.toInt = ((i : Nat) : Int) := by rw [egv98]; exact hpk55
        have b100 : kb 0 gv98 400 := kb_tok (rS_fE hE hp0 (by decide)) hp2 hg99
        refine lv_if_ne (tgt := 24) hx hb dX12_readClause_13 (by decide) (fun c101 => ?_) (fun c101 => ?_)
        · exact kb_nsame c101 kc_0 kc_0
        · refine lv_aload_n hx hb dX12_readClause_16 rfl (lv_at hl 0 rfl) ?_
          refine lv_iconst (v := 3) hx hb dX12_readClause_17 (by decide) ?_
          refine kI.callV (As := [.int 3]) (rest := []) ⟨hx, hb, hml, hown, hg⟩ (m_takes0 l o r u53 a g hI 3 (kb_w kc_3 (by decide) (by decide)) N (i) ob (rS_fE hE hp0 (by decide)) (by rw [egv98.symm]; exact hg99) hp2) (cwV 1 hg (kgV wt6_200 wt6_202 wp4_6 wt1_14 wt6_203) rfl rfl rfl (by decide +kernel) ⟨by decide, by decide⟩) hK hP hD hS hA mIs [] rfl (wr := []) rfl rfl rfl (fun i h => by cases h) 0 12 rfl rfl rfl hl.1 rfl (Nat.le_of_ble_eq_true rfl) dX12_readClause_18 ⟨Nat.le_refl _, Nat.le_refl _⟩ (fun v103 u104 H locs hw102 hP hD hS => ?_)
          have hP : va_P D vwCl (mW K o r u104 a g) H := hP
          have hD : va_D A (mW K o r u104 a g) := hD
          have hI : mI u104 a := hw102.2.1
          have eE105 : fE [19] u53 u104 := hw102.2.2.1
          have hE : fE [19, 20, 21] f u104 := fE_tr hE (fE_w (by decide) eE105)
          rcases hw102.2.2.2 with ⟨hvk106, hbk106, htk106, hpk106, hlk106⟩ | ⟨hvk106, hnk106, hpk106⟩
          · refine k_top (z := 1) hvk106 ?_
            obtain ⟨gv107, egv107⟩ : ∃ z : Int32, z = u104 19 := ⟨_, rfl⟩
            have hg108 : gv107.toInt = ((i + 1 : Nat) : Int) := by rw [egv107]; exact hpk106
            have b109 : kb 0 gv107 400 := kb_tok (rS_fE hE hp0 (by decide)) hlk106 hg108
            refine lv_if_eq (tgt := 32) hx hb dX12_readClause_21 (by decide) (fun c110 => ?_) (fun c110 => ?_)
            · exact kb_dj c110 kc_1 kc_0 (by decide)
            · refine lv_aload_n hx hb dX12_readClause_24 rfl (lv_at hl 0 rfl) ?_
              refine lv_iconst (v := 0) hx hb dX12_readClause_25 (by decide) ?_
              refine kV.callV (As := [.int 0]) (rest := []) ⟨hx, hb, hml, hown, hg⟩ ((m_allRSum 8) l o r u104 a g hI 0 (kb_w kc_0 (by decide) (by decide)) N (i + 1) ob (rS_fE hE hp0 (by decide)) (by rw [egv107.symm]; exact hg108) hlk106 (by decide +kernel)) (cwV 1 hg (kgV wt6_208 wt6_210 wp4_8 wt1_14 wt6_211) rfl rfl rfl (by decide +kernel) ⟨by decide, by decide⟩) hK hP hD hS hA mIs [] rfl (wr := []) rfl rfl rfl (fun i h => by cases h) 0 12 rfl rfl rfl hl.1 rfl (Nat.le_of_ble_eq_true rfl) dX12_readClause_26 ⟨Nat.le_refl _, Nat.le_refl _⟩ (fun u113 H locs hw111 hP hD hS => ?_)
              have hP : va_P D vwCl (mW K o r u113 a g) H := hP
              have hD : va_D A (mW K o r u113 a g) := hD
              have hI : mI u113 a := hw111.1
              have eE114 : fE [19, 20, 21] u104 u113 := hw111.2.1
              have hE : fE [19, 20, 21] f u113 := fE_tr hE eE114
              obtain ⟨ik115, hgk115, hlek115, hNk115, hik115⟩ := hw111.2.2
              obtain ⟨gv116, egv116⟩ : ∃ z : Int32, z = u113 19 := ⟨_, rfl⟩
              have hg117 : gv116.toInt = ((ik115 : Nat) : Int) := by rw [egv116]; exact hgk115
              have b118 : kb 0 gv116 400 := kb_tok (rS_fE hE hp0 (by decide)) hNk115 hg117
              refine lv_goto (tgt := 37) hx hb dX12_readClause_29 (by decide) ?_
              refine lv_aload_n hx hb dX12_readClause_37 rfl (lv_at hl 0 rfl) ?_
              refine lv_iconst (v := 5) hx hb dX12_readClause_38 (by decide) ?_
              refine kI.callV (As := [.int 5]) (rest := []) ⟨hx, hb, hml, hown, hg⟩ (m_takes0 l o r u113 a g hI 5 (kb_w kc_5 (by decide) (by decide)) N (ik115) ob (rS_fE hE hp0 (by decide)) (by rw [egv116.symm]; exact hg117) hNk115) (cwV 1 hg (kgV wt6_200 wt6_202 wp4_6 wt1_14 wt6_203) rfl rfl rfl (by decide +kernel) ⟨by decide, by decide⟩) hK hP hD hS hA mIs [] rfl (wr := []) rfl rfl rfl (fun i h => by cases h) 0 12 rfl rfl rfl hl.1 rfl (Nat.le_of_ble_eq_true rfl) dX12_readClause_39 ⟨Nat.le_refl _, Nat.le_refl _⟩ (fun v120 u121 H locs hw119 hP hD hS => ?_)
              have hP : va_P D vwCl (mW K o r u121 a g) H := hP
              have hD : va_D A (mW K o r u121 a g) := hD
              have hI : mI u121 a := hw119.2.1
              have eE122 : fE [19] u113 u121 := hw119.2.2.1
              have hE : fE [19, 20, 21] f u121 := fE_tr hE (fE_w (by decide) eE122)
              rcases hw119.2.2.2 with ⟨hvk123, hbk123, htk123, hpk123, hlk123⟩ | ⟨hvk123, hnk123, hpk123⟩
              · refine k_top (z := 1) hvk123 ?_
                obtain ⟨gv124, egv124⟩ : ∃ z : Int32, z = u121 19 := ⟨_, rfl⟩
                have hg125 : gv124.toInt = ((ik115 + 1 : Nat) : Int) := by rw [egv124]; exact hpk123
                have b126 : kb 0 gv124 400 := kb_tok (rS_fE hE hp0 (by decide)) hlk123 hg125
                refine lv_if_eq (tgt := 50) hx hb dX12_readClause_42 (by decide) (fun c127 => ?_) (fun c127 => ?_)
                · exact kb_dj c127 kc_1 kc_0 (by decide)
                · refine lv_aload_n hx hb dX12_readClause_45 rfl (lv_at hl 0 rfl) ?_
                  refine lv_iconst (v := 0) hx hb dX12_readClause_46 (by decide) ?_
                  refine kV.callV (As := [.int 0]) (rest := []) ⟨hx, hb, hml, hown, hg⟩ ((m_allRTest 8) l o r u121 a g hI 0 (kb_w kc_0 (by decide) (by decide)) N (ik115 + 1) ob (rS_fE hE hp0 (by decide)) (by rw [egv124.symm]; exact hg125) hlk123 (by decide +kernel)) (cwV 1 hg (kgV wt6_239 wt7_1 wp4_15 wt1_14 wt7_2) rfl rfl rfl (by decide +kernel) ⟨by decide, by decide⟩) hK hP hD hS hA mIs [] rfl (wr := []) rfl rfl rfl (fun i h => by cases h) 0 12 rfl rfl rfl hl.1 rfl (Nat.le_of_ble_eq_true rfl) dX12_readClause_47 ⟨Nat.le_refl _, Nat.le_refl _⟩ (fun u130 H locs hw128 hP hD hS => ?_)
                  have hP : va_P D vwCl (mW K o r u130 a g) H := hP
                  have hD : va_D A (mW K o r u130 a g) := hD
                  have hI : mI u130 a := hw128.1
                  have eE131 : fE [19, 20, 21] u121 u130 := hw128.2.1
                  have hE : fE [19, 20, 21] f u130 := fE_tr hE eE131
                  obtain ⟨ik132, hgk132, hlek132, hNk132, hik132⟩ := hw128.2.2
                  obtain ⟨gv133, egv133⟩ : ∃ z : Int32, z = u130 19 := ⟨_, rfl⟩
                  have hg134 : gv133.toInt = ((ik132 : Nat) : Int) := by rw [egv133]; exact hgk132
                  have b135 : kb 0 gv133 400 := kb_tok (rS_fE hE hp0 (by decide)) hNk132 hg134
                  exact kV_ret hx hb hr hlocks hK hS dX12_readClause_50 u130 hP hD ⟨hI, hE, ⟨ik132, (by rw [egv133.symm]; exact hg134), (Nat.le_trans (Nat.le_succ_of_le (Nat.le_trans (Nat.le_succ_of_le (Nat.le_refl i)) hlek115)) hlek132), hNk132, (fun hq => by obtain ⟨q136, xk132⟩ := hik132 hq; have q137 := (eE122 21 (by decide)).symm.trans q136; obtain ⟨q138, xk115⟩ := hik115 q137; have q139 := (eE105 21 (by decide)).symm.trans q138; have q140 := (eE54 21 (by decide)).symm.trans q139; have nnk55 := hnk55 q140; have q141 := (eE5 21 (by decide)).symm.trans q140; have nnk6 := hnk6 q141; exact ⟨q141, gi_11a (Or.inr (Or.inr htk106)) xk115 (gi_12y htk123 xk132)⟩)⟩⟩
              · refine k_top (z := 0) hvk123 ?_
                obtain ⟨gv142, egv142⟩ : ∃ z : Int32, z = u121 19 := ⟨_, rfl⟩
                have hg143 : gv142.toInt = ((ik115 : Nat) : Int) := by rw [egv142]; exact hpk123
                have b144 : kb 0 gv142 400 := kb_tok (rS_fE hE hp0 (by decide)) hNk115 hg143
                refine lv_if_eq (tgt := 50) hx hb dX12_readClause_42 (by decide) (fun c145 => ?_) (fun c145 => ?_)
                · exact kV_ret hx hb hr hlocks hK hS dX12_readClause_50 u121 hP hD ⟨hI, hE, ⟨ik115, (by rw [egv142.symm]; exact hg143), (Nat.le_trans (Nat.le_succ_of_le (Nat.le_refl i)) hlek115), hNk115, (fun hq => by have q146 := (eE122 21 (by decide)).symm.trans hq; have nnk123 := hnk123 q146; obtain ⟨q147, xk115⟩ := hik115 q146; have q148 := (eE105 21 (by decide)).symm.trans q147; have q149 := (eE54 21 (by decide)).symm.trans q148; have nnk55 := hnk55 q149; have q150 := (eE5 21 (by decide)).symm.trans q149; have nnk6 := hnk6 q150; exact ⟨q150, gi_11a (Or.inr (Or.inr htk106)) xk115 (gi_12n nnk123)⟩)⟩⟩
                · exact kb_nsame c145 kc_0 kc_0
          · refine k_top (z := 0) hvk106 ?_
            obtain ⟨gv151, egv151⟩ : ∃ z : Int32, z = u104 19 := ⟨_, rfl⟩
            have hg152 : gv151.toInt = ((i : Nat) : Int) := by rw [egv151]; exact hpk106
            have b153 : kb 0 gv151 400 := kb_tok (rS_fE hE hp0 (by decide)) hp2 hg152
            refine lv_if_eq (tgt := 32) hx hb dX12_readClause_21 (by decide) (fun c154 => ?_) (fun c154 => ?_)
            · refine lv_aload_n hx hb dX12_readClause_32 rfl (lv_at hl 0 rfl) ?_
              refine lv_iconst (v := 4) hx hb dX12_readClause_33 (by decide) ?_
              refine kV.callV (As := [.int 4]) (rest := []) ⟨hx, hb, hml, hown, hg⟩ (m_must l o r u104 a g hI 4 (kb_w kc_4 (by decide) (by decide)) N (i) ob (rS_fE hE hp0 (by decide)) (by rw [egv151.symm]; exact hg152) hp2) (cwV 1 hg (kgV wt6_227 wt6_229 wp4_12 wt1_14 wt6_230) rfl rfl rfl (by decide +kernel) ⟨by decide, by decide⟩) hK hP hD hS hA mIs [] rfl (wr := []) rfl rfl rfl (fun i h => by cases h) 0 12 rfl rfl rfl hl.1 rfl (Nat.le_of_ble_eq_true rfl) dX12_readClause_34 ⟨Nat.le_refl _, Nat.le_refl _⟩ (fun u157 H locs hw155 hP hD hS => ?_)
              have hP : va_P D vwCl (mW K o r u157 a g) H := hP
              have hD : va_D A (mW K o r u157 a g) := hD
              have hI : mI u157 a := hw155.1
              have eE158 : fE [19, 20, 21] u104 u157 := hw155.2.1
              have hE : fE [19, 20, 21] f u157 := fE_tr hE eE158
              obtain ⟨ik159, hgk159, hlek159, hNk159, hik159⟩ := hw155.2.2
              obtain ⟨gv160, egv160⟩ : ∃ z : Int32, z = u157 19 := ⟨_, rfl⟩
              have hg161 : gv160.toInt = ((ik159 : Nat) : Int) := by rw [egv160]; exact hgk159
              have b162 : kb 0 gv160 400 := kb_tok (rS_fE hE hp0 (by decide)) hNk159 hg161
              refine lv_aload_n hx hb dX12_readClause_37 rfl (lv_at hl 0 rfl) ?_
              refine lv_iconst (v := 5) hx hb dX12_readClause_38 (by decide) ?_
              refine kI.callV (As := [.int 5]) (rest := []) ⟨hx, hb, hml, hown, hg⟩ (m_takes0 l o r u157 a g hI 5 (kb_w kc_5 (by decide) (by decide)) N (ik159) ob (rS_fE hE hp0 (by decide)) (by rw [egv160.symm]; exact hg161) hNk159) (cwV 1 hg (kgV wt6_200 wt6_202 wp4_6 wt1_14 wt6_203) rfl rfl rfl (by decide +kernel) ⟨by decide, by decide⟩) hK hP hD hS hA mIs [] rfl (wr := []) rfl rfl rfl (fun i h => by cases h) 0 12 rfl rfl rfl hl.1 rfl (Nat.le_of_ble_eq_true rfl) dX12_readClause_39 ⟨Nat.le_refl _, Nat.le_refl _⟩ (fun v164 u165 H locs hw163 hP hD hS => ?_)
              have hP : va_P D vwCl (mW K o r u165 a g) H := hP
              have hD : va_D A (mW K o r u165 a g) := hD
              have hI : mI u165 a := hw163.2.1
              have eE166 : fE [19] u157 u165 := hw163.2.2.1
              have hE : fE [19, 20, 21] f u165 := fE_tr hE (fE_w (by decide) eE166)
              rcases hw163.2.2.2 with ⟨hvk167, hbk167, htk167, hpk167, hlk167⟩ | ⟨hvk167, hnk167, hpk167⟩
              · refine k_top (z := 1) hvk167 ?_
                obtain ⟨gv168, egv168⟩ : ∃ z : Int32, z = u165 19 := ⟨_, rfl⟩
                have hg169 : gv168.toInt = ((ik159 + 1 : Nat) : Int) := by rw [egv168]; exact hpk167
                have b170 : kb 0 gv168 400 := kb_tok (rS_fE hE hp0 (by decide)) hlk167 hg169
                refine lv_if_eq (tgt := 50) hx hb dX12_readClause_42 (by decide) (fun c171 => ?_) (fun c171 => ?_)
                · exact kb_dj c171 kc_1 kc_0 (by decide)
                · refine lv_aload_n hx hb dX12_readClause_45 rfl (lv_at hl 0 rfl) ?_
                  refine lv_iconst (v := 0) hx hb dX12_readClause_46 (by decide) ?_
                  refine kV.callV (As := [.int 0]) (rest := []) ⟨hx, hb, hml, hown, hg⟩ ((m_allRTest 8) l o r u165 a g hI 0 (kb_w kc_0 (by decide) (by decide)) N (ik159 + 1) ob (rS_fE hE hp0 (by decide)) (by rw [egv168.symm]; exact hg169) hlk167 (by decide +kernel)) (cwV 1 hg (kgV wt6_239 wt7_1 wp4_15 wt1_14 wt7_2) rfl rfl rfl (by decide +kernel) ⟨by decide, by decide⟩) hK hP hD hS hA mIs [] rfl (wr := []) rfl rfl rfl (fun i h => by cases h) 0 12 rfl rfl rfl hl.1 rfl (Nat.le_of_ble_eq_true rfl) dX12_readClause_47 ⟨Nat.le_refl _, Nat.le_refl _⟩ (fun u174 H locs hw172 hP hD hS => ?_)
                  have hP : va_P D vwCl (mW K o r u174 a g) H := hP
                  have hD : va_D A (mW K o r u174 a g) := hD
                  have hI : mI u174 a := hw172.1
                  have eE175 : fE [19, 20, 21] u165 u174 := hw172.2.1
                  have hE : fE [19, 20, 21] f u174 := fE_tr hE eE175
                  obtain ⟨ik176, hgk176, hlek176, hNk176, hik176⟩ := hw172.2.2
                  obtain ⟨gv177, egv177⟩ : ∃ z : Int32, z = u174 19 := ⟨_, rfl⟩
                  have hg178 : gv177.toInt = ((ik176 : Nat) : Int) := by rw [egv177]; exact hgk176
                  have b179 : kb 0 gv177 400 := kb_tok (rS_fE hE hp0 (by decide)) hNk176 hg178
                  exact kV_ret hx hb hr hlocks hK hS dX12_readClause_50 u174 hP hD ⟨hI, hE, ⟨ik176, (by rw [egv177.symm]; exact hg178), (Nat.le_trans (Nat.le_succ_of_le (Nat.le_trans (Nat.le_refl i) hlek159)) hlek176), hNk176, (fun hq => by obtain ⟨q180, xk176⟩ := hik176 hq; have q181 := (eE166 21 (by decide)).symm.trans q180; obtain ⟨q182, xk159⟩ := hik159 q181; have q183 := (eE105 21 (by decide)).symm.trans q182; have nnk106 := hnk106 q183; have q184 := (eE54 21 (by decide)).symm.trans q183; have nnk55 := hnk55 q184; have q185 := (eE5 21 (by decide)).symm.trans q184; have nnk6 := hnk6 q185; exact ⟨q185, gi_11b xk159.1 xk159.2 (gi_12y htk167 xk176)⟩)⟩⟩
              · refine k_top (z := 0) hvk167 ?_
                obtain ⟨gv186, egv186⟩ : ∃ z : Int32, z = u165 19 := ⟨_, rfl⟩
                have hg187 : gv186.toInt = ((ik159 : Nat) : Int) := by rw [egv186]; exact hpk167
                have b188 : kb 0 gv186 400 := kb_tok (rS_fE hE hp0 (by decide)) hNk159 hg187
                refine lv_if_eq (tgt := 50) hx hb dX12_readClause_42 (by decide) (fun c189 => ?_) (fun c189 => ?_)
                · exact kV_ret hx hb hr hlocks hK hS dX12_readClause_50 u165 hP hD ⟨hI, hE, ⟨ik159, (by rw [egv186.symm]; exact hg187), (Nat.le_trans (Nat.le_refl i) hlek159), hNk159, (fun hq => by have q190 := (eE166 21 (by decide)).symm.trans hq; have nnk167 := hnk167 q190; obtain ⟨q191, xk159⟩ := hik159 q190; have q192 := (eE105 21 (by decide)).symm.trans q191; have nnk106 := hnk106 q192; have q193 := (eE54 21 (by decide)).symm.trans q192; have nnk55 := hnk55 q193; have q194 := (eE5 21 (by decide)).symm.trans q193; have nnk6 := hnk6 q194; exact ⟨q194, gi_11b xk159.1 xk159.2 (gi_12n nnk167)⟩)⟩⟩
                · exact kb_nsame c189 kc_0 kc_0
            · exact kb_nsame c154 kc_0 kc_0
set_option maxHeartbeats 4000000 in
set_option maxRecDepth 100000 in
theorem m_readOrder  (l : Launch) {D : va_G} {K : Nat → ClassId} (o : Nat) (r : Nat → Nat) (f : Nat → Int32) (a : Nat → Nat → Int32) (g : Nat → Int64) (hI : mI f a)   (N i : Nat) (ob : Bool) (hp0 : rS f a N ob) (hp1 : (f 19).toInt = (i : Int)) (hp2 : i ≤ N) : kV l yX12_readOrder (Cond.code yX12_readOrder cX12_readOrder 1 none :: kG) (rmD 48 0 0) D (tysK K) [.ref o] (mW K o r f a g) (fun (u : Nat → Int32) => mI u a ∧ fE [19, 20, 21] f u ∧ (∃ i2 : Nat, (u 19).toInt = (i2 : Int) ∧ i ≤ i2 ∧ i2 ≤ N ∧ (u 21 = -1 → f 21 = -1 ∧ gG ob (rC (a 15) N) 8 13 i i2))) (fun u => mW K o r u a g) 0 0 := by
  refine kV.of (cc := cX12_readOrder) (maxL := 1) (ret := none) (by decide) rfl (Nat.le_of_ble_eq_true rfl) ?_
  intro p e s m below meth c A hx hb hr hml hown hts hlocks hnm hK hP hD hS hA ls hl
  have hE : fE [19, 20, 21] f f := fE_rf
  have hg : ∀ w ∈ kG, w.before _ s = true := fun w h => hts w (List.mem_cons_of_mem _ h)
  have hown : s.vm.findClass RX12 = some m.cls := hown
  have hl : lv_has ls 1 [(0, .ref o)] := hl
  obtain ⟨c19, ec19⟩ : ∃ z : Int32, z = f 19 := ⟨_, rfl⟩
  have hg0 : c19.toInt = (i : Int) := by rw [ec19]; exact hp1
  have b1 : kb 0 c19 400 := kb_tok hp0 hp2 hg0
  refine lv_aload_n hx hb dX12_readOrder_0 rfl (lv_at hl 0 rfl) ?_
  refine lv_bipush (v := 23) hx hb dX12_readOrder_1 (by decide) ?_
  refine kI.callV (As := [.int 23]) (rest := []) ⟨hx, hb, hml, hown, hg⟩ (m_takes0 l o r f a g hI 23 (kb_w kc_23 (by decide) (by decide)) N (i) ob (rS_fE hE hp0 (by decide)) (by rw [ec19.symm]; exact hg0) hp2) (cwV 1 hg (kgV wt6_200 wt6_202 wp4_6 wt1_14 wt6_203) rfl rfl rfl (by decide +kernel) ⟨by decide, by decide⟩) hK hP hD hS hA mIs [] rfl (wr := []) rfl rfl rfl (fun i h => by cases h) 0 12 rfl rfl rfl hl.1 rfl (Nat.le_of_ble_eq_true rfl) dX12_readOrder_3 ⟨Nat.le_refl _, Nat.le_refl _⟩ (fun v3 u4 H locs hw2 hP hD hS => ?_)
  have hP : va_P D vwCl (mW K o r u4 a g) H := hP
  have hD : va_D A (mW K o r u4 a g) := hD
  have hI : mI u4 a := hw2.2.1
  have eE5 : fE [19] f u4 := hw2.2.2.1
  have hE : fE [19, 20, 21] f u4 := fE_tr hE (fE_w (by decide) eE5)
  rcases hw2.2.2.2 with ⟨hvk6, hbk6, htk6, hpk6, hlk6⟩ | ⟨hvk6, hnk6, hpk6⟩
  · refine k_top (z := 1) hvk6 ?_
    obtain ⟨gv7, egv7⟩ : ∃ z : Int32, z = u4 19 := ⟨_, rfl⟩
    have hg8 : gv7.toInt = ((i + 1 : Nat) : Int) := by rw [egv7]; exact hpk6
    have b9 : kb 0 gv7 400 := kb_tok (rS_fE hE hp0 (by decide)) hlk6 hg8
    refine lv_if_eq (tgt := 28) hx hb dX12_readOrder_6 (by decide) (fun c10 => ?_) (fun c10 => ?_)
    · exact kb_dj c10 kc_1 kc_0 (by decide)
    · refine lv_aload_n hx hb dX12_readOrder_9 rfl (lv_at hl 0 rfl) ?_
      refine lv_iconst (v := 0) hx hb dX12_readOrder_10 (by decide) ?_
      refine kV.callV (As := [.int 0]) (rest := []) ⟨hx, hb, hml, hown, hg⟩ ((m_allRSum 8) l o r u4 a g hI 0 (kb_w kc_0 (by decide) (by decide)) N (i + 1) ob (rS_fE hE hp0 (by decide)) (by rw [egv7.symm]; exact hg8) hlk6 (by decide +kernel)) (cwV 1 hg (kgV wt6_208 wt6_210 wp4_8 wt1_14 wt6_211) rfl rfl rfl (by decide +kernel) ⟨by decide, by decide⟩) hK hP hD hS hA mIs [] rfl (wr := []) rfl rfl rfl (fun i h => by cases h) 0 12 rfl rfl rfl hl.1 rfl (Nat.le_of_ble_eq_true rfl) dX12_readOrder_11 ⟨Nat.le_refl _, Nat.le_refl _⟩ (fun u13 H locs hw11 hP hD hS => ?_)
      have hP : va_P D vwCl (mW K o r u13 a g) H := hP
      have hD : va_D A (mW K o r u13 a g) := hD
      have hI : mI u13 a := hw11.1
      have eE14 : fE [19, 20, 21] u4 u13 := hw11.2.1
      have hE : fE [19, 20, 21] f u13 := fE_tr hE eE14
      obtain ⟨ik15, hgk15, hlek15, hNk15, hik15⟩ := hw11.2.2
      obtain ⟨gv16, egv16⟩ : ∃ z : Int32, z = u13 19 := ⟨_, rfl⟩
      have hg17 : gv16.toInt = ((ik15 : Nat) : Int) := by rw [egv16]; exact hgk15
      have b18 : kb 0 gv16 400 := kb_tok (rS_fE hE hp0 (by decide)) hNk15 hg17
      refine lv_aload_n hx hb dX12_readOrder_14 rfl (lv_at hl 0 rfl) ?_
      refine lv_bipush (v := 24) hx hb dX12_readOrder_15 (by decide) ?_
      refine kV.callV (As := [.int 24]) (rest := []) ⟨hx, hb, hml, hown, hg⟩ (m_must l o r u13 a g hI 24 (kb_w kc_24 (by decide) (by decide)) N (ik15) ob (rS_fE hE hp0 (by decide)) (by rw [egv16.symm]; exact hg17) hNk15) (cwV 1 hg (kgV wt6_227 wt6_229 wp4_12 wt1_14 wt6_230) rfl rfl rfl (by decide +kernel) ⟨by decide, by decide⟩) hK hP hD hS hA mIs [] rfl (wr := []) rfl rfl rfl (fun i h => by cases h) 0 12 rfl rfl rfl hl.1 rfl (Nat.le_of_ble_eq_true rfl) dX12_readOrder_17 ⟨Nat.le_refl _, Nat.le_refl _⟩ (fun u21 H locs hw19 hP hD hS => ?_)
      have hP : va_P D vwCl (mW K o r u21 a g) H := hP
      have hD : va_D A (mW K o r u21 a g) := hD
      have hI : mI u21 a := hw19.1
      have eE22 : fE [19, 20, 21] u13 u21 := hw19.2.1
      have hE : fE [19, 20, 21] f u21 := fE_tr hE eE22
      obtain ⟨ik23, hgk23, hlek23, hNk23, hik23⟩ := hw19.2.2
      obtain ⟨gv24, egv24⟩ : ∃ z : Int32, z = u21 19 := ⟨_, rfl⟩
      have hg25 : gv24.toInt = ((ik23 : Nat) : Int) := by rw [egv24]; exact hgk23
      have b26 : kb 0 gv24 400 := kb_tok (rS_fE hE hp0 (by decide)) hNk23 hg25
      refine lv_aload_n hx hb dX12_readOrder_20 rfl (lv_at hl 0 rfl) ?_
      refine lv_iconst (v := 0) hx hb dX12_readOrder_21 (by decide) ?_
      refine kV.callV (As := [.int 0]) (rest := []) ⟨hx, hb, hml, hown, hg⟩ ((m_allRSum 8) l o r u21 a g hI 0 (kb_w kc_0 (by decide) (by decide)) N (ik23) ob (rS_fE hE hp0 (by decide)) (by rw [egv24.symm]; exact hg25) hNk23 (by decide +kernel)) (cwV 1 hg (kgV wt6_208 wt6_210 wp4_8 wt1_14 wt6_211) rfl rfl rfl (by decide +kernel) ⟨by decide, by decide⟩) hK hP hD hS hA mIs [] rfl (wr := []) rfl rfl rfl (fun i h => by cases h) 0 12 rfl rfl rfl hl.1 rfl (Nat.le_of_ble_eq_true rfl) dX12_readOrder_22 ⟨Nat.le_refl _, Nat.le_refl _⟩ (fun u29 H locs hw27 hP hD hS => ?_)
      have hP : va_P D vwCl (mW K o r u29 a g) H := hP
      have hD : va_D A (mW K o r u29 a g) := hD
      have hI : mI u29 a := hw27.1
      have eE30 : fE [19, 20, 21] u21 u29 := hw27.2.1
      have hE : fE [19, 20, 21] f u29 := fE_tr hE eE30
      obtain ⟨ik31, hgk31, hlek31, hNk31, hik31⟩ := hw27.2.2
      obtain ⟨gv32, egv32⟩ : ∃ z : Int32, z = u29 19 := ⟨_, rfl⟩
      have hg33 : gv32.toInt = ((ik31 : Nat) : Int) := by rw [egv32]; exact hgk31
      have b34 : kb 0 gv32 400 := kb_tok (rS_fE hE hp0 (by decide)) hNk31 hg33
      refine lv_goto (tgt := 60) hx hb dX12_readOrder_25 (by decide) ?_
      refine lv_aload_n hx hb dX12_readOrder_60 rfl (lv_at hl 0 rfl) ?_
      refine lv_bipush (v := 28) hx hb dX12_readOrder_61 (by decide) ?_
      refine kI.callV (As := [.int 28]) (rest := []) ⟨hx, hb, hml, hown, hg⟩ (m_takes0 l o r u29 a g hI 28 (kb_w kc_28 (by decide) (by decide)) N (ik31) ob (rS_fE hE hp0 (by decide)) (by rw [egv32.symm]; exact hg33) hNk31) (cwV 1 hg (kgV wt6_200 wt6_202 wp4_6 wt1_14 wt6_203) rfl rfl rfl (by decide +kernel) ⟨by decide, by decide⟩) hK hP hD hS hA mIs [] rfl (wr := []) rfl rfl rfl (fun i h => by cases h) 0 12 rfl rfl rfl hl.1 rfl (Nat.le_of_ble_eq_true rfl) dX12_readOrder_63 ⟨Nat.le_refl _, Nat.le_refl _⟩ (fun v36 u37 H locs hw35 hP hD hS => ?_)
      have hP : va_P D vwCl (mW K o r u37 a g) H := hP
      have hD : va_D A (mW K o r u37 a g) := hD
      have hI : mI u37 a := hw35.2.1
      have eE38 : fE [19] u29 u37 := hw35.2.2.1
      have hE : fE [19, 20, 21] f u37 := fE_tr hE (fE_w (by decide) eE38)
      rcases hw35.2.2.2 with ⟨hvk39, hbk39, htk39, hpk39, hlk39⟩ | ⟨hvk39, hnk39, hpk39⟩
      · refine k_top (z := 1) hvk39 ?_
        obtain ⟨gv40, egv40⟩ : ∃ z : Int32, z = u37 19 := ⟨_, rfl⟩
        have hg41 : gv40.toInt = ((ik31 + 1 : Nat) : Int) := by rw [egv40]; exact hpk39
        have b42 : kb 0 gv40 400 := kb_tok (rS_fE hE hp0 (by decide)) hlk39 hg41
        refine lv_if_eq (tgt := 76) hx hb dX12_readOrder_66 (by decide) (fun c43 => ?_) (fun c43 => ?_)
        · exact kb_dj c43 kc_1 kc_0 (by decide)
        · refine lv_aload_n hx hb dX12_readOrder_69 rfl (lv_at hl 0 rfl) ?_
          refine lv_iconst (v := 1) hx hb dX12_readOrder_70 (by decide) ?_
          refine lv_bipush (v := 20) hx hb dX12_readOrder_71 (by decide) ?_
          refine kV.callV (As := [.int 1, .int 20]) (rest := []) ⟨hx, hb, hml, hown, hg⟩ (m_mustNumber l o r u37 a g hI 1 20  N (ik31 + 1) ob (rS_fE hE hp0 (by decide)) (by rw [egv40.symm]; exact hg41) hlk39) (cwV 2 hg (kgV wt6_235 wt6_237 wp4_14 wt1_14 wt6_238) rfl rfl rfl (by decide +kernel) ⟨by decide, by decide⟩) hK hP hD hS hA mIs [] rfl (wr := []) rfl rfl rfl (fun i h => by cases h) 0 12 rfl rfl rfl hl.1 rfl (Nat.le_of_ble_eq_true rfl) dX12_readOrder_73 ⟨Nat.le_refl _, Nat.le_refl _⟩ (fun u46 H locs hw44 hP hD hS => ?_)
          have hP : va_P D vwCl (mW K o r u46 a g) H := hP
          have hD : va_D A (mW K o r u46 a g) := hD
          have hI : mI u46 a := hw44.1
          have eE47 : fE [19, 20, 21] u37 u46 := hw44.2.1
          have hE : fE [19, 20, 21] f u46 := fE_tr hE eE47
          obtain ⟨ik48, hgk48, hlek48, hNk48, hik48⟩ := hw44.2.2
          obtain ⟨gv49, egv49⟩ : ∃ z : Int32, z = u46 19 := ⟨_, rfl⟩
          have hg50 : gv49.toInt = ((ik48 : Nat) : Int) := by rw [egv49]; exact hgk48
          have b51 : kb 0 gv49 400 := kb_tok (rS_fE hE hp0 (by decide)) hNk48 hg50
          refine lv_aload_n hx hb dX12_readOrder_76 rfl (lv_at hl 0 rfl) ?_
          refine lv_iconst (v := 5) hx hb dX12_readOrder_77 (by decide) ?_
          refine kI.callV (As := [.int 5]) (rest := []) ⟨hx, hb, hml, hown, hg⟩ (m_takes0 l o r u46 a g hI 5 (kb_w kc_5 (by decide) (by decide)) N (ik48) ob (rS_fE hE hp0 (by decide)) (by rw [egv49.symm]; exact hg50) hNk48) (cwV 1 hg (kgV wt6_200 wt6_202 wp4_6 wt1_14 wt6_203) rfl rfl rfl (by decide +kernel) ⟨by decide, by decide⟩) hK hP hD hS hA mIs [] rfl (wr := []) rfl rfl rfl (fun i h => by cases h) 0 12 rfl rfl rfl hl.1 rfl (Nat.le_of_ble_eq_true rfl) dX12_readOrder_78 ⟨Nat.le_refl _, Nat.le_refl _⟩ (fun v53 u54 H locs hw52 hP hD hS => ?_)
          have hP : va_P D vwCl (mW K o r u54 a g) H := hP
          have hD : va_D A (mW K o r u54 a g) := hD
          have hI : mI u54 a := hw52.2.1
          have eE55 : fE [19] u46 u54 := hw52.2.2.1
          have hE : fE [19, 20, 21] f u54 := fE_tr hE (fE_w (by decide) eE55)
          rcases hw52.2.2.2 with ⟨hvk56, hbk56, htk56, hpk56, hlk56⟩ | ⟨hvk56, hnk56, hpk56⟩
          · refine k_top (z := 1) hvk56 ?_
            obtain ⟨gv57, egv57⟩ : ∃ z : Int32, z = u54 19 := ⟨_, rfl⟩
            have hg58 : gv57.toInt = ((ik48 + 1 : Nat) : Int) := by rw [egv57]; exact hpk56
            have b59 : kb 0 gv57 400 := kb_tok (rS_fE hE hp0 (by decide)) hlk56 hg58
            refine lv_if_eq (tgt := 89) hx hb dX12_readOrder_81 (by decide) (fun c60 => ?_) (fun c60 => ?_)
            · exact kb_dj c60 kc_1 kc_0 (by decide)
            · refine lv_aload_n hx hb dX12_readOrder_84 rfl (lv_at hl 0 rfl) ?_
              refine lv_iconst (v := 0) hx hb dX12_readOrder_85 (by decide) ?_
              refine kV.callV (As := [.int 0]) (rest := []) ⟨hx, hb, hml, hown, hg⟩ ((m_allRTest 8) l o r u54 a g hI 0 (kb_w kc_0 (by decide) (by decide)) N (ik48 + 1) ob (rS_fE hE hp0 (by decide)) (by rw [egv57.symm]; exact hg58) hlk56 (by decide +kernel)) (cwV 1 hg (kgV wt6_239 wt7_1 wp4_15 wt1_14 wt7_2) rfl rfl rfl (by decide +kernel) ⟨by decide, by decide⟩) hK hP hD hS hA mIs [] rfl (wr := []) rfl rfl rfl (fun i h => by cases h) 0 12 rfl rfl rfl hl.1 rfl (Nat.le_of_ble_eq_true rfl) dX12_readOrder_86 ⟨Nat.le_refl _, Nat.le_refl _⟩ (fun u63 H locs hw61 hP hD hS => ?_)
              have hP : va_P D vwCl (mW K o r u63 a g) H := hP
              have hD : va_D A (mW K o r u63 a g) := hD
              have hI : mI u63 a := hw61.1
              have eE64 : fE [19, 20, 21] u54 u63 := hw61.2.1
              have hE : fE [19, 20, 21] f u63 := fE_tr hE eE64
              obtain ⟨ik65, hgk65, hlek65, hNk65, hik65⟩ := hw61.2.2
              obtain ⟨gv66, egv66⟩ : ∃ z : Int32, z = u63 19 := ⟨_, rfl⟩
              have hg67 : gv66.toInt = ((ik65 : Nat) : Int) := by rw [egv66]; exact hgk65
              have b68 : kb 0 gv66 400 := kb_tok (rS_fE hE hp0 (by decide)) hNk65 hg67
              exact kV_ret hx hb hr hlocks hK hS dX12_readOrder_89 u63 hP hD ⟨hI, hE, ⟨ik65, (by rw [egv66.symm]; exact hg67), (Nat.le_trans (Nat.le_succ_of_le (Nat.le_trans (Nat.le_succ_of_le (Nat.le_trans (Nat.le_trans (Nat.le_trans (Nat.le_succ_of_le (Nat.le_refl i)) hlek15) hlek23) hlek31)) hlek48)) hlek65), hNk65, (fun hq => by obtain ⟨q69, xk65⟩ := hik65 hq; have q70 := (eE55 21 (by decide)).symm.trans q69; obtain ⟨q71, xk48⟩ := hik48 q70; have q72 := (eE38 21 (by decide)).symm.trans q71; obtain ⟨q73, xk31⟩ := hik31 q72; obtain ⟨q74, xk23⟩ := hik23 q73; obtain ⟨q75, xk15⟩ := hik15 q74; have q76 := (eE5 21 (by decide)).symm.trans q75; exact ⟨q76, gi_13a htk6 xk15 xk23.1 xk23.2 xk31 (gi_14y htk39 xk48.1 xk48.2 (gi_12y htk56 xk65))⟩)⟩⟩
          · refine k_top (z := 0) hvk56 ?_
            obtain ⟨gv77, egv77⟩ : ∃ z : Int32, z = u54 19 := ⟨_, rfl⟩
            have hg78 : gv77.toInt = ((ik48 : Nat) : Int) := by rw [egv77]; exact hpk56
            have b79 : kb 0 gv77 400 := kb_tok (rS_fE hE hp0 (by decide)) hNk48 hg78
            refine lv_if_eq (tgt := 89) hx hb dX12_readOrder_81 (by decide) (fun c80 => ?_) (fun c80 => ?_)
            · exact kV_ret hx hb hr hlocks hK hS dX12_readOrder_89 u54 hP hD ⟨hI, hE, ⟨ik48, (by rw [egv77.symm]; exact hg78), (Nat.le_trans (Nat.le_succ_of_le (Nat.le_trans (Nat.le_trans (Nat.le_trans (Nat.le_succ_of_le (Nat.le_refl i)) hlek15) hlek23) hlek31)) hlek48), hNk48, (fun hq => by have q81 := (eE55 21 (by decide)).symm.trans hq; have nnk56 := hnk56 q81; obtain ⟨q82, xk48⟩ := hik48 q81; have q83 := (eE38 21 (by decide)).symm.trans q82; obtain ⟨q84, xk31⟩ := hik31 q83; obtain ⟨q85, xk23⟩ := hik23 q84; obtain ⟨q86, xk15⟩ := hik15 q85; have q87 := (eE5 21 (by decide)).symm.trans q86; exact ⟨q87, gi_13a htk6 xk15 xk23.1 xk23.2 xk31 (gi_14y htk39 xk48.1 xk48.2 (gi_12n nnk56))⟩)⟩⟩
            · exact kb_nsame c80 kc_0 kc_0
      · refine k_top (z := 0) hvk39 ?_
        obtain ⟨gv88, egv88⟩ : ∃ z : Int32, z = u37 19 := ⟨_, rfl⟩
        have hg89 : gv88.toInt = ((ik31 : Nat) : Int) := by rw [egv88]; exact hpk39
        have b90 : kb 0 gv88 400 := kb_tok (rS_fE hE hp0 (by decide)) hNk31 hg89
        refine lv_if_eq (tgt := 76) hx hb dX12_readOrder_66 (by decide) (fun c91 => ?_) (fun c91 => ?_)
        · refine lv_aload_n hx hb dX12_readOrder_76 rfl (lv_at hl 0 rfl) ?_
          refine lv_iconst (v := 5) hx hb dX12_readOrder_77 (by decide) ?_
          refine kI.callV (As := [.int 5]) (rest := []) ⟨hx, hb, hml, hown, hg⟩ (m_takes0 l o r u37 a g hI 5 (kb_w kc_5 (by decide) (by decide)) N (ik31) ob (rS_fE hE hp0 (by decide)) (by rw [egv88.symm]; exact hg89) hNk31) (cwV 1 hg (kgV wt6_200 wt6_202 wp4_6 wt1_14 wt6_203) rfl rfl rfl (by decide +kernel) ⟨by decide, by decide⟩) hK hP hD hS hA mIs [] rfl (wr := []) rfl rfl rfl (fun i h => by cases h) 0 12 rfl rfl rfl hl.1 rfl (Nat.le_of_ble_eq_true rfl) dX12_readOrder_78 ⟨Nat.le_refl _, Nat.le_refl _⟩ (fun v93 u94 H locs hw92 hP hD hS => ?_)
          have hP : va_P D vwCl (mW K o r u94 a g) H := hP
          have hD : va_D A (mW K o r u94 a g) := hD
          have hI : mI u94 a := hw92.2.1
          have eE95 : fE [19] u37 u94 := hw92.2.2.1
          have hE : fE [19, 20, 21] f u94 := fE_tr hE (fE_w (by decide) eE95)
          rcases hw92.2.2.2 with ⟨hvk96, hbk96, htk96, hpk96, hlk96⟩ | ⟨hvk96, hnk96, hpk96⟩
          · refine k_top (z := 1) hvk96 ?_
            obtain ⟨gv97, egv97⟩ : ∃ z : Int32, z = u94 19 := ⟨_, rfl⟩
            have hg98 : gv97.toInt = ((ik31 + 1 : Nat) : Int) := by rw [egv97]; exact hpk96
            have b99 : kb 0 gv97 400 := kb_tok (rS_fE hE hp0 (by decide)) hlk96 hg98
            refine lv_if_eq (tgt := 89) hx hb dX12_readOrder_81 (by decide) (fun c100 => ?_) (fun c100 => ?_)
            · exact kb_dj c100 kc_1 kc_0 (by decide)
            · refine lv_aload_n hx hb dX12_readOrder_84 rfl (lv_at hl 0 rfl) ?_
              refine lv_iconst (v := 0) hx hb dX12_readOrder_85 (by decide) ?_
              refine kV.callV (As := [.int 0]) (rest := []) ⟨hx, hb, hml, hown, hg⟩ ((m_allRTest 8) l o r u94 a g hI 0 (kb_w kc_0 (by decide) (by decide)) N (ik31 + 1) ob (rS_fE hE hp0 (by decide)) (by rw [egv97.symm]; exact hg98) hlk96 (by decide +kernel)) (cwV 1 hg (kgV wt6_239 wt7_1 wp4_15 wt1_14 wt7_2) rfl rfl rfl (by decide +kernel) ⟨by decide, by decide⟩) hK hP hD hS hA mIs [] rfl (wr := []) rfl rfl rfl (fun i h => by cases h) 0 12 rfl rfl rfl hl.1 rfl (Nat.le_of_ble_eq_true rfl) dX12_readOrder_86 ⟨Nat.le_refl _, Nat.le_refl _⟩ (fun u103 H locs hw101 hP hD hS => ?_)
              have hP : va_P D vwCl (mW K o r u103 a g) H := hP
              have hD : va_D A (mW K o r u103 a g) := hD
              have hI : mI u103 a := hw101.1
              have eE104 : fE [19, 20, 21] u94 u103 := hw101.2.1
              have hE : fE [19, 20, 21] f u103 := fE_tr hE eE104
              obtain ⟨ik105, hgk105, hlek105, hNk105, hik105⟩ := hw101.2.2
              obtain ⟨gv106, egv106⟩ : ∃ z : Int32, z = u103 19 := ⟨_, rfl⟩
              have hg107 : gv106.toInt = ((ik105 : Nat) : Int) := by rw [egv106]; exact hgk105
              have b108 : kb 0 gv106 400 := kb_tok (rS_fE hE hp0 (by decide)) hNk105 hg107
              exact kV_ret hx hb hr hlocks hK hS dX12_readOrder_89 u103 hP hD ⟨hI, hE, ⟨ik105, (by rw [egv106.symm]; exact hg107), (Nat.le_trans (Nat.le_succ_of_le (Nat.le_trans (Nat.le_trans (Nat.le_trans (Nat.le_succ_of_le (Nat.le_refl i)) hlek15) hlek23) hlek31)) hlek105), hNk105, (fun hq => by obtain ⟨q109, xk105⟩ := hik105 hq; have q110 := (eE95 21 (by decide)).symm.trans q109; have q111 := (eE38 21 (by decide)).symm.trans q110; have nnk39 := hnk39 q111; obtain ⟨q112, xk31⟩ := hik31 q111; obtain ⟨q113, xk23⟩ := hik23 q112; obtain ⟨q114, xk15⟩ := hik15 q113; have q115 := (eE5 21 (by decide)).symm.trans q114; exact ⟨q115, gi_13a htk6 xk15 xk23.1 xk23.2 xk31 (gi_14n nnk39 (gi_12y htk96 xk105))⟩)⟩⟩
          · refine k_top (z := 0) hvk96 ?_
            obtain ⟨gv116, egv116⟩ : ∃ z : Int32, z = u94 19 := ⟨_, rfl⟩
            have hg117 : gv116.toInt = ((ik31 : Nat) : Int) := by rw [egv116]; exact hpk96
            have b118 : kb 0 gv116 400 := kb_tok (rS_fE hE hp0 (by decide)) hNk31 hg117
            refine lv_if_eq (tgt := 89) hx hb dX12_readOrder_81 (by decide) (fun c119 => ?_) (fun c119 => ?_)
            · exact kV_ret hx hb hr hlocks hK hS dX12_readOrder_89 u94 hP hD ⟨hI, hE, ⟨ik31, (by rw [egv116.symm]; exact hg117), (Nat.le_trans (Nat.le_trans (Nat.le_trans (Nat.le_succ_of_le (Nat.le_refl i)) hlek15) hlek23) hlek31), hNk31, (fun hq => by have q120 := (eE95 21 (by decide)).symm.trans hq; have nnk96 := hnk96 q120; have q121 := (eE38 21 (by decide)).symm.trans q120; have nnk39 := hnk39 q121; obtain ⟨q122, xk31⟩ := hik31 q121; obtain ⟨q123, xk23⟩ := hik23 q122; obtain ⟨q124, xk15⟩ := hik15 q123; have q125 := (eE5 21 (by decide)).symm.trans q124; exact ⟨q125, gi_13a htk6 xk15 xk23.1 xk23.2 xk31 (gi_14n nnk39 (gi_12n nnk96))⟩)⟩⟩
            · exact kb_nsame c119 kc_0 kc_0
        · exact kb_nsame c91 kc_0 kc_0
  · refine k_top (z := 0) hvk6 ?_
    obtain ⟨gv126, egv126⟩ : ∃ z : Int32, z = u4 19 := ⟨_, rfl⟩
    have hg127 : gv126.toInt = ((i : Nat) : Int) := by rw [egv126]; exact hpk6
    have b128 : kb 0 gv126 400 := kb_tok (rS_fE hE hp0 (by decide)) hp2 hg127
    refine lv_if_eq (tgt := 28) hx hb dX12_readOrder_6 (by decide) (fun c129 => ?_) (fun c129 => ?_)
    · refine lv_aload_n hx hb dX12_readOrder_28 rfl (lv_at hl 0 rfl) ?_
      refine lv_bipush (v := 25) hx hb dX12_readOrder_29 (by decide) ?_
      refine kI.callV (As := [.int 25]) (rest := []) ⟨hx, hb, hml, hown, hg⟩ (m_takes0 l o r u4 a g hI 25 (kb_w kc_25 (by decide) (by decide)) N (i) ob (rS_fE hE hp0 (by decide)) (by rw [egv126.symm]; exact hg127) hp2) (cwV 1 hg (kgV wt6_200 wt6_202 wp4_6 wt1_14 wt6_203) rfl rfl rfl (by decide +kernel) ⟨by decide, by decide⟩) hK hP hD hS hA mIs [] rfl (wr := []) rfl rfl rfl (fun i h => by cases h) 0 12 rfl rfl rfl hl.1 rfl (Nat.le_of_ble_eq_true rfl) dX12_readOrder_31 ⟨Nat.le_refl _, Nat.le_refl _⟩ (fun v131 u132 H locs hw130 hP hD hS => ?_)
      have hP : va_P D vwCl (mW K o r u132 a g) H := hP
      have hD : va_D A (mW K o r u132 a g) := hD
      have hI : mI u132 a := hw130.2.1
      have eE133 : fE [19] u4 u132 := hw130.2.2.1
      have hE : fE [19, 20, 21] f u132 := fE_tr hE (fE_w (by decide) eE133)
      rcases hw130.2.2.2 with ⟨hvk134, hbk134, htk134, hpk134, hlk134⟩ | ⟨hvk134, hnk134, hpk134⟩
      · refine k_top (z := 1) hvk134 ?_
        obtain ⟨gv135, egv135⟩ : ∃ z : Int32, z = u132 19 := ⟨_, rfl⟩
        have hg136 : gv135.toInt = ((i + 1 : Nat) : Int) := by rw [egv135]; exact hpk134
        have b137 : kb 0 gv135 400 := kb_tok (rS_fE hE hp0 (by decide)) hlk134 hg136
        refine lv_if_ne (tgt := 46) hx hb dX12_readOrder_34 (by decide) (fun c138 => ?_) (fun c138 => ?_)
        · refine lv_aload_n hx hb dX12_readOrder_46 rfl (lv_at hl 0 rfl) ?_
          refine lv_iconst (v := 0) hx hb dX12_readOrder_47 (by decide) ?_
          refine kV.callV (As := [.int 0]) (rest := []) ⟨hx, hb, hml, hown, hg⟩ ((m_allRSum 8) l o r u132 a g hI 0 (kb_w kc_0 (by decide) (by decide)) N (i + 1) ob (rS_fE hE hp0 (by decide)) (by rw [egv135.symm]; exact hg136) hlk134 (by decide +kernel)) (cwV 1 hg (kgV wt6_208 wt6_210 wp4_8 wt1_14 wt6_211) rfl rfl rfl (by decide +kernel) ⟨by decide, by decide⟩) hK hP hD hS hA mIs [] rfl (wr := []) rfl rfl rfl (fun i h => by cases h) 0 12 rfl rfl rfl hl.1 rfl (Nat.le_of_ble_eq_true rfl) dX12_readOrder_48 ⟨Nat.le_refl _, Nat.le_refl _⟩ (fun u141 H locs hw139 hP hD hS => ?_)
          have hP : va_P D vwCl (mW K o r u141 a g) H := hP
          have hD : va_D A (mW K o r u141 a g) := hD
          have hI : mI u141 a := hw139.1
          have eE142 : fE [19, 20, 21] u132 u141 := hw139.2.1
          have hE : fE [19, 20, 21] f u141 := fE_tr hE eE142
          obtain ⟨ik143, hgk143, hlek143, hNk143, hik143⟩ := hw139.2.2
          obtain ⟨gv144, egv144⟩ : ∃ z : Int32, z = u141 19 := ⟨_, rfl⟩
          have hg145 : gv144.toInt = ((ik143 : Nat) : Int) := by rw [egv144]; exact hgk143
          have b146 : kb 0 gv144 400 := kb_tok (rS_fE hE hp0 (by decide)) hNk143 hg145
          refine lv_goto (tgt := 60) hx hb dX12_readOrder_51 (by decide) ?_
          refine lv_aload_n hx hb dX12_readOrder_60 rfl (lv_at hl 0 rfl) ?_
          refine lv_bipush (v := 28) hx hb dX12_readOrder_61 (by decide) ?_
          refine kI.callV (As := [.int 28]) (rest := []) ⟨hx, hb, hml, hown, hg⟩ (m_takes0 l o r u141 a g hI 28 (kb_w kc_28 (by decide) (by decide)) N (ik143) ob (rS_fE hE hp0 (by decide)) (by rw [egv144.symm]; exact hg145) hNk143) (cwV 1 hg (kgV wt6_200 wt6_202 wp4_6 wt1_14 wt6_203) rfl rfl rfl (by decide +kernel) ⟨by decide, by decide⟩) hK hP hD hS hA mIs [] rfl (wr := []) rfl rfl rfl (fun i h => by cases h) 0 12 rfl rfl rfl hl.1 rfl (Nat.le_of_ble_eq_true rfl) dX12_readOrder_63 ⟨Nat.le_refl _, Nat.le_refl _⟩ (fun v148 u149 H locs hw147 hP hD hS => ?_)
          have hP : va_P D vwCl (mW K o r u149 a g) H := hP
          have hD : va_D A (mW K o r u149 a g) := hD
          have hI : mI u149 a := hw147.2.1
          have eE150 : fE [19] u141 u149 := hw147.2.2.1
          have hE : fE [19, 20, 21] f u149 := fE_tr hE (fE_w (by decide) eE150)
          rcases hw147.2.2.2 with ⟨hvk151, hbk151, htk151, hpk151, hlk151⟩ | ⟨hvk151, hnk151, hpk151⟩
          · refine k_top (z := 1) hvk151 ?_
            obtain ⟨gv152, egv152⟩ : ∃ z : Int32, z = u149 19 := ⟨_, rfl⟩
            have hg153 : gv152.toInt = ((ik143 + 1 : Nat) : Int) := by rw [egv152]; exact hpk151
            have b154 : kb 0 gv152 400 := kb_tok (rS_fE hE hp0 (by decide)) hlk151 hg153
            refine lv_if_eq (tgt := 76) hx hb dX12_readOrder_66 (by decide) (fun c155 => ?_) (fun c155 => ?_)
            · exact kb_dj c155 kc_1 kc_0 (by decide)
            · refine lv_aload_n hx hb dX12_readOrder_69 rfl (lv_at hl 0 rfl) ?_
              refine lv_iconst (v := 1) hx hb dX12_readOrder_70 (by decide) ?_
              refine lv_bipush (v := 20) hx hb dX12_readOrder_71 (by decide) ?_
              refine kV.callV (As := [.int 1, .int 20]) (rest := []) ⟨hx, hb, hml, hown, hg⟩ (m_mustNumber l o r u149 a g hI 1 20  N (ik143 + 1) ob (rS_fE hE hp0 (by decide)) (by rw [egv152.symm]; exact hg153) hlk151) (cwV 2 hg (kgV wt6_235 wt6_237 wp4_14 wt1_14 wt6_238) rfl rfl rfl (by decide +kernel) ⟨by decide, by decide⟩) hK hP hD hS hA mIs [] rfl (wr := []) rfl rfl rfl (fun i h => by cases h) 0 12 rfl rfl rfl hl.1 rfl (Nat.le_of_ble_eq_true rfl) dX12_readOrder_73 ⟨Nat.le_refl _, Nat.le_refl _⟩ (fun u158 H locs hw156 hP hD hS => ?_)
              have hP : va_P D vwCl (mW K o r u158 a g) H := hP
              have hD : va_D A (mW K o r u158 a g) := hD
              have hI : mI u158 a := hw156.1
              have eE159 : fE [19, 20, 21] u149 u158 := hw156.2.1
              have hE : fE [19, 20, 21] f u158 := fE_tr hE eE159
              obtain ⟨ik160, hgk160, hlek160, hNk160, hik160⟩ := hw156.2.2
              obtain ⟨gv161, egv161⟩ : ∃ z : Int32, z = u158 19 := ⟨_, rfl⟩
              have hg162 : gv161.toInt = ((ik160 : Nat) : Int) := by rw [egv161]; exact hgk160
              have b163 : kb 0 gv161 400 := kb_tok (rS_fE hE hp0 (by decide)) hNk160 hg162
              refine lv_aload_n hx hb dX12_readOrder_76 rfl (lv_at hl 0 rfl) ?_
              refine lv_iconst (v := 5) hx hb dX12_readOrder_77 (by decide) ?_
              refine kI.callV (As := [.int 5]) (rest := []) ⟨hx, hb, hml, hown, hg⟩ (m_takes0 l o r u158 a g hI 5 (kb_w kc_5 (by decide) (by decide)) N (ik160) ob (rS_fE hE hp0 (by decide)) (by rw [egv161.symm]; exact hg162) hNk160) (cwV 1 hg (kgV wt6_200 wt6_202 wp4_6 wt1_14 wt6_203) rfl rfl rfl (by decide +kernel) ⟨by decide, by decide⟩) hK hP hD hS hA mIs [] rfl (wr := []) rfl rfl rfl (fun i h => by cases h) 0 12 rfl rfl rfl hl.1 rfl (Nat.le_of_ble_eq_true rfl) dX12_readOrder_78 ⟨Nat.le_refl _, Nat.le_refl _⟩ (fun v165 u166 H locs hw164 hP hD hS => ?_)
              have hP : va_P D vwCl (mW K o r u166 a g) H := hP
              have hD : va_D A (mW K o r u166 a g) := hD
              have hI : mI u166 a := hw164.2.1
              have eE167 : fE [19] u158 u166 := hw164.2.2.1
              have hE : fE [19, 20, 21] f u166 := fE_tr hE (fE_w (by decide) eE167)
              rcases hw164.2.2.2 with ⟨hvk168, hbk168, htk168, hpk168, hlk168⟩ | ⟨hvk168, hnk168, hpk168⟩
              · refine k_top (z := 1) hvk168 ?_
                obtain ⟨gv169, egv169⟩ : ∃ z : Int32, z = u166 19 := ⟨_, rfl⟩
                have hg170 : gv169.toInt = ((ik160 + 1 : Nat) : Int) := by rw [egv169]; exact hpk168
                have b171 : kb 0 gv169 400 := kb_tok (rS_fE hE hp0 (by decide)) hlk168 hg170
                refine lv_if_eq (tgt := 89) hx hb dX12_readOrder_81 (by decide) (fun c172 => ?_) (fun c172 => ?_)
                · exact kb_dj c172 kc_1 kc_0 (by decide)
                · refine lv_aload_n hx hb dX12_readOrder_84 rfl (lv_at hl 0 rfl) ?_
                  refine lv_iconst (v := 0) hx hb dX12_readOrder_85 (by decide) ?_
                  refine kV.callV (As := [.int 0]) (rest := []) ⟨hx, hb, hml, hown, hg⟩ ((m_allRTest 8) l o r u166 a g hI 0 (kb_w kc_0 (by decide) (by decide)) N (ik160 + 1) ob (rS_fE hE hp0 (by decide)) (by rw [egv169.symm]; exact hg170) hlk168 (by decide +kernel)) (cwV 1 hg (kgV wt6_239 wt7_1 wp4_15 wt1_14 wt7_2) rfl rfl rfl (by decide +kernel) ⟨by decide, by decide⟩) hK hP hD hS hA mIs [] rfl (wr := []) rfl rfl rfl (fun i h => by cases h) 0 12 rfl rfl rfl hl.1 rfl (Nat.le_of_ble_eq_true rfl) dX12_readOrder_86 ⟨Nat.le_refl _, Nat.le_refl _⟩ (fun u175 H locs hw173 hP hD hS => ?_)
                  have hP : va_P D vwCl (mW K o r u175 a g) H := hP
                  have hD : va_D A (mW K o r u175 a g) := hD
                  have hI : mI u175 a := hw173.1
                  have eE176 : fE [19, 20, 21] u166 u175 := hw173.2.1
                  have hE : fE [19, 20, 21] f u175 := fE_tr hE eE176
                  obtain ⟨ik177, hgk177, hlek177, hNk177, hik177⟩ := hw173.2.2
                  obtain ⟨gv178, egv178⟩ : ∃ z : Int32, z = u175 19 := ⟨_, rfl⟩
                  have hg179 : gv178.toInt = ((ik177 : Nat) : Int) := by rw [egv178]; exact hgk177
                  have b180 : kb 0 gv178 400 := kb_tok (rS_fE hE hp0 (by decide)) hNk177 hg179
                  exact kV_ret hx hb hr hlocks hK hS dX12_readOrder_89 u175 hP hD ⟨hI, hE, ⟨ik177, (by rw [egv178.symm]; exact hg179), (Nat.le_trans (Nat.le_succ_of_le (Nat.le_trans (Nat.le_succ_of_le (Nat.le_trans (Nat.le_succ_of_le (Nat.le_refl i)) hlek143)) hlek160)) hlek177), hNk177, (fun hq => by obtain ⟨q181, xk177⟩ := hik177 hq; have q182 := (eE167 21 (by decide)).symm.trans q181; obtain ⟨q183, xk160⟩ := hik160 q182; have q184 := (eE150 21 (by decide)).symm.trans q183; obtain ⟨q185, xk143⟩ := hik143 q184; have q186 := (eE133 21 (by decide)).symm.trans q185; have q187 := (eE5 21 (by decide)).symm.trans q186; have nnk6 := hnk6 q187; exact ⟨q187, gi_13b (Or.inl htk134) xk143 (gi_14y htk151 xk160.1 xk160.2 (gi_12y htk168 xk177))⟩)⟩⟩
              · refine k_top (z := 0) hvk168 ?_
                obtain ⟨gv188, egv188⟩ : ∃ z : Int32, z = u166 19 := ⟨_, rfl⟩
                have hg189 : gv188.toInt = ((ik160 : Nat) : Int) := by rw [egv188]; exact hpk168
                have b190 : kb 0 gv188 400 := kb_tok (rS_fE hE hp0 (by decide)) hNk160 hg189
                refine lv_if_eq (tgt := 89) hx hb dX12_readOrder_81 (by decide) (fun c191 => ?_) (fun c191 => ?_)
                · exact kV_ret hx hb hr hlocks hK hS dX12_readOrder_89 u166 hP hD ⟨hI, hE, ⟨ik160, (by rw [egv188.symm]; exact hg189), (Nat.le_trans (Nat.le_succ_of_le (Nat.le_trans (Nat.le_succ_of_le (Nat.le_refl i)) hlek143)) hlek160), hNk160, (fun hq => by have q192 := (eE167 21 (by decide)).symm.trans hq; have nnk168 := hnk168 q192; obtain ⟨q193, xk160⟩ := hik160 q192; have q194 := (eE150 21 (by decide)).symm.trans q193; obtain ⟨q195, xk143⟩ := hik143 q194; have q196 := (eE133 21 (by decide)).symm.trans q195; have q197 := (eE5 21 (by decide)).symm.trans q196; have nnk6 := hnk6 q197; exact ⟨q197, gi_13b (Or.inl htk134) xk143 (gi_14y htk151 xk160.1 xk160.2 (gi_12n nnk168))⟩)⟩⟩
                · exact kb_nsame c191 kc_0 kc_0
          · refine k_top (z := 0) hvk151 ?_
            obtain ⟨gv198, egv198⟩ : ∃ z : Int32, z = u149 19 := ⟨_, rfl⟩
            have hg199 : gv198.toInt = ((ik143 : Nat) : Int) := by rw [egv198]; exact hpk151
            have b200 : kb 0 gv198 400 := kb_tok (rS_fE hE hp0 (by decide)) hNk143 hg199
            refine lv_if_eq (tgt := 76) hx hb dX12_readOrder_66 (by decide) (fun c201 => ?_) (fun c201 => ?_)
            · refine lv_aload_n hx hb dX12_readOrder_76 rfl (lv_at hl 0 rfl) ?_
              refine lv_iconst (v := 5) hx hb dX12_readOrder_77 (by decide) ?_
              refine kI.callV (As := [.int 5]) (rest := []) ⟨hx, hb, hml, hown, hg⟩ (m_takes0 l o r u149 a g hI 5 (kb_w kc_5 (by decide) (by decide)) N (ik143) ob (rS_fE hE hp0 (by decide)) (by rw [egv198.symm]; exact hg199) hNk143) (cwV 1 hg (kgV wt6_200 wt6_202 wp4_6 wt1_14 wt6_203) rfl rfl rfl (by decide +kernel) ⟨by decide, by decide⟩) hK hP hD hS hA mIs [] rfl (wr := []) rfl rfl rfl (fun i h => by cases h) 0 12 rfl rfl rfl hl.1 rfl (Nat.le_of_ble_eq_true rfl) dX12_readOrder_78 ⟨Nat.le_refl _, Nat.le_refl _⟩ (fun v203 u204 H locs hw202 hP hD hS => ?_)
              have hP : va_P D vwCl (mW K o r u204 a g) H := hP
              have hD : va_D A (mW K o r u204 a g) := hD
              have hI : mI u204 a := hw202.2.1
              have eE205 : fE [19] u149 u204 := hw202.2.2.1
              have hE : fE [19, 20, 21] f u204 := fE_tr hE (fE_w (by decide) eE205)
              rcases hw202.2.2.2 with ⟨hvk206, hbk206, htk206, hpk206, hlk206⟩ | ⟨hvk206, hnk206, hpk206⟩
              · refine k_top (z := 1) hvk206 ?_
                obtain ⟨gv207, egv207⟩ : ∃ z : Int32, z = u204 19 := ⟨_, rfl⟩
                have hg208 : gv207.toInt = ((ik143 + 1 : Nat) : Int) := by rw [egv207]; exact hpk206
                have b209 : kb 0 gv207 400 := kb_tok (rS_fE hE hp0 (by decide)) hlk206 hg208
                refine lv_if_eq (tgt := 89) hx hb dX12_readOrder_81 (by decide) (fun c210 => ?_) (fun c210 => ?_)
                · exact kb_dj c210 kc_1 kc_0 (by decide)
                · refine lv_aload_n hx hb dX12_readOrder_84 rfl (lv_at hl 0 rfl) ?_
                  refine lv_iconst (v := 0) hx hb dX12_readOrder_85 (by decide) ?_
                  refine kV.callV (As := [.int 0]) (rest := []) ⟨hx, hb, hml, hown, hg⟩ ((m_allRTest 8) l o r u204 a g hI 0 (kb_w kc_0 (by decide) (by decide)) N (ik143 + 1) ob (rS_fE hE hp0 (by decide)) (by rw [egv207.symm]; exact hg208) hlk206 (by decide +kernel)) (cwV 1 hg (kgV wt6_239 wt7_1 wp4_15 wt1_14 wt7_2) rfl rfl rfl (by decide +kernel) ⟨by decide, by decide⟩) hK hP hD hS hA mIs [] rfl (wr := []) rfl rfl rfl (fun i h => by cases h) 0 12 rfl rfl rfl hl.1 rfl (Nat.le_of_ble_eq_true rfl) dX12_readOrder_86 ⟨Nat.le_refl _, Nat.le_refl _⟩ (fun u213 H locs hw211 hP hD hS => ?_)
                  have hP : va_P D vwCl (mW K o r u213 a g) H := hP
                  have hD : va_D A (mW K o r u213 a g) := hD
                  have hI : mI u213 a := hw211.1
                  have eE214 : fE [19, 20, 21] u204 u213 := hw211.2.1
                  have hE : fE [19, 20, 21] f u213 := fE_tr hE eE214
                  obtain ⟨ik215, hgk215, hlek215, hNk215, hik215⟩ := hw211.2.2
                  obtain ⟨gv216, egv216⟩ : ∃ z : Int32, z = u213 19 := ⟨_, rfl⟩
                  have hg217 : gv216.toInt = ((ik215 : Nat) : Int) := by rw [egv216]; exact hgk215
                  have b218 : kb 0 gv216 400 := kb_tok (rS_fE hE hp0 (by decide)) hNk215 hg217
                  exact kV_ret hx hb hr hlocks hK hS dX12_readOrder_89 u213 hP hD ⟨hI, hE, ⟨ik215, (by rw [egv216.symm]; exact hg217), (Nat.le_trans (Nat.le_succ_of_le (Nat.le_trans (Nat.le_succ_of_le (Nat.le_refl i)) hlek143)) hlek215), hNk215, (fun hq => by obtain ⟨q219, xk215⟩ := hik215 hq; have q220 := (eE205 21 (by decide)).symm.trans q219; have q221 := (eE150 21 (by decide)).symm.trans q220; have nnk151 := hnk151 q221; obtain ⟨q222, xk143⟩ := hik143 q221; have q223 := (eE133 21 (by decide)).symm.trans q222; have q224 := (eE5 21 (by decide)).symm.trans q223; have nnk6 := hnk6 q224; exact ⟨q224, gi_13b (Or.inl htk134) xk143 (gi_14n nnk151 (gi_12y htk206 xk215))⟩)⟩⟩
              · refine k_top (z := 0) hvk206 ?_
                obtain ⟨gv225, egv225⟩ : ∃ z : Int32, z = u204 19 := ⟨_, rfl⟩
                have hg226 : gv225.toInt = ((ik143 : Nat) : Int) := by rw [egv225]; exact hpk206
                have b227 : kb 0 gv225 400 := kb_tok (rS_fE hE hp0 (by decide)) hNk143 hg226
                refine lv_if_eq (tgt := 89) hx hb dX12_readOrder_81 (by decide) (fun c228 => ?_) (fun c228 => ?_)
                · exact kV_ret hx hb hr hlocks hK hS dX12_readOrder_89 u204 hP hD ⟨hI, hE, ⟨ik143, (by rw [egv225.symm]; exact hg226), (Nat.le_trans (Nat.le_succ_of_le (Nat.le_refl i)) hlek143), hNk143, (fun hq => by have q229 := (eE205 21 (by decide)).symm.trans hq; have nnk206 := hnk206 q229; have q230 := (eE150 21 (by decide)).symm.trans q229; have nnk151 := hnk151 q230; obtain ⟨q231, xk143⟩ := hik143 q230; have q232 := (eE133 21 (by decide)).symm.trans q231; have q233 := (eE5 21 (by decide)).symm.trans q232; have nnk6 := hnk6 q233; exact ⟨q233, gi_13b (Or.inl htk134) xk143 (gi_14n nnk151 (gi_12n nnk206))⟩)⟩⟩
                · exact kb_nsame c228 kc_0 kc_0
            · exact kb_nsame c201 kc_0 kc_0
        · exact kb_dj c138 kc_1 kc_0 (by decide)
      · refine k_top (z := 0) hvk134 ?_
        obtain ⟨gv234, egv234⟩ : ∃ z : Int32, z = u132 19 := ⟨_, rfl⟩
        have hg235 : gv234.toInt = ((i : Nat) : Int) := by rw [egv234]; exact hpk134
        have b236 : kb 0 gv234 400 := kb_tok (rS_fE hE hp0 (by decide)) hp2 hg235
        refine lv_if_ne (tgt := 46) hx hb dX12_readOrder_34 (by decide) (fun c237 => ?_) (fun c237 => ?_)
        · exact kb_nsame c237 kc_0 kc_0
        · refine lv_aload_n hx hb dX12_readOrder_37 rfl (lv_at hl 0 rfl) ?_
          refine lv_bipush (v := 26) hx hb dX12_readOrder_38 (by decide) ?_
          refine kI.callV (As := [.int 26]) (rest := []) ⟨hx, hb, hml, hown, hg⟩ (m_takes0 l o r u132 a g hI 26 (kb_w kc_26 (by decide) (by decide)) N (i) ob (rS_fE hE hp0 (by decide)) (by rw [egv234.symm]; exact hg235) hp2) (cwV 1 hg (kgV wt6_200 wt6_202 wp4_6 wt1_14 wt6_203) rfl rfl rfl (by decide +kernel) ⟨by decide, by decide⟩) hK hP hD hS hA mIs [] rfl (wr := []) rfl rfl rfl (fun i h => by cases h) 0 12 rfl rfl rfl hl.1 rfl (Nat.le_of_ble_eq_true rfl) dX12_readOrder_40 ⟨Nat.le_refl _, Nat.le_refl _⟩ (fun v239 u240 H locs hw238 hP hD hS => ?_)
          have hP : va_P D vwCl (mW K o r u240 a g) H := hP
          have hD : va_D A (mW K o r u240 a g) := hD
          have hI : mI u240 a := hw238.2.1
          have eE241 : fE [19] u132 u240 := hw238.2.2.1
          have hE : fE [19, 20, 21] f u240 := fE_tr hE (fE_w (by decide) eE241)
          rcases hw238.2.2.2 with ⟨hvk242, hbk242, htk242, hpk242, hlk242⟩ | ⟨hvk242, hnk242, hpk242⟩
          · refine k_top (z := 1) hvk242 ?_
            obtain ⟨gv243, egv243⟩ : ∃ z : Int32, z = u240 19 := ⟨_, rfl⟩
            have hg244 : gv243.toInt = ((i + 1 : Nat) : Int) := by rw [egv243]; exact hpk242
            have b245 : kb 0 gv243 400 := kb_tok (rS_fE hE hp0 (by decide)) hlk242 hg244
            refine lv_if_eq (tgt := 54) hx hb dX12_readOrder_43 (by decide) (fun c246 => ?_) (fun c246 => ?_)
            · exact kb_dj c246 kc_1 kc_0 (by decide)
            · refine lv_aload_n hx hb dX12_readOrder_46 rfl (lv_at hl 0 rfl) ?_
              refine lv_iconst (v := 0) hx hb dX12_readOrder_47 (by decide) ?_
              refine kV.callV (As := [.int 0]) (rest := []) ⟨hx, hb, hml, hown, hg⟩ ((m_allRSum 8) l o r u240 a g hI 0 (kb_w kc_0 (by decide) (by decide)) N (i + 1) ob (rS_fE hE hp0 (by decide)) (by rw [egv243.symm]; exact hg244) hlk242 (by decide +kernel)) (cwV 1 hg (kgV wt6_208 wt6_210 wp4_8 wt1_14 wt6_211) rfl rfl rfl (by decide +kernel) ⟨by decide, by decide⟩) hK hP hD hS hA mIs [] rfl (wr := []) rfl rfl rfl (fun i h => by cases h) 0 12 rfl rfl rfl hl.1 rfl (Nat.le_of_ble_eq_true rfl) dX12_readOrder_48 ⟨Nat.le_refl _, Nat.le_refl _⟩ (fun u249 H locs hw247 hP hD hS => ?_)
              have hP : va_P D vwCl (mW K o r u249 a g) H := hP
              have hD : va_D A (mW K o r u249 a g) := hD
              have hI : mI u249 a := hw247.1
              have eE250 : fE [19, 20, 21] u240 u249 := hw247.2.1
              have hE : fE [19, 20, 21] f u249 := fE_tr hE eE250
              obtain ⟨ik251, hgk251, hlek251, hNk251, hik251⟩ := hw247.2.2
              obtain ⟨gv252, egv252⟩ : ∃ z : Int32, z = u249 19 := ⟨_, rfl⟩
              have hg253 : gv252.toInt = ((ik251 : Nat) : Int) := by rw [egv252]; exact hgk251
              have b254 : kb 0 gv252 400 := kb_tok (rS_fE hE hp0 (by decide)) hNk251 hg253
              refine lv_goto (tgt := 60) hx hb dX12_readOrder_51 (by decide) ?_
              refine lv_aload_n hx hb dX12_readOrder_60 rfl (lv_at hl 0 rfl) ?_
              refine lv_bipush (v := 28) hx hb dX12_readOrder_61 (by decide) ?_
              refine kI.callV (As := [.int 28]) (rest := []) ⟨hx, hb, hml, hown, hg⟩ (m_takes0 l o r u249 a g hI 28 (kb_w kc_28 (by decide) (by decide)) N (ik251) ob (rS_fE hE hp0 (by decide)) (by rw [egv252.symm]; exact hg253) hNk251) (cwV 1 hg (kgV wt6_200 wt6_202 wp4_6 wt1_14 wt6_203) rfl rfl rfl (by decide +kernel) ⟨by decide, by decide⟩) hK hP hD hS hA mIs [] rfl (wr := []) rfl rfl rfl (fun i h => by cases h) 0 12 rfl rfl rfl hl.1 rfl (Nat.le_of_ble_eq_true rfl) dX12_readOrder_63 ⟨Nat.le_refl _, Nat.le_refl _⟩ (fun v256 u257 H locs hw255 hP hD hS => ?_)
              have hP : va_P D vwCl (mW K o r u257 a g) H := hP
              have hD : va_D A (mW K o r u257 a g) := hD
              have hI : mI u257 a := hw255.2.1
              have eE258 : fE [19] u249 u257 := hw255.2.2.1
              have hE : fE [19, 20, 21] f u257 := fE_tr hE (fE_w (by decide) eE258)
              rcases hw255.2.2.2 with ⟨hvk259, hbk259, htk259, hpk259, hlk259⟩ | ⟨hvk259, hnk259, hpk259⟩
              · refine k_top (z := 1) hvk259 ?_
                obtain ⟨gv260, egv260⟩ : ∃ z : Int32, z = u257 19 := ⟨_, rfl⟩
                have hg261 : gv260.toInt = ((ik251 + 1 : Nat) : Int) := by rw [egv260]; exact hpk259
                have b262 : kb 0 gv260 400 := kb_tok (rS_fE hE hp0 (by decide)) hlk259 hg261
                refine lv_if_eq (tgt := 76) hx hb dX12_readOrder_66 (by decide) (fun c263 => ?_) (fun c263 => ?_)
                · exact kb_dj c263 kc_1 kc_0 (by decide)
                · refine lv_aload_n hx hb dX12_readOrder_69 rfl (lv_at hl 0 rfl) ?_
                  refine lv_iconst (v := 1) hx hb dX12_readOrder_70 (by decide) ?_
                  refine lv_bipush (v := 20) hx hb dX12_readOrder_71 (by decide) ?_
                  refine kV.callV (As := [.int 1, .int 20]) (rest := []) ⟨hx, hb, hml, hown, hg⟩ (m_mustNumber l o r u257 a g hI 1 20  N (ik251 + 1) ob (rS_fE hE hp0 (by decide)) (by rw [egv260.symm]; exact hg261) hlk259) (cwV 2 hg (kgV wt6_235 wt6_237 wp4_14 wt1_14 wt6_238) rfl rfl rfl (by decide +kernel) ⟨by decide, by decide⟩) hK hP hD hS hA mIs [] rfl (wr := []) rfl rfl rfl (fun i h => by cases h) 0 12 rfl rfl rfl hl.1 rfl (Nat.le_of_ble_eq_true rfl) dX12_readOrder_73 ⟨Nat.le_refl _, Nat.le_refl _⟩ (fun u266 H locs hw264 hP hD hS => ?_)
                  have hP : va_P D vwCl (mW K o r u266 a g) H := hP
                  have hD : va_D A (mW K o r u266 a g) := hD
                  have hI : mI u266 a := hw264.1
                  have eE267 : fE [19, 20, 21] u257 u266 := hw264.2.1
                  have hE : fE [19, 20, 21] f u266 := fE_tr hE eE267
                  obtain ⟨ik268, hgk268, hlek268, hNk268, hik268⟩ := hw264.2.2
                  obtain ⟨gv269, egv269⟩ : ∃ z : Int32, z = u266 19 := ⟨_, rfl⟩
                  have hg270 : gv269.toInt = ((ik268 : Nat) : Int) := by rw [egv269]; exact hgk268
                  have b271 : kb 0 gv269 400 := kb_tok (rS_fE hE hp0 (by decide)) hNk268 hg270
                  refine lv_aload_n hx hb dX12_readOrder_76 rfl (lv_at hl 0 rfl) ?_
                  refine lv_iconst (v := 5) hx hb dX12_readOrder_77 (by decide) ?_
                  refine kI.callV (As := [.int 5]) (rest := []) ⟨hx, hb, hml, hown, hg⟩ (m_takes0 l o r u266 a g hI 5 (kb_w kc_5 (by decide) (by decide)) N (ik268) ob (rS_fE hE hp0 (by decide)) (by rw [egv269.symm]; exact hg270) hNk268) (cwV 1 hg (kgV wt6_200 wt6_202 wp4_6 wt1_14 wt6_203) rfl rfl rfl (by decide +kernel) ⟨by decide, by decide⟩) hK hP hD hS hA mIs [] rfl (wr := []) rfl rfl rfl (fun i h => by cases h) 0 12 rfl rfl rfl hl.1 rfl (Nat.le_of_ble_eq_true rfl) dX12_readOrder_78 ⟨Nat.le_refl _, Nat.le_refl _⟩ (fun v273 u274 H locs hw272 hP hD hS => ?_)
                  have hP : va_P D vwCl (mW K o r u274 a g) H := hP
                  have hD : va_D A (mW K o r u274 a g) := hD
                  have hI : mI u274 a := hw272.2.1
                  have eE275 : fE [19] u266 u274 := hw272.2.2.1
                  have hE : fE [19, 20, 21] f u274 := fE_tr hE (fE_w (by decide) eE275)
                  rcases hw272.2.2.2 with ⟨hvk276, hbk276, htk276, hpk276, hlk276⟩ | ⟨hvk276, hnk276, hpk276⟩
                  · refine k_top (z := 1) hvk276 ?_
                    obtain ⟨gv277, egv277⟩ : ∃ z : Int32, z = u274 19 := ⟨_, rfl⟩
                    have hg278 : gv277.toInt = ((ik268 + 1 : Nat) : Int) := by rw [egv277]; exact hpk276
                    have b279 : kb 0 gv277 400 := kb_tok (rS_fE hE hp0 (by decide)) hlk276 hg278
                    refine lv_if_eq (tgt := 89) hx hb dX12_readOrder_81 (by decide) (fun c280 => ?_) (fun c280 => ?_)
                    · exact kb_dj c280 kc_1 kc_0 (by decide)
                    · refine lv_aload_n hx hb dX12_readOrder_84 rfl (lv_at hl 0 rfl) ?_
                      refine lv_iconst (v := 0) hx hb dX12_readOrder_85 (by decide) ?_
                      refine kV.callV (As := [.int 0]) (rest := []) ⟨hx, hb, hml, hown, hg⟩ ((m_allRTest 8) l o r u274 a g hI 0 (kb_w kc_0 (by decide) (by decide)) N (ik268 + 1) ob (rS_fE hE hp0 (by decide)) (by rw [egv277.symm]; exact hg278) hlk276 (by decide +kernel)) (cwV 1 hg (kgV wt6_239 wt7_1 wp4_15 wt1_14 wt7_2) rfl rfl rfl (by decide +kernel) ⟨by decide, by decide⟩) hK hP hD hS hA mIs [] rfl (wr := []) rfl rfl rfl (fun i h => by cases h) 0 12 rfl rfl rfl hl.1 rfl (Nat.le_of_ble_eq_true rfl) dX12_readOrder_86 ⟨Nat.le_refl _, Nat.le_refl _⟩ (fun u283 H locs hw281 hP hD hS => ?_)
                      have hP : va_P D vwCl (mW K o r u283 a g) H := hP
                      have hD : va_D A (mW K o r u283 a g) := hD
                      have hI : mI u283 a := hw281.1
                      have eE284 : fE [19, 20, 21] u274 u283 := hw281.2.1
                      have hE : fE [19, 20, 21] f u283 := fE_tr hE eE284
                      obtain ⟨ik285, hgk285, hlek285, hNk285, hik285⟩ := hw281.2.2
                      obtain ⟨gv286, egv286⟩ : ∃ z : Int32, z = u283 19 := ⟨_, rfl⟩
                      have hg287 : gv286.toInt = ((ik285 : Nat) : Int) := by rw [egv286]; exact hgk285
                      have b288 : kb 0 gv286 400 := kb_tok (rS_fE hE hp0 (by decide)) hNk285 hg287
                      exact kV_ret hx hb hr hlocks hK hS dX12_readOrder_89 u283 hP hD ⟨hI, hE, ⟨ik285, (by rw [egv286.symm]; exact hg287), (Nat.le_trans (Nat.le_succ_of_le (Nat.le_trans (Nat.le_succ_of_le (Nat.le_trans (Nat.le_succ_of_le (Nat.le_refl i)) hlek251)) hlek268)) hlek285), hNk285, (fun hq => by obtain ⟨q289, xk285⟩ := hik285 hq; have q290 := (eE275 21 (by decide)).symm.trans q289; obtain ⟨q291, xk268⟩ := hik268 q290; have q292 := (eE258 21 (by decide)).symm.trans q291; obtain ⟨q293, xk251⟩ := hik251 q292; have q294 := (eE241 21 (by decide)).symm.trans q293; have q295 := (eE133 21 (by decide)).symm.trans q294; have nnk134 := hnk134 q295; have q296 := (eE5 21 (by decide)).symm.trans q295; have nnk6 := hnk6 q296; exact ⟨q296, gi_13b (Or.inr htk242) xk251 (gi_14y htk259 xk268.1 xk268.2 (gi_12y htk276 xk285))⟩)⟩⟩
                  · refine k_top (z := 0) hvk276 ?_
                    obtain ⟨gv297, egv297⟩ : ∃ z : Int32, z = u274 19 := ⟨_, rfl⟩
                    have hg298 : gv297.toInt = ((ik268 : Nat) : Int) := by rw [egv297]; exact hpk276
                    have b299 : kb 0 gv297 400 := kb_tok (rS_fE hE hp0 (by decide)) hNk268 hg298
                    refine lv_if_eq (tgt := 89) hx hb dX12_readOrder_81 (by decide) (fun c300 => ?_) (fun c300 => ?_)
                    · exact kV_ret hx hb hr hlocks hK hS dX12_readOrder_89 u274 hP hD ⟨hI, hE, ⟨ik268, (by rw [egv297.symm]; exact hg298), (Nat.le_trans (Nat.le_succ_of_le (Nat.le_trans (Nat.le_succ_of_le (Nat.le_refl i)) hlek251)) hlek268), hNk268, (fun hq => by have q301 := (eE275 21 (by decide)).symm.trans hq; have nnk276 := hnk276 q301; obtain ⟨q302, xk268⟩ := hik268 q301; have q303 := (eE258 21 (by decide)).symm.trans q302; obtain ⟨q304, xk251⟩ := hik251 q303; have q305 := (eE241 21 (by decide)).symm.trans q304; have q306 := (eE133 21 (by decide)).symm.trans q305; have nnk134 := hnk134 q306; have q307 := (eE5 21 (by decide)).symm.trans q306; have nnk6 := hnk6 q307; exact ⟨q307, gi_13b (Or.inr htk242) xk251 (gi_14y htk259 xk268.1 xk268.2 (gi_12n nnk276))⟩)⟩⟩
                    · exact kb_nsame c300 kc_0 kc_0
              · refine k_top (z := 0) hvk259 ?_
                obtain ⟨gv308, egv308⟩ : ∃ z : Int32, z = u257 19 := ⟨_, rfl⟩
                have hg309 : gv308.toInt = ((ik251 : Nat) : Int) := by rw [egv308]; exact hpk259
                have b310 : kb 0 gv308 400 := kb_tok (rS_fE hE hp0 (by decide)) hNk251 hg309
                refine lv_if_eq (tgt := 76) hx hb dX12_readOrder_66 (by decide) (fun c311 => ?_) (fun c311 => ?_)
                · refine lv_aload_n hx hb dX12_readOrder_76 rfl (lv_at hl 0 rfl) ?_
                  refine lv_iconst (v := 5) hx hb dX12_readOrder_77 (by decide) ?_
                  refine kI.callV (As := [.int 5]) (rest := []) ⟨hx, hb, hml, hown, hg⟩ (m_takes0 l o r u257 a g hI 5 (kb_w kc_5 (by decide) (by decide)) N (ik251) ob (rS_fE hE hp0 (by decide)) (by rw [egv308.symm]; exact hg309) hNk251) (cwV 1 hg (kgV wt6_200 wt6_202 wp4_6 wt1_14 wt6_203) rfl rfl rfl (by decide +kernel) ⟨by decide, by decide⟩) hK hP hD hS hA mIs [] rfl (wr := []) rfl rfl rfl (fun i h => by cases h) 0 12 rfl rfl rfl hl.1 rfl (Nat.le_of_ble_eq_true rfl) dX12_readOrder_78 ⟨Nat.le_refl _, Nat.le_refl _⟩ (fun v313 u314 H locs hw312 hP hD hS => ?_)
                  have hP : va_P D vwCl (mW K o r u314 a g) H := hP
                  have hD : va_D A (mW K o r u314 a g) := hD
                  have hI : mI u314 a := hw312.2.1
                  have eE315 : fE [19] u257 u314 := hw312.2.2.1
                  have hE : fE [19, 20, 21] f u314 := fE_tr hE (fE_w (by decide) eE315)
                  rcases hw312.2.2.2 with ⟨hvk316, hbk316, htk316, hpk316, hlk316⟩ | ⟨hvk316, hnk316, hpk316⟩
                  · refine k_top (z := 1) hvk316 ?_
                    obtain ⟨gv317, egv317⟩ : ∃ z : Int32, z = u314 19 := ⟨_, rfl⟩
                    have hg318 : gv317.toInt = ((ik251 + 1 : Nat) : Int) := by rw [egv317]; exact hpk316
                    have b319 : kb 0 gv317 400 := kb_tok (rS_fE hE hp0 (by decide)) hlk316 hg318
                    refine lv_if_eq (tgt := 89) hx hb dX12_readOrder_81 (by decide) (fun c320 => ?_) (fun c320 => ?_)
                    · exact kb_dj c320 kc_1 kc_0 (by decide)
                    · refine lv_aload_n hx hb dX12_readOrder_84 rfl (lv_at hl 0 rfl) ?_
                      refine lv_iconst (v := 0) hx hb dX12_readOrder_85 (by decide) ?_
                      refine kV.callV (As := [.int 0]) (rest := []) ⟨hx, hb, hml, hown, hg⟩ ((m_allRTest 8) l o r u314 a g hI 0 (kb_w kc_0 (by decide) (by decide)) N (ik251 + 1) ob (rS_fE hE hp0 (by decide)) (by rw [egv317.symm]; exact hg318) hlk316 (by decide +kernel)) (cwV 1 hg (kgV wt6_239 wt7_1 wp4_15 wt1_14 wt7_2) rfl rfl rfl (by decide +kernel) ⟨by decide, by decide⟩) hK hP hD hS hA mIs [] rfl (wr := []) rfl rfl rfl (fun i h => by cases h) 0 12 rfl rfl rfl hl.1 rfl (Nat.le_of_ble_eq_true rfl) dX12_readOrder_86 ⟨Nat.le_refl _, Nat.le_refl _⟩ (fun u323 H locs hw321 hP hD hS => ?_)
                      have hP : va_P D vwCl (mW K o r u323 a g) H := hP
                      have hD : va_D A (mW K o r u323 a g) := hD
                      have hI : mI u323 a := hw321.1
                      have eE324 : fE [19, 20, 21] u314 u323 := hw321.2.1
                      have hE : fE [19, 20, 21] f u323 := fE_tr hE eE324
                      obtain ⟨ik325, hgk325, hlek325, hNk325, hik325⟩ := hw321.2.2
                      obtain ⟨gv326, egv326⟩ : ∃ z : Int32, z = u323 19 := ⟨_, rfl⟩
                      have hg327 : gv326.toInt = ((ik325 : Nat) : Int) := by rw [egv326]; exact hgk325
                      have b328 : kb 0 gv326 400 := kb_tok (rS_fE hE hp0 (by decide)) hNk325 hg327
                      exact kV_ret hx hb hr hlocks hK hS dX12_readOrder_89 u323 hP hD ⟨hI, hE, ⟨ik325, (by rw [egv326.symm]; exact hg327), (Nat.le_trans (Nat.le_succ_of_le (Nat.le_trans (Nat.le_succ_of_le (Nat.le_refl i)) hlek251)) hlek325), hNk325, (fun hq => by obtain ⟨q329, xk325⟩ := hik325 hq; have q330 := (eE315 21 (by decide)).symm.trans q329; have q331 := (eE258 21 (by decide)).symm.trans q330; have nnk259 := hnk259 q331; obtain ⟨q332, xk251⟩ := hik251 q331; have q333 := (eE241 21 (by decide)).symm.trans q332; have q334 := (eE133 21 (by decide)).symm.trans q333; have nnk134 := hnk134 q334; have q335 := (eE5 21 (by decide)).symm.trans q334; have nnk6 := hnk6 q335; exact ⟨q335, gi_13b (Or.inr htk242) xk251 (gi_14n nnk259 (gi_12y htk316 xk325))⟩)⟩⟩
                  · refine k_top (z := 0) hvk316 ?_
                    obtain ⟨gv336, egv336⟩ : ∃ z : Int32, z = u314 19 := ⟨_, rfl⟩
                    have hg337 : gv336.toInt = ((ik251 : Nat) : Int) := by rw [egv336]; exact hpk316
                    have b338 : kb 0 gv336 400 := kb_tok (rS_fE hE hp0 (by decide)) hNk251 hg337
                    refine lv_if_eq (tgt := 89) hx hb dX12_readOrder_81 (by decide) (fun c339 => ?_) (fun c339 => ?_)
                    · exact kV_ret hx hb hr hlocks hK hS dX12_readOrder_89 u314 hP hD ⟨hI, hE, ⟨ik251, (by rw [egv336.symm]; exact hg337), (Nat.le_trans (Nat.le_succ_of_le (Nat.le_refl i)) hlek251), hNk251, (fun hq => by have q340 := (eE315 21 (by decide)).symm.trans hq; have nnk316 := hnk316 q340; have q341 := (eE258 21 (by decide)).symm.trans q340; have nnk259 := hnk259 q341; obtain ⟨q342, xk251⟩ := hik251 q341; have q343 := (eE241 21 (by decide)).symm.trans q342; have q344 := (eE133 21 (by decide)).symm.trans q343; have nnk134 := hnk134 q344; have q345 := (eE5 21 (by decide)).symm.trans q344; have nnk6 := hnk6 q345; exact ⟨q345, gi_13b (Or.inr htk242) xk251 (gi_14n nnk259 (gi_12n nnk316))⟩)⟩⟩
                    · exact kb_nsame c339 kc_0 kc_0
                · exact kb_nsame c311 kc_0 kc_0
          · refine k_top (z := 0) hvk242 ?_
            obtain ⟨gv346, egv346⟩ : ∃ z : Int32, z = u240 19 := ⟨_, rfl⟩
            have hg347 : gv346.toInt = ((i : Nat) : Int) := by rw [egv346]; exact hpk242
            have b348 : kb 0 gv346 400 := kb_tok (rS_fE hE hp0 (by decide)) hp2 hg347
            refine lv_if_eq (tgt := 54) hx hb dX12_readOrder_43 (by decide) (fun c349 => ?_) (fun c349 => ?_)
            · refine lv_aload_n hx hb dX12_readOrder_54 rfl (lv_at hl 0 rfl) ?_
              refine lv_bipush (v := 27) hx hb dX12_readOrder_55 (by decide) ?_
              refine kV.callV (As := [.int 27]) (rest := []) ⟨hx, hb, hml, hown, hg⟩ (m_must l o r u240 a g hI 27 (kb_w kc_27 (by decide) (by decide)) N (i) ob (rS_fE hE hp0 (by decide)) (by rw [egv346.symm]; exact hg347) hp2) (cwV 1 hg (kgV wt6_227 wt6_229 wp4_12 wt1_14 wt6_230) rfl rfl rfl (by decide +kernel) ⟨by decide, by decide⟩) hK hP hD hS hA mIs [] rfl (wr := []) rfl rfl rfl (fun i h => by cases h) 0 12 rfl rfl rfl hl.1 rfl (Nat.le_of_ble_eq_true rfl) dX12_readOrder_57 ⟨Nat.le_refl _, Nat.le_refl _⟩ (fun u352 H locs hw350 hP hD hS => ?_)
              have hP : va_P D vwCl (mW K o r u352 a g) H := hP
              have hD : va_D A (mW K o r u352 a g) := hD
              have hI : mI u352 a := hw350.1
              have eE353 : fE [19, 20, 21] u240 u352 := hw350.2.1
              have hE : fE [19, 20, 21] f u352 := fE_tr hE eE353
              obtain ⟨ik354, hgk354, hlek354, hNk354, hik354⟩ := hw350.2.2
              obtain ⟨gv355, egv355⟩ : ∃ z : Int32, z = u352 19 := ⟨_, rfl⟩
              have hg356 : gv355.toInt = ((ik354 : Nat) : Int) := by rw [egv355]; exact hgk354
              have b357 : kb 0 gv355 400 := kb_tok (rS_fE hE hp0 (by decide)) hNk354 hg356
              refine lv_aload_n hx hb dX12_readOrder_60 rfl (lv_at hl 0 rfl) ?_
              refine lv_bipush (v := 28) hx hb dX12_readOrder_61 (by decide) ?_
              refine kI.callV (As := [.int 28]) (rest := []) ⟨hx, hb, hml, hown, hg⟩ (m_takes0 l o r u352 a g hI 28 (kb_w kc_28 (by decide) (by decide)) N (ik354) ob (rS_fE hE hp0 (by decide)) (by rw [egv355.symm]; exact hg356) hNk354) (cwV 1 hg (kgV wt6_200 wt6_202 wp4_6 wt1_14 wt6_203) rfl rfl rfl (by decide +kernel) ⟨by decide, by decide⟩) hK hP hD hS hA mIs [] rfl (wr := []) rfl rfl rfl (fun i h => by cases h) 0 12 rfl rfl rfl hl.1 rfl (Nat.le_of_ble_eq_true rfl) dX12_readOrder_63 ⟨Nat.le_refl _, Nat.le_refl _⟩ (fun v359 u360 H locs hw358 hP hD hS => ?_)
              have hP : va_P D vwCl (mW K o r u360 a g) H := hP
              have hD : va_D A (mW K o r u360 a g) := hD
              have hI : mI u360 a := hw358.2.1
              have eE361 : fE [19] u352 u360 := hw358.2.2.1
              have hE : fE [19, 20, 21] f u360 := fE_tr hE (fE_w (by decide) eE361)
              rcases hw358.2.2.2 with ⟨hvk362, hbk362, htk362, hpk362, hlk362⟩ | ⟨hvk362, hnk362, hpk362⟩
              · refine k_top (z := 1) hvk362 ?_
                obtain ⟨gv363, egv363⟩ : ∃ z : Int32, z = u360 19 := ⟨_, rfl⟩
                have hg364 : gv363.toInt = ((ik354 + 1 : Nat) : Int) := by rw [egv363]; exact hpk362
                have b365 : kb 0 gv363 400 := kb_tok (rS_fE hE hp0 (by decide)) hlk362 hg364
                refine lv_if_eq (tgt := 76) hx hb dX12_readOrder_66 (by decide) (fun c366 => ?_) (fun c366 => ?_)
                · exact kb_dj c366 kc_1 kc_0 (by decide)
                · refine lv_aload_n hx hb dX12_readOrder_69 rfl (lv_at hl 0 rfl) ?_
                  refine lv_iconst (v := 1) hx hb dX12_readOrder_70 (by decide) ?_
                  refine lv_bipush (v := 20) hx hb dX12_readOrder_71 (by decide) ?_
                  refine kV.callV (As := [.int 1, .int 20]) (rest := []) ⟨hx, hb, hml, hown, hg⟩ (m_mustNumber l o r u360 a g hI 1 20  N (ik354 + 1) ob (rS_fE hE hp0 (by decide)) (by rw [egv363.symm]; exact hg364) hlk362) (cwV 2 hg (kgV wt6_235 wt6_237 wp4_14 wt1_14 wt6_238) rfl rfl rfl (by decide +kernel) ⟨by decide, by decide⟩) hK hP hD hS hA mIs [] rfl (wr := []) rfl rfl rfl (fun i h => by cases h) 0 12 rfl rfl rfl hl.1 rfl (Nat.le_of_ble_eq_true rfl) dX12_readOrder_73 ⟨Nat.le_refl _, Nat.le_refl _⟩ (fun u369 H locs hw367 hP hD hS => ?_)
                  have hP : va_P D vwCl (mW K o r u369 a g) H := hP
                  have hD : va_D A (mW K o r u369 a g) := hD
                  have hI : mI u369 a := hw367.1
                  have eE370 : fE [19, 20, 21] u360 u369 := hw367.2.1
                  have hE : fE [19, 20, 21] f u369 := fE_tr hE eE370
                  obtain ⟨ik371, hgk371, hlek371, hNk371, hik371⟩ := hw367.2.2
                  obtain ⟨gv372, egv372⟩ : ∃ z : Int32, z = u369 19 := ⟨_, rfl⟩
                  have hg373 : gv372.toInt = ((ik371 : Nat) : Int) := by rw [egv372]; exact hgk371
                  have b374 : kb 0 gv372 400 := kb_tok (rS_fE hE hp0 (by decide)) hNk371 hg373
                  refine lv_aload_n hx hb dX12_readOrder_76 rfl (lv_at hl 0 rfl) ?_
                  refine lv_iconst (v := 5) hx hb dX12_readOrder_77 (by decide) ?_
                  refine kI.callV (As := [.int 5]) (rest := []) ⟨hx, hb, hml, hown, hg⟩ (m_takes0 l o r u369 a g hI 5 (kb_w kc_5 (by decide) (by decide)) N (ik371) ob (rS_fE hE hp0 (by decide)) (by rw [egv372.symm]; exact hg373) hNk371) (cwV 1 hg (kgV wt6_200 wt6_202 wp4_6 wt1_14 wt6_203) rfl rfl rfl (by decide +kernel) ⟨by decide, by decide⟩) hK hP hD hS hA mIs [] rfl (wr := []) rfl rfl rfl (fun i h => by cases h) 0 12 rfl rfl rfl hl.1 rfl (Nat.le_of_ble_eq_true rfl) dX12_readOrder_78 ⟨Nat.le_refl _, Nat.le_refl _⟩ (fun v376 u377 H locs hw375 hP hD hS => ?_)
                  have hP : va_P D vwCl (mW K o r u377 a g) H := hP
                  have hD : va_D A (mW K o r u377 a g) := hD
                  have hI : mI u377 a := hw375.2.1
                  have eE378 : fE [19] u369 u377 := hw375.2.2.1
                  have hE : fE [19, 20, 21] f u377 := fE_tr hE (fE_w (by decide) eE378)
                  rcases hw375.2.2.2 with ⟨hvk379, hbk379, htk379, hpk379, hlk379⟩ | ⟨hvk379, hnk379, hpk379⟩
                  · refine k_top (z := 1) hvk379 ?_
                    obtain ⟨gv380, egv380⟩ : ∃ z : Int32, z = u377 19 := ⟨_, rfl⟩
                    have hg381 : gv380.toInt = ((ik371 + 1 : Nat) : Int) := by rw [egv380]; exact hpk379
                    have b382 : kb 0 gv380 400 := kb_tok (rS_fE hE hp0 (by decide)) hlk379 hg381
                    refine lv_if_eq (tgt := 89) hx hb dX12_readOrder_81 (by decide) (fun c383 => ?_) (fun c383 => ?_)
                    · exact kb_dj c383 kc_1 kc_0 (by decide)
                    · refine lv_aload_n hx hb dX12_readOrder_84 rfl (lv_at hl 0 rfl) ?_
                      refine lv_iconst (v := 0) hx hb dX12_readOrder_85 (by decide) ?_
                      refine kV.callV (As := [.int 0]) (rest := []) ⟨hx, hb, hml, hown, hg⟩ ((m_allRTest 8) l o r u377 a g hI 0 (kb_w kc_0 (by decide) (by decide)) N (ik371 + 1) ob (rS_fE hE hp0 (by decide)) (by rw [egv380.symm]; exact hg381) hlk379 (by decide +kernel)) (cwV 1 hg (kgV wt6_239 wt7_1 wp4_15 wt1_14 wt7_2) rfl rfl rfl (by decide +kernel) ⟨by decide, by decide⟩) hK hP hD hS hA mIs [] rfl (wr := []) rfl rfl rfl (fun i h => by cases h) 0 12 rfl rfl rfl hl.1 rfl (Nat.le_of_ble_eq_true rfl) dX12_readOrder_86 ⟨Nat.le_refl _, Nat.le_refl _⟩ (fun u386 H locs hw384 hP hD hS => ?_)
                      have hP : va_P D vwCl (mW K o r u386 a g) H := hP
                      have hD : va_D A (mW K o r u386 a g) := hD
                      have hI : mI u386 a := hw384.1
                      have eE387 : fE [19, 20, 21] u377 u386 := hw384.2.1
                      have hE : fE [19, 20, 21] f u386 := fE_tr hE eE387
                      obtain ⟨ik388, hgk388, hlek388, hNk388, hik388⟩ := hw384.2.2
                      obtain ⟨gv389, egv389⟩ : ∃ z : Int32, z = u386 19 := ⟨_, rfl⟩
                      have hg390 : gv389.toInt = ((ik388 : Nat) : Int) := by rw [egv389]; exact hgk388
                      have b391 : kb 0 gv389 400 := kb_tok (rS_fE hE hp0 (by decide)) hNk388 hg390
                      exact kV_ret hx hb hr hlocks hK hS dX12_readOrder_89 u386 hP hD ⟨hI, hE, ⟨ik388, (by rw [egv389.symm]; exact hg390), (Nat.le_trans (Nat.le_succ_of_le (Nat.le_trans (Nat.le_succ_of_le (Nat.le_trans (Nat.le_refl i) hlek354)) hlek371)) hlek388), hNk388, (fun hq => by obtain ⟨q392, xk388⟩ := hik388 hq; have q393 := (eE378 21 (by decide)).symm.trans q392; obtain ⟨q394, xk371⟩ := hik371 q393; have q395 := (eE361 21 (by decide)).symm.trans q394; obtain ⟨q396, xk354⟩ := hik354 q395; have q397 := (eE241 21 (by decide)).symm.trans q396; have nnk242 := hnk242 q397; have q398 := (eE133 21 (by decide)).symm.trans q397; have nnk134 := hnk134 q398; have q399 := (eE5 21 (by decide)).symm.trans q398; have nnk6 := hnk6 q399; exact ⟨q399, gi_13c xk354.1 xk354.2 (gi_14y htk362 xk371.1 xk371.2 (gi_12y htk379 xk388))⟩)⟩⟩
                  · refine k_top (z := 0) hvk379 ?_
                    obtain ⟨gv400, egv400⟩ : ∃ z : Int32, z = u377 19 := ⟨_, rfl⟩
                    have hg401 : gv400.toInt = ((ik371 : Nat) : Int) := by rw [egv400]; exact hpk379
                    have b402 : kb 0 gv400 400 := kb_tok (rS_fE hE hp0 (by decide)) hNk371 hg401
                    refine lv_if_eq (tgt := 89) hx hb dX12_readOrder_81 (by decide) (fun c403 => ?_) (fun c403 => ?_)
                    · exact kV_ret hx hb hr hlocks hK hS dX12_readOrder_89 u377 hP hD ⟨hI, hE, ⟨ik371, (by rw [egv400.symm]; exact hg401), (Nat.le_trans (Nat.le_succ_of_le (Nat.le_trans (Nat.le_refl i) hlek354)) hlek371), hNk371, (fun hq => by have q404 := (eE378 21 (by decide)).symm.trans hq; have nnk379 := hnk379 q404; obtain ⟨q405, xk371⟩ := hik371 q404; have q406 := (eE361 21 (by decide)).symm.trans q405; obtain ⟨q407, xk354⟩ := hik354 q406; have q408 := (eE241 21 (by decide)).symm.trans q407; have nnk242 := hnk242 q408; have q409 := (eE133 21 (by decide)).symm.trans q408; have nnk134 := hnk134 q409; have q410 := (eE5 21 (by decide)).symm.trans q409; have nnk6 := hnk6 q410; exact ⟨q410, gi_13c xk354.1 xk354.2 (gi_14y htk362 xk371.1 xk371.2 (gi_12n nnk379))⟩)⟩⟩
                    · exact kb_nsame c403 kc_0 kc_0
              · refine k_top (z := 0) hvk362 ?_
                obtain ⟨gv411, egv411⟩ : ∃ z : Int32, z = u360 19 := ⟨_, rfl⟩
                have hg412 : gv411.toInt = ((ik354 : Nat) : Int) := by rw [egv411]; exact hpk362
                have b413 : kb 0 gv411 400 := kb_tok (rS_fE hE hp0 (by decide)) hNk354 hg412
                refine lv_if_eq (tgt := 76) hx hb dX12_readOrder_66 (by decide) (fun c414 => ?_) (fun c414 => ?_)
                · refine lv_aload_n hx hb dX12_readOrder_76 rfl (lv_at hl 0 rfl) ?_
                  refine lv_iconst (v := 5) hx hb dX12_readOrder_77 (by decide) ?_
                  refine kI.callV (As := [.int 5]) (rest := []) ⟨hx, hb, hml, hown, hg⟩ (m_takes0 l o r u360 a g hI 5 (kb_w kc_5 (by decide) (by decide)) N (ik354) ob (rS_fE hE hp0 (by decide)) (by rw [egv411.symm]; exact hg412) hNk354) (cwV 1 hg (kgV wt6_200 wt6_202 wp4_6 wt1_14 wt6_203) rfl rfl rfl (by decide +kernel) ⟨by decide, by decide⟩) hK hP hD hS hA mIs [] rfl (wr := []) rfl rfl rfl (fun i h => by cases h) 0 12 rfl rfl rfl hl.1 rfl (Nat.le_of_ble_eq_true rfl) dX12_readOrder_78 ⟨Nat.le_refl _, Nat.le_refl _⟩ (fun v416 u417 H locs hw415 hP hD hS => ?_)
                  have hP : va_P D vwCl (mW K o r u417 a g) H := hP
                  have hD : va_D A (mW K o r u417 a g) := hD
                  have hI : mI u417 a := hw415.2.1
                  have eE418 : fE [19] u360 u417 := hw415.2.2.1
                  have hE : fE [19, 20, 21] f u417 := fE_tr hE (fE_w (by decide) eE418)
                  rcases hw415.2.2.2 with ⟨hvk419, hbk419, htk419, hpk419, hlk419⟩ | ⟨hvk419, hnk419, hpk419⟩
                  · refine k_top (z := 1) hvk419 ?_
                    obtain ⟨gv420, egv420⟩ : ∃ z : Int32, z = u417 19 := ⟨_, rfl⟩
                    have hg421 : gv420.toInt = ((ik354 + 1 : Nat) : Int) := by rw [egv420]; exact hpk419
                    have b422 : kb 0 gv420 400 := kb_tok (rS_fE hE hp0 (by decide)) hlk419 hg421
                    refine lv_if_eq (tgt := 89) hx hb dX12_readOrder_81 (by decide) (fun c423 => ?_) (fun c423 => ?_)
                    · exact kb_dj c423 kc_1 kc_0 (by decide)
                    · refine lv_aload_n hx hb dX12_readOrder_84 rfl (lv_at hl 0 rfl) ?_
                      refine lv_iconst (v := 0) hx hb dX12_readOrder_85 (by decide) ?_
                      refine kV.callV (As := [.int 0]) (rest := []) ⟨hx, hb, hml, hown, hg⟩ ((m_allRTest 8) l o r u417 a g hI 0 (kb_w kc_0 (by decide) (by decide)) N (ik354 + 1) ob (rS_fE hE hp0 (by decide)) (by rw [egv420.symm]; exact hg421) hlk419 (by decide +kernel)) (cwV 1 hg (kgV wt6_239 wt7_1 wp4_15 wt1_14 wt7_2) rfl rfl rfl (by decide +kernel) ⟨by decide, by decide⟩) hK hP hD hS hA mIs [] rfl (wr := []) rfl rfl rfl (fun i h => by cases h) 0 12 rfl rfl rfl hl.1 rfl (Nat.le_of_ble_eq_true rfl) dX12_readOrder_86 ⟨Nat.le_refl _, Nat.le_refl _⟩ (fun u426 H locs hw424 hP hD hS => ?_)
                      have hP : va_P D vwCl (mW K o r u426 a g) H := hP
                      have hD : va_D A (mW K o r u426 a g) := hD
                      have hI : mI u426 a := hw424.1
                      have eE427 : fE [19, 20, 21] u417 u426 := hw424.2.1
                      have hE : fE [19, 20, 21] f u426 := fE_tr hE eE427
                      obtain ⟨ik428, hgk428, hlek428, hNk428, hik428⟩ := hw424.2.2
                      obtain ⟨gv429, egv429⟩ : ∃ z : Int32, z = u426 19 := ⟨_, rfl⟩
                      have hg430 : gv429.toInt = ((ik428 : Nat) : Int) := by rw [egv429]; exact hgk428
                      have b431 : kb 0 gv429 400 := kb_tok (rS_fE hE hp0 (by decide)) hNk428 hg430
                      exact kV_ret hx hb hr hlocks hK hS dX12_readOrder_89 u426 hP hD ⟨hI, hE, ⟨ik428, (by rw [egv429.symm]; exact hg430), (Nat.le_trans (Nat.le_succ_of_le (Nat.le_trans (Nat.le_refl i) hlek354)) hlek428), hNk428, (fun hq => by obtain ⟨q432, xk428⟩ := hik428 hq; have q433 := (eE418 21 (by decide)).symm.trans q432; have q434 := (eE361 21 (by decide)).symm.trans q433; have nnk362 := hnk362 q434; obtain ⟨q435, xk354⟩ := hik354 q434; have q436 := (eE241 21 (by decide)).symm.trans q435; have nnk242 := hnk242 q436; have q437 := (eE133 21 (by decide)).symm.trans q436; have nnk134 := hnk134 q437; have q438 := (eE5 21 (by decide)).symm.trans q437; have nnk6 := hnk6 q438; exact ⟨q438, gi_13c xk354.1 xk354.2 (gi_14n nnk362 (gi_12y htk419 xk428))⟩)⟩⟩
                  · refine k_top (z := 0) hvk419 ?_
                    obtain ⟨gv439, egv439⟩ : ∃ z : Int32, z = u417 19 := ⟨_, rfl⟩
                    have hg440 : gv439.toInt = ((ik354 : Nat) : Int) := by rw [egv439]; exact hpk419
                    have b441 : kb 0 gv439 400 := kb_tok (rS_fE hE hp0 (by decide)) hNk354 hg440
                    refine lv_if_eq (tgt := 89) hx hb dX12_readOrder_81 (by decide) (fun c442 => ?_) (fun c442 => ?_)
                    · exact kV_ret hx hb hr hlocks hK hS dX12_readOrder_89 u417 hP hD ⟨hI, hE, ⟨ik354, (by rw [egv439.symm]; exact hg440), (Nat.le_trans (Nat.le_refl i) hlek354), hNk354, (fun hq => by have q443 := (eE418 21 (by decide)).symm.trans hq; have nnk419 := hnk419 q443; have q444 := (eE361 21 (by decide)).symm.trans q443; have nnk362 := hnk362 q444; obtain ⟨q445, xk354⟩ := hik354 q444; have q446 := (eE241 21 (by decide)).symm.trans q445; have nnk242 := hnk242 q446; have q447 := (eE133 21 (by decide)).symm.trans q446; have nnk134 := hnk134 q447; have q448 := (eE5 21 (by decide)).symm.trans q447; have nnk6 := hnk6 q448; exact ⟨q448, gi_13c xk354.1 xk354.2 (gi_14n nnk362 (gi_12n nnk419))⟩)⟩⟩
                    · exact kb_nsame c442 kc_0 kc_0
                · exact kb_nsame c414 kc_0 kc_0
            · exact kb_nsame c349 kc_0 kc_0
    · exact kb_nsame c129 kc_0 kc_0
set_option maxHeartbeats 4000000 in
set_option maxRecDepth 100000 in
theorem m_readOne  (l : Launch) {D : va_G} {K : Nat → ClassId} (o : Nat) (r : Nat → Nat) (f : Nat → Int32) (a : Nat → Nat → Int32) (g : Nat → Int64) (hI : mI f a)   (N i : Nat) (ob : Bool) (hp0 : rS f a N ob) (hp1 : (f 19).toInt = (i : Int)) (hp2 : i ≤ N) : kV l yX12_readOne (Cond.code yX12_readOne cX12_readOne 1 none :: kG) (rmD 49 0 0) D (tysK K) [.ref o] (mW K o r f a g) (fun (u : Nat → Int32) => mI u a ∧ fE [19, 20, 21] f u ∧ (∃ i2 : Nat, (u 19).toInt = (i2 : Int) ∧ i ≤ i2 ∧ i2 ≤ N ∧ (u 21 = -1 → f 21 = -1 ∧ gG ob (rC (a 15) N) 8 (if ob = true then 13 else 11) i i2))) (fun u => mW K o r u a g) 0 0 := by
  refine kV.of (cc := cX12_readOne) (maxL := 1) (ret := none) (by decide) rfl (Nat.le_of_ble_eq_true rfl) ?_
  intro p e s m below meth c A hx hb hr hml hown hts hlocks hnm hK hP hD hS hA ls hl
  have hE : fE [19, 20, 21] f f := fE_rf
  have hg : ∀ w ∈ kG, w.before _ s = true := fun w h => hts w (List.mem_cons_of_mem _ h)
  have hown : s.vm.findClass RX12 = some m.cls := hown
  have hl : lv_has ls 1 [(0, .ref o)] := hl
  obtain ⟨c19, ec19⟩ : ∃ z : Int32, z = f 19 := ⟨_, rfl⟩
  have hg0 : c19.toInt = (i : Int) := by rw [ec19]; exact hp1
  have b1 : kb 0 c19 400 := kb_tok hp0 hp2 hg0
  cases ob
  · refine lv_aload_n hx hb dX12_readOne_0 rfl (lv_at hl 0 rfl) ?_
    refine va_get (D := D) (ci := 12) (v := .int (f 10)) (C := RX12) (T := TX12) (N := 48) hx hb hg inC12 hown hK hP 0 rfl rfl 10 (by decide) (hg _ wt5_170) (fun _ h9 => h9) rfl dX12_readOne_1 ?_
    refine k_top (z := 0) hp0.2.2.2.1 ?_
    refine lv_if_eq (tgt := 14) hx hb dX12_readOne_4 (by decide) (fun c2 => ?_) (fun c2 => ?_)
    · refine lv_aload_n hx hb dX12_readOne_14 rfl (lv_at hl 0 rfl) ?_
      refine kV.callV (As := []) (rest := []) ⟨hx, hb, hml, hown, hg⟩ (m_readClause l o r f a g hI   N (i) false (rS_fE hE hp0 (by decide)) (by rw [ec19.symm]; exact hg0) hp2) (cwV 0 hg (kgV wt7_11 wt7_13 wp5_2 wt1_14 wt7_14) rfl rfl rfl (by decide +kernel) ⟨by decide, by decide⟩) hK hP hD hS hA mIs [] rfl (wr := []) rfl rfl rfl (fun i h => by cases h) 0 12 rfl rfl rfl hl.1 rfl (Nat.le_of_ble_eq_true rfl) dX12_readOne_15 ⟨Nat.le_refl _, Nat.le_refl _⟩ (fun u5 H locs hw3 hP hD hS => ?_)
      have hP : va_P D vwCl (mW K o r u5 a g) H := hP
      have hD : va_D A (mW K o r u5 a g) := hD
      have hI : mI u5 a := hw3.1
      have eE6 : fE [19, 20, 21] f u5 := hw3.2.1
      have hE : fE [19, 20, 21] f u5 := fE_tr hE eE6
      obtain ⟨ik7, hgk7, hlek7, hNk7, hik7⟩ := hw3.2.2
      obtain ⟨gv8, egv8⟩ : ∃ z : Int32, z = u5 19 := ⟨_, rfl⟩
      have hg9 : gv8.toInt = ((ik7 : Nat) : Int) := by rw [egv8]; exact hgk7
      have b10 : kb 0 gv8 400 := kb_tok (rS_fE hE hp0 (by decide)) hNk7 hg9
      exact kV_ret hx hb hr hlocks hK hS dX12_readOne_18 u5 hP hD ⟨hI, hE, ⟨ik7, (by rw [egv8.symm]; exact hg9), (Nat.le_trans (Nat.le_refl i) hlek7), hNk7, (fun hq => by obtain ⟨q11, xk7⟩ := hik7 hq; exact ⟨q11, xk7⟩)⟩⟩
    · exact kb_nsame c2 kc_0 kc_0
  · refine lv_aload_n hx hb dX12_readOne_0 rfl (lv_at hl 0 rfl) ?_
    refine va_get (D := D) (ci := 12) (v := .int (f 10)) (C := RX12) (T := TX12) (N := 48) hx hb hg inC12 hown hK hP 0 rfl rfl 10 (by decide) (hg _ wt5_170) (fun _ h9 => h9) rfl dX12_readOne_1 ?_
    refine k_top (z := 1) hp0.2.2.2.1 ?_
    refine lv_if_eq (tgt := 14) hx hb dX12_readOne_4 (by decide) (fun c12 => ?_) (fun c12 => ?_)
    · exact kb_dj c12 kc_1 kc_0 (by decide)
    · refine lv_aload_n hx hb dX12_readOne_7 rfl (lv_at hl 0 rfl) ?_
      refine kV.callV (As := []) (rest := []) ⟨hx, hb, hml, hown, hg⟩ (m_readOrder l o r f a g hI   N (i) true (rS_fE hE hp0 (by decide)) (by rw [ec19.symm]; exact hg0) hp2) (cwV 0 hg (kgV wt6_196 wt6_198 wp4_5 wt1_14 wt6_199) rfl rfl rfl (by decide +kernel) ⟨by decide, by decide⟩) hK hP hD hS hA mIs [] rfl (wr := []) rfl rfl rfl (fun i h => by cases h) 0 12 rfl rfl rfl hl.1 rfl (Nat.le_of_ble_eq_true rfl) dX12_readOne_8 ⟨Nat.le_refl _, Nat.le_refl _⟩ (fun u15 H locs hw13 hP hD hS => ?_)
      have hP : va_P D vwCl (mW K o r u15 a g) H := hP
      have hD : va_D A (mW K o r u15 a g) := hD
      have hI : mI u15 a := hw13.1
      have eE16 : fE [19, 20, 21] f u15 := hw13.2.1
      have hE : fE [19, 20, 21] f u15 := fE_tr hE eE16
      obtain ⟨ik17, hgk17, hlek17, hNk17, hik17⟩ := hw13.2.2
      obtain ⟨gv18, egv18⟩ : ∃ z : Int32, z = u15 19 := ⟨_, rfl⟩
      have hg19 : gv18.toInt = ((ik17 : Nat) : Int) := by rw [egv18]; exact hgk17
      have b20 : kb 0 gv18 400 := kb_tok (rS_fE hE hp0 (by decide)) hNk17 hg19
      refine lv_goto (tgt := 18) hx hb dX12_readOne_11 (by decide) ?_
      exact kV_ret hx hb hr hlocks hK hS dX12_readOne_18 u15 hP hD ⟨hI, hE, ⟨ik17, (by rw [egv18.symm]; exact hg19), (Nat.le_trans (Nat.le_refl i) hlek17), hNk17, (fun hq => by obtain ⟨q21, xk17⟩ := hik17 hq; exact ⟨q21, xk17⟩)⟩⟩
set_option maxHeartbeats 4000000 in
set_option maxRecDepth 100000 in
theorem m_wordOf  (l : Launch) {D : va_G} {K : Nat → ClassId} (o : Nat) (r : Nat → Nat) (f : Nat → Int32) (a : Nat → Nat → Int32) (g : Nat → Int64) (hI : mI f a) (x1 : Int32) (x2 : Int32) (bx1 : kb 0 x1 400) (bx2 : kb 0 x2 400)   : kI l yX12_wordOf (Cond.code yX12_wordOf cX12_wordOf 8 (some .int) :: kG) (rmD 1 0 0) D (tysK K) [.ref o, .int x1, .int x2] (mW K o r f a g) (fun v (_ : Unit) => kb (-2147483648) v 2147483647) (fun _ => mW K o r f a g) 0 0 := by
  refine kI.of (cc := cX12_wordOf) (maxL := 8) (ret := (some .int)) (by decide) rfl (Nat.le_of_ble_eq_true rfl) ?_
  intro p e s m below meth c A hx hb hr hml hown hts hlocks hnm hK hP hD hS hA ls hl
  have hg : ∀ w ∈ kG, w.before _ s = true := fun w h => hts w (List.mem_cons_of_mem _ h)
  have hown : s.vm.findClass RX12 = some m.cls := hown
  have hl : lv_has ls 8 [(0, .ref o), (1, .int x1), (2, .int x2)] := hl
  refine lv_iconst (v := 1) hx hb dX12_wordOf_0 (by decide) ?_
  refine lv_istore_n (lv' := [(3, .int 1), (0, .ref o), (1, .int x1), (2, .int x2)]) hx hb dX12_wordOf_1 rfl hl (by decide) rfl (fun ls hl => ?_)
  refine lv_iconst (v := 0) hx hb dX12_wordOf_2 (by decide) ?_
  refine lv_istore (lv' := [(4, .int 0), (3, .int 1), (0, .ref o), (1, .int x1), (2, .int x2)]) hx hb dX12_wordOf_3 hl (by decide) rfl (fun ls hl => ?_)
  have lp3 : ∀ (n4 : Nat) (H : Heap) (locs : List Loc) (ls : Array Slot) (y1 : Int32) (y2 : Int32), ((146 : Int) < y1.toInt + (n4 : Int)) → (kb 0 y1 146) → va_P D vwCl (mW K o r f a g) H → va_D A (mW K o r f a g) → va_S A s.heap H locs → lv_has ls 8 [(4, .int y1), (3, .int y2), (0, .ref o), (1, .int x1), (2, .int x2)] → W p l e (rmD 1 0 0) s m ([.ref o, .int x1, .int x2] : List Value).toArray below meth c H locs 0 0 (kQi D (tysK K) (fun v (_ : Unit) => kb (-2147483648) v 2147483647) (fun _ => mW K o r f a g) A below ([.ref o, .int x1, .int x2] : List Value).toArray s 0 0) (F0 m 5 ls []) := by
    intro n4
    induction n4 with
    | zero =>
      intro   H locs ls y1 y2 hmlp3 b5 hP hD hS hl
      exact (by have w1 := hmlp3; have w2 := (b5).2; omega : False).elim
    | succ n4 ihlp3 =>
      intro   H locs ls y1 y2 hmlp3 b5 hP hD hS hl
      refine lv_iload hx hb dX12_wordOf_5 (lv_at hl 0 rfl) ?_
      refine lv_aload_n hx hb dX12_wordOf_7 rfl (lv_at hl 2 rfl) ?_
      refine va_get (D := D) (ci := 12) (v := .ref (r 7)) (C := RX12) (T := TX12) (N := 48) hx hb hg inC12 hown hK hP 0 rfl rfl 7 (by decide) (hg _ wt5_167) (fun _ h9 => h9) rfl dX12_wordOf_8 ?_
      refine va_alen (v := 146) hx hb hK hP 6 1 rfl rfl rfl dX12_wordOf_11 ?_
      refine lv_icmp_ge (tgt := 126) hx hb dX12_wordOf_12 (by decide) (fun c6 => ?_) (fun c6 => ?_)
      · have h7 := (kc_le c6)
        have b8 : kb 146 y1 146 := kr_le2 h7 kc_146 b5
        refine lv_iconst (v := 0) hx hb dX12_wordOf_126 (by decide) ?_
        exact kI_ret (v := 0) hx hb hr hlocks rfl hK hS dX12_wordOf_127 () hP hD (kb_w kc_0 (by decide) (by decide))
      · have h9 := (kc_nle c6)
        have b10 : kb 0 y1 145 := kr_lt1 h9 b5 kc_146 (by decide)
        refine lv_iconst (v := 0) hx hb dX12_wordOf_15 (by decide) ?_
        refine lv_istore (lv' := [(5, .int 0), (4, .int y1), (3, .int y2), (0, .ref o), (1, .int x1), (2, .int x2)]) hx hb dX12_wordOf_16 hl (by decide) rfl (fun ls hl => ?_)
        have lp12 : ∀ (n13 : Nat) (H : Heap) (locs : List Loc) (ls : Array Slot) (y11 : Int32), (145 < y11.toInt + (n13 : Int)) → (kb 0 y11 145) → (y1.toInt + y11.toInt ≤ 145) → va_P D vwCl (mW K o r f a g) H → va_D A (mW K o r f a g) → va_S A s.heap H locs → lv_has ls 8 [(5, .int y11), (4, .int y1), (3, .int y2), (0, .ref o), (1, .int x1), (2, .int x2)] → W p l e (rmD 1 0 0) s m ([.ref o, .int x1, .int x2] : List Value).toArray below meth c H locs 0 0 (kQi D (tysK K) (fun v (_ : Unit) => kb (-2147483648) v 2147483647) (fun _ => mW K o r f a g) A below ([.ref o, .int x1, .int x2] : List Value).toArray s 0 0) (F0 m 18 ls []) := by
          intro n13
          induction n13 with
          | zero =>
            intro   H locs ls y11 hmlp12 b14 hvlp12_0 hP hD hS hl
            exact (by have h1 := b14.2; have h2 := hmlp12; omega : False).elim
          | succ n13 ihlp12 =>
            intro   H locs ls y11 hmlp12 b14 hvlp12_0 hP hD hS hl
            refine lv_aload_n hx hb dX12_wordOf_18 rfl (lv_at hl 3 rfl) ?_
            refine va_get (D := D) (ci := 12) (v := .ref (r 7)) (C := RX12) (T := TX12) (N := 48) hx hb hg inC12 hown hK hP 0 rfl rfl 7 (by decide) (hg _ wt5_167) (fun _ h9 => h9) rfl dX12_wordOf_19 ?_
            refine lv_iload hx hb dX12_wordOf_22 (lv_at hl 1 rfl) ?_
            refine lv_iload hx hb dX12_wordOf_24 (lv_at hl 0 rfl) ?_
            refine lv_iadd hx hb dX12_wordOf_26 ?_
            refine lv_topi (fun t15 et15 => ?_)
            have b16 : kb 0 t15 290 := kb_eq et15 (kb_add b10 b14 (by decide) (by decide))
            have qt15 : t15.toInt = y1.toInt + y11.toInt := by rw [et15]; exact kt_add b10 b14 (by decide) (by decide)
            have b17 : kb 0 t15 145 := ⟨(b16).1, by have w1 := hvlp12_0; omega⟩
            refine va_bald hx hb hK hP 6 1 rfl rfl (kb_in b17 (by decide) (by decide)) dX12_wordOf_27 ?_
            refine lv_topi (fun t18 et18 => ?_)
            have b19 : kb 32 t18 121 := kb_eq et18 (aI_ld hI.2.1 7 0 146 b17 (by decide) (by decide) (by decide +kernel))
            refine lv_bipush (v := 32) hx hb dX12_wordOf_28 (by decide) ?_
            refine lv_icmp_eq (tgt := 39) hx hb dX12_wordOf_30 (by decide) (fun c20 => ?_) (fun c20 => ?_)
            · have b21 : kb 32 t18 32 := kb_eq c20 kc_32
              refine lv_iload hx hb dX12_wordOf_39 (lv_at hl 0 rfl) ?_
              refine lv_iload_n hx hb dX12_wordOf_41 rfl (lv_at hl 5 rfl) ?_
              refine lv_iload_n hx hb dX12_wordOf_42 rfl (lv_at hl 4 rfl) ?_
              refine lv_isub hx hb dX12_wordOf_43 ?_
              refine lv_topi (fun t22 et22 => ?_)
              have b23 : kb (-400) t22 400 := kb_eq et22 (kb_sub bx2 bx1 (by decide) (by decide))
              have qt22 : t22.toInt = x2.toInt - x1.toInt := by rw [et22]; exact kt_sub bx2 bx1 (by decide) (by decide)
              refine lv_icmp_ne (tgt := 51) hx hb dX12_wordOf_44 (by decide) (fun c24 => ?_) (fun c24 => ?_)
              · refine lv_iconst (v := 0) hx hb dX12_wordOf_51 (by decide) ?_
                refine lv_istore (lv' := [(6, .int 0), (5, .int y11), (4, .int y1), (3, .int y2), (0, .ref o), (1, .int x1), (2, .int x2)]) hx hb dX12_wordOf_52 hl (by decide) rfl (fun ls hl => ?_)
                refine lv_iconst (v := 0) hx hb dX12_wordOf_54 (by decide) ?_
                refine lv_istore (lv' := [(7, .int 0), (6, .int 0), (5, .int y11), (4, .int y1), (3, .int y2), (0, .ref o), (1, .int x1), (2, .int x2)]) hx hb dX12_wordOf_55 hl (by decide) rfl (fun ls hl => ?_)
                have lp27 : ∀ (n28 : Nat) (H : Heap) (locs : List Loc) (ls : Array Slot) (y25 : Int32) (y26 : Int32), (145 < y25.toInt + (n28 : Int)) → (kb 0 y25 145) → (kb 0 y26 1) → (¬ y26 = 0 → y11.toInt = x2.toInt - x1.toInt) → va_P D vwCl (mW K o r f a g) H → va_D A (mW K o r f a g) → va_S A s.heap H locs → lv_has ls 8 [(7, .int y25), (6, .int y26), (5, .int y11), (4, .int y1), (3, .int y2), (0, .ref o), (1, .int x1), (2, .int x2)] → W p l e (rmD 1 0 0) s m ([.ref o, .int x1, .int x2] : List Value).toArray below meth c H locs 0 0 (kQi D (tysK K) (fun v (_ : Unit) => kb (-2147483648) v 2147483647) (fun _ => mW K o r f a g) A below ([.ref o, .int x1, .int x2] : List Value).toArray s 0 0) (F0 m 57 ls []) := by
                  intro n28
                  induction n28 with
                  | zero =>
                    intro   H locs ls y25 y26 hmlp27 b29 b30 hvlp27_0 hP hD hS hl
                    exact (by have h1 := b29.2; have h2 := hmlp27; omega : False).elim
                  | succ n28 ihlp27 =>
                    intro   H locs ls y25 y26 hmlp27 b29 b30 hvlp27_0 hP hD hS hl
                    refine lv_iload hx hb dX12_wordOf_57 (lv_at hl 0 rfl) ?_
                    refine lv_iload hx hb dX12_wordOf_59 (lv_at hl 2 rfl) ?_
                    refine lv_icmp_ge (tgt := 104) hx hb dX12_wordOf_61 (by decide) (fun c31 => ?_) (fun c31 => ?_)
                    · have h32 := (kc_le c31)
                      refine lv_iload hx hb dX12_wordOf_104 (lv_at hl 1 rfl) ?_
                      refine lv_if_eq (tgt := 111) hx hb dX12_wordOf_106 (by decide) (fun c33 => ?_) (fun c33 => ?_)
                      · have b34 : kb 0 y26 0 := kb_eq c33 kc_0
                        refine lv_iload hx hb dX12_wordOf_111 (lv_at hl 3 rfl) ?_
                        refine lv_iload hx hb dX12_wordOf_113 (lv_at hl 2 rfl) ?_
                        refine lv_iconst (v := 1) hx hb dX12_wordOf_115 (by decide) ?_
                        refine lv_iadd hx hb dX12_wordOf_116 ?_
                        refine lv_topi (fun t35 et35 => ?_)
                        have b36 : kb 1 t35 146 := kb_eq et35 (kb_add b14 kc_1 (by decide) (by decide))
                        have qt35 : t35.toInt = y11.toInt + 1 := by rw [et35]; exact kt_addc b14 kc_1 (by decide) (by decide)
                        refine lv_iadd hx hb dX12_wordOf_117 ?_
                        refine lv_topi (fun t37 et37 => ?_)
                        have b38 : kb 1 t37 291 := kb_eq et37 (kb_add b10 b36 (by decide) (by decide))
                        have qt37 : t37.toInt = y1.toInt + t35.toInt := by rw [et37]; exact kt_add b10 b36 (by decide) (by decide)
                        have b39 : kb 1 t37 146 := ⟨by have w1 := (b38).1; omega, by have w1 := hvlp12_0; omega⟩
                        refine lv_istore (lv' := [(4, .int t37), (7, .int y25), (6, .int y26), (5, .int y11), (3, .int y2), (0, .ref o), (1, .int x1), (2, .int x2)]) hx hb dX12_wordOf_118 hl (by decide) rfl (fun ls hl => ?_)
                        obtain ⟨t40, et40⟩ : ∃ z : Int32, z = y2 + Int32.ofInt 1 := ⟨_, rfl⟩
                        refine lv_iinc (v := t40) (lv' := [(3, .int t40), (4, .int t37), (7, .int y25), (6, .int y26), (5, .int y11), (0, .ref o), (1, .int x1), (2, .int x2)]) hx hb dX12_wordOf_120 hl (k := 4) rfl et40.symm (by decide) rfl (fun ls hl => ?_)
                        refine lv_goto (tgt := 5) hx hb dX12_wordOf_123 (by decide) ?_
                        exact ihlp3  _ _ _ t37 t40 (by have w1 := (b14).1; omega) (kb_w b39 (by decide) (by decide)) hP hD hS (lv_sub hl [1, 0, 5, 6, 7] rfl)
                      · have b41 : kb 1 y26 1 := kr_nel c33 b30 kc_0 (by decide)
                        refine lv_iload_n hx hb dX12_wordOf_109 rfl (lv_at hl 4 rfl) ?_
                        exact kI_ret (v := y2) hx hb hr hlocks rfl hK hS dX12_wordOf_110 () hP hD (kb_any y2)
                    · have h42 := (kc_nle c31)
                      have b43 : kb 0 y25 144 := kr_lt1 h42 b29 b14 (by decide)
                      have b44 : kb 1 y11 145 := kr_lt2 h42 b29 b14 (by decide)
                      refine lv_iload hx hb dX12_wordOf_64 (lv_at hl 1 rfl) ?_
                      refine lv_if_eq (tgt := 104) hx hb dX12_wordOf_66 (by decide) (fun c45 => ?_) (fun c45 => ?_)
                      · have b46 : kb 0 y26 0 := kb_eq c45 kc_0
                        refine lv_iload hx hb dX12_wordOf_104 (lv_at hl 1 rfl) ?_
                        refine lv_if_eq (tgt := 111) hx hb dX12_wordOf_106 (by decide) (fun c47 => ?_) (fun c47 => ?_)
                        · refine lv_iload hx hb dX12_wordOf_111 (lv_at hl 3 rfl) ?_
                          refine lv_iload hx hb dX12_wordOf_113 (lv_at hl 2 rfl) ?_
                          refine lv_iconst (v := 1) hx hb dX12_wordOf_115 (by decide) ?_
                          refine lv_iadd hx hb dX12_wordOf_116 ?_
                          refine lv_topi (fun t48 et48 => ?_)
                          have b49 : kb 2 t48 146 := kb_eq et48 (kb_add b44 kc_1 (by decide) (by decide))
                          have qt48 : t48.toInt = y11.toInt + 1 := by rw [et48]; exact kt_addc b44 kc_1 (by decide) (by decide)
                          refine lv_iadd hx hb dX12_wordOf_117 ?_
                          refine lv_topi (fun t50 et50 => ?_)
                          have b51 : kb 2 t50 291 := kb_eq et50 (kb_add b10 b49 (by decide) (by decide))
                          have qt50 : t50.toInt = y1.toInt + t48.toInt := by rw [et50]; exact kt_add b10 b49 (by decide) (by decide)
                          have b52 : kb 1 t50 146 := ⟨by have w1 := (b51).1; omega, by have w1 := hvlp12_0; omega⟩
                          refine lv_istore (lv' := [(4, .int t50), (7, .int y25), (6, .int y26), (5, .int y11), (3, .int y2), (0, .ref o), (1, .int x1), (2, .int x2)]) hx hb dX12_wordOf_118 hl (by decide) rfl (fun ls hl => ?_)
                          obtain ⟨t53, et53⟩ : ∃ z : Int32, z = y2 + Int32.ofInt 1 := ⟨_, rfl⟩
                          refine lv_iinc (v := t53) (lv' := [(3, .int t53), (4, .int t50), (7, .int y25), (6, .int y26), (5, .int y11), (0, .ref o), (1, .int x1), (2, .int x2)]) hx hb dX12_wordOf_120 hl (k := 4) rfl et53.symm (by decide) rfl (fun ls hl => ?_)
                          refine lv_goto (tgt := 5) hx hb dX12_wordOf_123 (by decide) ?_
                          exact ihlp3  _ _ _ t50 t53 (by have w1 := (b44).1; omega) (kb_w b52 (by decide) (by decide)) hP hD hS (lv_sub hl [1, 0, 5, 6, 7] rfl)
                        · exact kb_nsame c47 b46 kc_0
                      · have b54 : kb 1 y26 1 := kr_nel c45 b30 kc_0 (by decide)
                        refine lv_aload_n hx hb dX12_wordOf_69 rfl (lv_at hl 5 rfl) ?_
                        refine va_get (D := D) (ci := 12) (v := .ref (r 7)) (C := RX12) (T := TX12) (N := 48) hx hb hg inC12 hown hK hP 0 rfl rfl 7 (by decide) (hg _ wt5_167) (fun _ h9 => h9) rfl dX12_wordOf_70 ?_
                        refine lv_iload hx hb dX12_wordOf_73 (lv_at hl 3 rfl) ?_
                        refine lv_iload hx hb dX12_wordOf_75 (lv_at hl 0 rfl) ?_
                        refine lv_iadd hx hb dX12_wordOf_77 ?_
                        refine lv_topi (fun t55 et55 => ?_)
                        have b56 : kb 0 t55 289 := kb_eq et55 (kb_add b10 b43 (by decide) (by decide))
                        have qt55 : t55.toInt = y1.toInt + y25.toInt := by rw [et55]; exact kt_add b10 b43 (by decide) (by decide)
                        have b57 : kb 0 t55 145 := ⟨(b56).1, by have w1 := hvlp12_0; omega⟩
                        refine va_bald hx hb hK hP 6 1 rfl rfl (kb_in b57 (by decide) (by decide)) dX12_wordOf_78 ?_
                        refine lv_topi (fun t58 et58 => ?_)
                        have b59 : kb 32 t58 121 := kb_eq et58 (aI_ld hI.2.1 7 0 146 b57 (by decide) (by decide) (by decide +kernel))
                        refine lv_aload_n hx hb dX12_wordOf_79 rfl (lv_at hl 5 rfl) ?_
                        refine va_get (D := D) (ci := 12) (v := .ref (r 11)) (C := RX12) (T := TX12) (N := 48) hx hb hg inC12 hown hK hP 0 rfl rfl 11 (by decide) (hg _ wt5_171) (fun _ h9 => h9) rfl dX12_wordOf_80 ?_
                        refine lv_iload_n hx hb dX12_wordOf_83 rfl (lv_at hl 6 rfl) ?_
                        refine lv_iload hx hb dX12_wordOf_84 (lv_at hl 0 rfl) ?_
                        refine lv_iadd hx hb dX12_wordOf_86 ?_
                        refine lv_topi (fun t60 et60 => ?_)
                        have b61 : kb 0 t60 544 := kb_eq et60 (kb_add bx1 b43 (by decide) (by decide))
                        have qt60 : t60.toInt = x1.toInt + y25.toInt := by rw [et60]; exact kt_add bx1 b43 (by decide) (by decide)
                        have b62 : kb 0 t60 399 := ⟨(b61).1, by have w1 := hvlp27_0 c45; have w2 := bx2.2; omega⟩
                        refine va_bald hx hb hK hP 7 1 rfl rfl (kb_in b62 (by decide) (by decide)) dX12_wordOf_87 ?_
                        refine lv_topi (fun t63 et63 => ?_)
                        refine lv_icmp_ne (tgt := 95) hx hb dX12_wordOf_88 (by decide) (fun c64 => ?_) (fun c64 => ?_)
                        · refine lv_iconst (v := 0) hx hb dX12_wordOf_95 (by decide) ?_
                          refine lv_istore (lv' := [(6, .int 0), (7, .int y25), (5, .int y11), (4, .int y1), (3, .int y2), (0, .ref o), (1, .int x1), (2, .int x2)]) hx hb dX12_wordOf_96 hl (by decide) rfl (fun ls hl => ?_)
                          obtain ⟨t65, et65⟩ : ∃ z : Int32, z = y25 + Int32.ofInt 1 := ⟨_, rfl⟩
                          have qt65 : t65.toInt = y25.toInt + 1 := by rw [et65]; exact km_inc b43 (by decide) (by decide)
                          have b66 : kb 1 t65 145 := kb_inc (k := 1) qt65 b43
                          refine lv_iinc (v := t65) (lv' := [(7, .int t65), (6, .int 0), (5, .int y11), (4, .int y1), (3, .int y2), (0, .ref o), (1, .int x1), (2, .int x2)]) hx hb dX12_wordOf_98 hl (k := 1) rfl et65.symm (by decide) rfl (fun ls hl => ?_)
                          refine lv_goto (tgt := 57) hx hb dX12_wordOf_101 (by decide) ?_
                          exact ihlp27  _ _ _ t65 0 (km_up hmlp27 qt65) (kb_w b66 (by decide) (by decide)) (kb_w kc_0 (by decide) (by decide)) (fun q => absurd rfl q) hP hD hS (lv_sub hl [0, 1, 2, 3, 4, 5, 6, 7] rfl)
                        · have b67 : kb 32 t63 121 := kb_eq c64.symm b59
                          refine lv_iconst (v := 1) hx hb dX12_wordOf_91 (by decide) ?_
                          refine lv_goto (tgt := 96) hx hb dX12_wordOf_92 (by decide) ?_
                          refine lv_istore (lv' := [(6, .int 1), (7, .int y25), (5, .int y11), (4, .int y1), (3, .int y2), (0, .ref o), (1, .int x1), (2, .int x2)]) hx hb dX12_wordOf_96 hl (by decide) rfl (fun ls hl => ?_)
                          obtain ⟨t68, et68⟩ : ∃ z : Int32, z = y25 + Int32.ofInt 1 := ⟨_, rfl⟩
                          have qt68 : t68.toInt = y25.toInt + 1 := by rw [et68]; exact km_inc b43 (by decide) (by decide)
                          have b69 : kb 1 t68 145 := kb_inc (k := 1) qt68 b43
                          refine lv_iinc (v := t68) (lv' := [(7, .int t68), (6, .int 1), (5, .int y11), (4, .int y1), (3, .int y2), (0, .ref o), (1, .int x1), (2, .int x2)]) hx hb dX12_wordOf_98 hl (k := 1) rfl et68.symm (by decide) rfl (fun ls hl => ?_)
                          refine lv_goto (tgt := 57) hx hb dX12_wordOf_101 (by decide) ?_
                          exact ihlp27  _ _ _ t68 1 (km_up hmlp27 qt68) (kb_w b69 (by decide) (by decide)) (kb_w kc_1 (by decide) (by decide)) (fun _ => hvlp27_0 c45) hP hD hS (lv_sub hl [0, 1, 2, 3, 4, 5, 6, 7] rfl)
                exact lp27 (146)  _ _ _ 0 0 (by decide +kernel) (kb_w kc_0 (by decide) (by decide)) (kb_w kc_0 (by decide) (by decide)) (fun q => absurd rfl q) hP hD hS (lv_sub hl [0, 1, 2, 3, 4, 5, 6, 7] rfl)
              · have b70 : kb 0 t22 145 := kb_eq c24.symm b14
                refine lv_iconst (v := 1) hx hb dX12_wordOf_47 (by decide) ?_
                refine lv_goto (tgt := 52) hx hb dX12_wordOf_48 (by decide) ?_
                refine lv_istore (lv' := [(6, .int 1), (5, .int y11), (4, .int y1), (3, .int y2), (0, .ref o), (1, .int x1), (2, .int x2)]) hx hb dX12_wordOf_52 hl (by decide) rfl (fun ls hl => ?_)
                refine lv_iconst (v := 0) hx hb dX12_wordOf_54 (by decide) ?_
                refine lv_istore (lv' := [(7, .int 0), (6, .int 1), (5, .int y11), (4, .int y1), (3, .int y2), (0, .ref o), (1, .int x1), (2, .int x2)]) hx hb dX12_wordOf_55 hl (by decide) rfl (fun ls hl => ?_)
                have lp73 : ∀ (n74 : Nat) (H : Heap) (locs : List Loc) (ls : Array Slot) (y71 : Int32) (y72 : Int32), (145 < y71.toInt + (n74 : Int)) → (kb 0 y71 145) → (kb 0 y72 1) → (¬ y72 = 0 → y11.toInt = x2.toInt - x1.toInt) → va_P D vwCl (mW K o r f a g) H → va_D A (mW K o r f a g) → va_S A s.heap H locs → lv_has ls 8 [(7, .int y71), (6, .int y72), (5, .int y11), (4, .int y1), (3, .int y2), (0, .ref o), (1, .int x1), (2, .int x2)] → W p l e (rmD 1 0 0) s m ([.ref o, .int x1, .int x2] : List Value).toArray below meth c H locs 0 0 (kQi D (tysK K) (fun v (_ : Unit) => kb (-2147483648) v 2147483647) (fun _ => mW K o r f a g) A below ([.ref o, .int x1, .int x2] : List Value).toArray s 0 0) (F0 m 57 ls []) := by
                  intro n74
                  induction n74 with
                  | zero =>
                    intro   H locs ls y71 y72 hmlp73 b75 b76 hvlp73_0 hP hD hS hl
                    exact (by have h1 := b75.2; have h2 := hmlp73; omega : False).elim
                  | succ n74 ihlp73 =>
                    intro   H locs ls y71 y72 hmlp73 b75 b76 hvlp73_0 hP hD hS hl
                    refine lv_iload hx hb dX12_wordOf_57 (lv_at hl 0 rfl) ?_
                    refine lv_iload hx hb dX12_wordOf_59 (lv_at hl 2 rfl) ?_
                    refine lv_icmp_ge (tgt := 104) hx hb dX12_wordOf_61 (by decide) (fun c77 => ?_) (fun c77 => ?_)
                    · have h78 := (kc_le c77)
                      refine lv_iload hx hb dX12_wordOf_104 (lv_at hl 1 rfl) ?_
                      refine lv_if_eq (tgt := 111) hx hb dX12_wordOf_106 (by decide) (fun c79 => ?_) (fun c79 => ?_)
                      · have b80 : kb 0 y72 0 := kb_eq c79 kc_0
                        refine lv_iload hx hb dX12_wordOf_111 (lv_at hl 3 rfl) ?_
                        refine lv_iload hx hb dX12_wordOf_113 (lv_at hl 2 rfl) ?_
                        refine lv_iconst (v := 1) hx hb dX12_wordOf_115 (by decide) ?_
                        refine lv_iadd hx hb dX12_wordOf_116 ?_
                        refine lv_topi (fun t81 et81 => ?_)
                        have b82 : kb 1 t81 146 := kb_eq et81 (kb_add b14 kc_1 (by decide) (by decide))
                        have qt81 : t81.toInt = y11.toInt + 1 := by rw [et81]; exact kt_addc b14 kc_1 (by decide) (by decide)
                        refine lv_iadd hx hb dX12_wordOf_117 ?_
                        refine lv_topi (fun t83 et83 => ?_)
                        have b84 : kb 1 t83 291 := kb_eq et83 (kb_add b10 b82 (by decide) (by decide))
                        have qt83 : t83.toInt = y1.toInt + t81.toInt := by rw [et83]; exact kt_add b10 b82 (by decide) (by decide)
                        have b85 : kb 1 t83 146 := ⟨by have w1 := (b84).1; omega, by have w1 := hvlp12_0; omega⟩
                        refine lv_istore (lv' := [(4, .int t83), (7, .int y71), (6, .int y72), (5, .int y11), (3, .int y2), (0, .ref o), (1, .int x1), (2, .int x2)]) hx hb dX12_wordOf_118 hl (by decide) rfl (fun ls hl => ?_)
                        obtain ⟨t86, et86⟩ : ∃ z : Int32, z = y2 + Int32.ofInt 1 := ⟨_, rfl⟩
                        refine lv_iinc (v := t86) (lv' := [(3, .int t86), (4, .int t83), (7, .int y71), (6, .int y72), (5, .int y11), (0, .ref o), (1, .int x1), (2, .int x2)]) hx hb dX12_wordOf_120 hl (k := 4) rfl et86.symm (by decide) rfl (fun ls hl => ?_)
                        refine lv_goto (tgt := 5) hx hb dX12_wordOf_123 (by decide) ?_
                        exact ihlp3  _ _ _ t83 t86 (by have w1 := (b14).1; omega) (kb_w b85 (by decide) (by decide)) hP hD hS (lv_sub hl [1, 0, 5, 6, 7] rfl)
                      · have b87 : kb 1 y72 1 := kr_nel c79 b76 kc_0 (by decide)
                        refine lv_iload_n hx hb dX12_wordOf_109 rfl (lv_at hl 4 rfl) ?_
                        exact kI_ret (v := y2) hx hb hr hlocks rfl hK hS dX12_wordOf_110 () hP hD (kb_any y2)
                    · have h88 := (kc_nle c77)
                      have b89 : kb 0 y71 144 := kr_lt1 h88 b75 b14 (by decide)
                      have b90 : kb 1 y11 145 := kr_lt2 h88 b75 b14 (by decide)
                      refine lv_iload hx hb dX12_wordOf_64 (lv_at hl 1 rfl) ?_
                      refine lv_if_eq (tgt := 104) hx hb dX12_wordOf_66 (by decide) (fun c91 => ?_) (fun c91 => ?_)
                      · have b92 : kb 0 y72 0 := kb_eq c91 kc_0
                        refine lv_iload hx hb dX12_wordOf_104 (lv_at hl 1 rfl) ?_
                        refine lv_if_eq (tgt := 111) hx hb dX12_wordOf_106 (by decide) (fun c93 => ?_) (fun c93 => ?_)
                        · refine lv_iload hx hb dX12_wordOf_111 (lv_at hl 3 rfl) ?_
                          refine lv_iload hx hb dX12_wordOf_113 (lv_at hl 2 rfl) ?_
                          refine lv_iconst (v := 1) hx hb dX12_wordOf_115 (by decide) ?_
                          refine lv_iadd hx hb dX12_wordOf_116 ?_
                          refine lv_topi (fun t94 et94 => ?_)
                          have b95 : kb 2 t94 146 := kb_eq et94 (kb_add b90 kc_1 (by decide) (by decide))
                          have qt94 : t94.toInt = y11.toInt + 1 := by rw [et94]; exact kt_addc b90 kc_1 (by decide) (by decide)
                          refine lv_iadd hx hb dX12_wordOf_117 ?_
                          refine lv_topi (fun t96 et96 => ?_)
                          have b97 : kb 2 t96 291 := kb_eq et96 (kb_add b10 b95 (by decide) (by decide))
                          have qt96 : t96.toInt = y1.toInt + t94.toInt := by rw [et96]; exact kt_add b10 b95 (by decide) (by decide)
                          have b98 : kb 1 t96 146 := ⟨by have w1 := (b97).1; omega, by have w1 := hvlp12_0; omega⟩
                          refine lv_istore (lv' := [(4, .int t96), (7, .int y71), (6, .int y72), (5, .int y11), (3, .int y2), (0, .ref o), (1, .int x1), (2, .int x2)]) hx hb dX12_wordOf_118 hl (by decide) rfl (fun ls hl => ?_)
                          obtain ⟨t99, et99⟩ : ∃ z : Int32, z = y2 + Int32.ofInt 1 := ⟨_, rfl⟩
                          refine lv_iinc (v := t99) (lv' := [(3, .int t99), (4, .int t96), (7, .int y71), (6, .int y72), (5, .int y11), (0, .ref o), (1, .int x1), (2, .int x2)]) hx hb dX12_wordOf_120 hl (k := 4) rfl et99.symm (by decide) rfl (fun ls hl => ?_)
                          refine lv_goto (tgt := 5) hx hb dX12_wordOf_123 (by decide) ?_
                          exact ihlp3  _ _ _ t96 t99 (by have w1 := (b90).1; omega) (kb_w b98 (by decide) (by decide)) hP hD hS (lv_sub hl [1, 0, 5, 6, 7] rfl)
                        · exact kb_nsame c93 b92 kc_0
                      · have b100 : kb 1 y72 1 := kr_nel c91 b76 kc_0 (by decide)
                        refine lv_aload_n hx hb dX12_wordOf_69 rfl (lv_at hl 5 rfl) ?_
                        refine va_get (D := D) (ci := 12) (v := .ref (r 7)) (C := RX12) (T := TX12) (N := 48) hx hb hg inC12 hown hK hP 0 rfl rfl 7 (by decide) (hg _ wt5_167) (fun _ h9 => h9) rfl dX12_wordOf_70 ?_
                        refine lv_iload hx hb dX12_wordOf_73 (lv_at hl 3 rfl) ?_
                        refine lv_iload hx hb dX12_wordOf_75 (lv_at hl 0 rfl) ?_
                        refine lv_iadd hx hb dX12_wordOf_77 ?_
                        refine lv_topi (fun t101 et101 => ?_)
                        have b102 : kb 0 t101 289 := kb_eq et101 (kb_add b10 b89 (by decide) (by decide))
                        have qt101 : t101.toInt = y1.toInt + y71.toInt := by rw [et101]; exact kt_add b10 b89 (by decide) (by decide)
                        have b103 : kb 0 t101 145 := ⟨(b102).1, by have w1 := hvlp12_0; omega⟩
                        refine va_bald hx hb hK hP 6 1 rfl rfl (kb_in b103 (by decide) (by decide)) dX12_wordOf_78 ?_
                        refine lv_topi (fun t104 et104 => ?_)
                        have b105 : kb 32 t104 121 := kb_eq et104 (aI_ld hI.2.1 7 0 146 b103 (by decide) (by decide) (by decide +kernel))
                        refine lv_aload_n hx hb dX12_wordOf_79 rfl (lv_at hl 5 rfl) ?_
                        refine va_get (D := D) (ci := 12) (v := .ref (r 11)) (C := RX12) (T := TX12) (N := 48) hx hb hg inC12 hown hK hP 0 rfl rfl 11 (by decide) (hg _ wt5_171) (fun _ h9 => h9) rfl dX12_wordOf_80 ?_
                        refine lv_iload_n hx hb dX12_wordOf_83 rfl (lv_at hl 6 rfl) ?_
                        refine lv_iload hx hb dX12_wordOf_84 (lv_at hl 0 rfl) ?_
                        refine lv_iadd hx hb dX12_wordOf_86 ?_
                        refine lv_topi (fun t106 et106 => ?_)
                        have b107 : kb 0 t106 544 := kb_eq et106 (kb_add bx1 b89 (by decide) (by decide))
                        have qt106 : t106.toInt = x1.toInt + y71.toInt := by rw [et106]; exact kt_add bx1 b89 (by decide) (by decide)
                        have b108 : kb 0 t106 399 := ⟨(b107).1, by have w1 := hvlp73_0 c91; have w2 := bx2.2; omega⟩
                        refine va_bald hx hb hK hP 7 1 rfl rfl (kb_in b108 (by decide) (by decide)) dX12_wordOf_87 ?_
                        refine lv_topi (fun t109 et109 => ?_)
                        refine lv_icmp_ne (tgt := 95) hx hb dX12_wordOf_88 (by decide) (fun c110 => ?_) (fun c110 => ?_)
                        · refine lv_iconst (v := 0) hx hb dX12_wordOf_95 (by decide) ?_
                          refine lv_istore (lv' := [(6, .int 0), (7, .int y71), (5, .int y11), (4, .int y1), (3, .int y2), (0, .ref o), (1, .int x1), (2, .int x2)]) hx hb dX12_wordOf_96 hl (by decide) rfl (fun ls hl => ?_)
                          obtain ⟨t111, et111⟩ : ∃ z : Int32, z = y71 + Int32.ofInt 1 := ⟨_, rfl⟩
                          have qt111 : t111.toInt = y71.toInt + 1 := by rw [et111]; exact km_inc b89 (by decide) (by decide)
                          have b112 : kb 1 t111 145 := kb_inc (k := 1) qt111 b89
                          refine lv_iinc (v := t111) (lv' := [(7, .int t111), (6, .int 0), (5, .int y11), (4, .int y1), (3, .int y2), (0, .ref o), (1, .int x1), (2, .int x2)]) hx hb dX12_wordOf_98 hl (k := 1) rfl et111.symm (by decide) rfl (fun ls hl => ?_)
                          refine lv_goto (tgt := 57) hx hb dX12_wordOf_101 (by decide) ?_
                          exact ihlp73  _ _ _ t111 0 (km_up hmlp73 qt111) (kb_w b112 (by decide) (by decide)) (kb_w kc_0 (by decide) (by decide)) (fun q => absurd rfl q) hP hD hS (lv_sub hl [0, 1, 2, 3, 4, 5, 6, 7] rfl)
                        · have b113 : kb 32 t109 121 := kb_eq c110.symm b105
                          refine lv_iconst (v := 1) hx hb dX12_wordOf_91 (by decide) ?_
                          refine lv_goto (tgt := 96) hx hb dX12_wordOf_92 (by decide) ?_
                          refine lv_istore (lv' := [(6, .int 1), (7, .int y71), (5, .int y11), (4, .int y1), (3, .int y2), (0, .ref o), (1, .int x1), (2, .int x2)]) hx hb dX12_wordOf_96 hl (by decide) rfl (fun ls hl => ?_)
                          obtain ⟨t114, et114⟩ : ∃ z : Int32, z = y71 + Int32.ofInt 1 := ⟨_, rfl⟩
                          have qt114 : t114.toInt = y71.toInt + 1 := by rw [et114]; exact km_inc b89 (by decide) (by decide)
                          have b115 : kb 1 t114 145 := kb_inc (k := 1) qt114 b89
                          refine lv_iinc (v := t114) (lv' := [(7, .int t114), (6, .int 1), (5, .int y11), (4, .int y1), (3, .int y2), (0, .ref o), (1, .int x1), (2, .int x2)]) hx hb dX12_wordOf_98 hl (k := 1) rfl et114.symm (by decide) rfl (fun ls hl => ?_)
                          refine lv_goto (tgt := 57) hx hb dX12_wordOf_101 (by decide) ?_
                          exact ihlp73  _ _ _ t114 1 (km_up hmlp73 qt114) (kb_w b115 (by decide) (by decide)) (kb_w kc_1 (by decide) (by decide)) (fun _ => hvlp73_0 c91) hP hD hS (lv_sub hl [0, 1, 2, 3, 4, 5, 6, 7] rfl)
                exact lp73 (146)  _ _ _ 0 1 (by decide +kernel) (kb_w kc_0 (by decide) (by decide)) (kb_w kc_1 (by decide) (by decide)) (fun _ => by have w1 := congrArg Int32.toInt c24; omega) hP hD hS (lv_sub hl [0, 1, 2, 3, 4, 5, 6, 7] rfl)
            · have b116 : kb 33 t18 121 := kr_nel c20 b19 kc_32 (by decide)
              have hw144 := w144 hI.2.1 (b17).2 (et18.symm).symm c20
              have b117 : kb 0 y11 144 := ⟨(b14).1, by have w1 := (b10).1; omega⟩
              obtain ⟨t118, et118⟩ : ∃ z : Int32, z = y11 + Int32.ofInt 1 := ⟨_, rfl⟩
              have qt118 : t118.toInt = y11.toInt + 1 := by rw [et118]; exact km_inc b117 (by decide) (by decide)
              have b119 : kb 1 t118 145 := kb_inc (k := 1) qt118 b117
              refine lv_iinc (v := t118) (lv' := [(5, .int t118), (4, .int y1), (3, .int y2), (0, .ref o), (1, .int x1), (2, .int x2)]) hx hb dX12_wordOf_33 hl (k := 0) rfl et118.symm (by decide) rfl (fun ls hl => ?_)
              refine lv_goto (tgt := 18) hx hb dX12_wordOf_36 (by decide) ?_
              exact ihlp12  _ _ _ t118 (km_up hmlp12 qt118) (kb_w b119 (by decide) (by decide)) (by omega) hP hD hS (lv_sub hl [0, 1, 2, 3, 4, 5] rfl)
        exact lp12 (146)  _ _ _ 0 (by decide +kernel) (kb_w kc_0 (by decide) (by decide)) (by have w1 := (b10).2; have w2 := (b10).1; have e0 : (0 : Int32).toInt = 0 := (by decide +kernel); omega) hP hD hS (lv_sub hl [0, 1, 2, 3, 4, 5] rfl)
  exact lp3 (147)  _ _ _ 0 1 (by decide +kernel) (kb_w kc_0 (by decide) (by decide)) hP hD hS (lv_sub hl [0, 1, 2, 3, 4] rfl)
