/-! a law that is told: the text's copy -/
theorem txC_i {t : tX} {D : tE} {n sz N : Nat} {A : Nat → Nat → Int32} {T : Nat → Int32} (hx : txE false T N D) (hn : D.1 = n) (hc : ∀ c, c < n → clC false D c sz (A 52) (A 53) (A 54) (A 55)) (e0 : (t.2.1 0).toInt = (n : Int)) (es : t.2.2.2 = sz) (e1 : ∀ j, j < 12 → t.2.2.1 1 j = A 52 j) (e2 : ∀ j, j < 12 → t.2.2.1 2 j = A 53 j) (e3 : ∀ j, j < 37 → t.2.2.1 3 j = A 54 j) (e4 : ∀ j, j < t.2.2.2 → t.2.2.1 4 j = A 55 j) : txC t D := by
  have h12 := hx.2.1
  refine ⟨by omega, h12, fun c hc1 => ?_⟩
  rw [es]
  exact clC_cg (hc c (by omega)) (Nat.le_refl _) (e1 c (by omega)) (e2 c (by omega)) (fun k k1 k2 => e3 k (by omega)) (fun p hp => e4 p (by omega)) rfl rfl rfl rfl rfl
theorem lC_w {K : Nat → ClassId} {tt ty : va_W} {g2 : Nat → Option Nat} {k : Nat → Int32} {DD : Nat → tE} (h : lC K tt g2 k DD) (hw : ∀ c ∈ tt, c ∈ ty) : lC K ty g2 k DD := by
  intro i hi
  obtain ⟨t, h1, h2, h3⟩ := h i hi
  exact ⟨t, tIn_w hw h1, h2, h3⟩
theorem lC_add {K : Nat → ClassId} {tt ty : va_W} {g2 g2' : Nat → Option Nat} {k : Nat → Int32} {DD : Nat → tE} {t : tX} {D : tE} {n ix : Nat} (hk : kK k) (h : lC K tt g2 k DD) (hw : ∀ c ∈ tt, c ∈ ty) (ht : tIn K ty t) (hx : txC t D) (hn : n = (k 105).toInt.toNat) (hi : ix = n) (e : g2' = va_up g2 ix (some (t.1 0))) : lC K ty g2' (upd k 105 (k 105 + 1)) (fun i => if i = n then D else DD i) := by
  have b := kK_r hk 105 0 6 (by decide) (by decide)
  have b1 := b.1
  have a := kad1 b (by decide) (by decide)
  intro i h2
  rw [pk_us] at h2
  by_cases c : i = n
  · refine ⟨t, ht, ?_, ?_⟩
    · rw [e]; unfold va_up; rw [if_pos (c.trans hi.symm)]
    · show txC t (if i = n then D else DD i)
      rw [if_pos c]; exact hx
  · obtain ⟨t2, h3, h4, h5⟩ := h i (by omega)
    refine ⟨t2, tIn_w hw h3, ?_, ?_⟩
    · rw [e]; unfold va_up; rw [if_neg (fun q => c (q.trans hi))]; exact h4
    · show txC t2 (if i = n then D else DD i)
      rw [if_neg c]; exact h5
/-- laws are told: the count alone -/
theorem sV_105 {o q : Nat} {f f' : Nat → Int32} {a a' : Nat → Nat → Int32} {k : Nat → Int32} {v : Int32} (h : sV o q f a k) (f1 : f' (o + 17) = v) (f0 : f' o = f o) (f2 : f' (o + 6) = f (o + 6)) (f3 : f' (o + 12) = f (o + 12)) (f4 : f' (o + 18) = f (o + 18)) (hr : ∀ j, j < 13 → a' (q + j) = a (q + j)) : sV o q f' a' (upd k 105 v) := by
  have r0 : a' q = a q := hr 0 (by decide)
  refine ⟨⟨?_, ?_, ?_, ?_, ?_⟩, fun i hi => ⟨?_, ?_, ?_, ?_, ?_⟩, fun i hi => ⟨?_, ?_, ?_, fun hb => ?_⟩, ⟨?_, ?_, ?_, ?_⟩, fun i hi => ⟨?_, ?_, ?_⟩⟩
  · rw [f0, pk_un (by omega)]; exact sv_parts h
  · rw [f2, pk_un (by omega)]; exact sv_builders h
  · rw [f3, pk_un (by omega)]; exact sv_sights h
  · rw [f1, pk_us]
  · rw [f4, pk_un (by omega)]; exact sv_inForce h
  · rw [r0, pk_un (by omega)]; exact sv_work h hi
  · rw [hr 1 (by decide), pk_un (by omega)]; exact sv_needs h hi
  · rw [hr 2 (by decide), pk_un (by omega)]; exact sv_craft h hi
  · rw [hr 3 (by decide), pk_un (by omega)]; exact sv_heavy h hi
  · rw [hr 4 (by decide), pk_un (by omega)]; exact sv_left h hi
  · rw [hr 5 (by decide), pk_un (by omega)]; exact sv_crafts h hi
  · rw [hr 6 (by decide), pk_un (by omega)]; exact sv_pace h hi
  · rw [hr 7 (by decide), pk_un (by omega)]; exact sv_tired h hi
  · rw [pk_un (by omega)] at hb
    rw [hr 8 (by decide), pk_un (by omega)]; exact sv_place h hi hb
  · rw [hr 9 (by decide), pk_un (by omega)]; exact sv_hour h
  · rw [hr 9 (by decide), pk_un (by omega)]; exact sv_night h
  · rw [hr 9 (by decide), pk_un (by omega)]; exact sv_rain h
  · rw [hr 9 (by decide), pk_un (by omega)]; exact sv_mood h
  · rw [hr 10 (by decide), pk_un (by omega)]; exact sv_sTick h hi
  · rw [hr 11 (by decide), pk_un (by omega)]; exact sv_sPart h hi
  · rw [hr 12 (by decide), pk_un (by omega)]; exact sv_sStood h hi
theorem cl_hdr {T : Nat → Int32} {i j : Nat} {hd tm : Int32} {v1 v2 v3 : eV} (h : clE true T i j hd tm v1 v2 v3) : 2018 ≤ hd.toInt ∧ hd.toInt ≤ 2021 := by
  have h0 := h.1
  have h := h.2
  rw [if_pos rfl] at h
  rw [h0]
  rcases h with ⟨h1, _⟩ | ⟨h1 | h1, _⟩ | ⟨h1, _⟩ <;> (rw [h1]; exact ⟨by decide +kernel, by decide +kernel⟩)
theorem rdD_i {ob : Bool} {t : Nat → Int32} {S N : Nat} {D : tE} (h1 : plT t S N = S) (h2 : ∀ i, i < N → plT t S i < S) (h3 : txE ob (tkT t S) N D) : rdD ob t S D := fun _ _ => ⟨N, h1, h2, h3⟩
theorem dX10_copy_0 : decode cX10_copy 0 = .ok (.new 10, 3) := by decide +kernel
theorem dX10_copy_3 : decode cX10_copy 3 = .ok (.dup, 1) := by decide +kernel
theorem dX10_copy_4 : decode cX10_copy 4 = .ok (.aload_n 0, 1) := by decide +kernel
theorem dX10_copy_5 : decode cX10_copy 5 = .ok (.getfield 25, 3) := by decide +kernel
theorem dX10_copy_8 : decode cX10_copy 8 = .ok (.invokespecial 37, 3) := by decide +kernel
theorem dX10_copy_11 : decode cX10_copy 11 = .ok (.astore_n 1, 1) := by decide +kernel
theorem dX10_copy_12 : decode cX10_copy 12 = .ok (.aload_n 1, 1) := by decide +kernel
theorem dX10_copy_13 : decode cX10_copy 13 = .ok (.aload_n 0, 1) := by decide +kernel
theorem dX10_copy_14 : decode cX10_copy 14 = .ok (.getfield 9, 3) := by decide +kernel
theorem dX10_copy_17 : decode cX10_copy 17 = .ok (.putfield 9, 3) := by decide +kernel
theorem dX10_copy_20 : decode cX10_copy 20 = .ok (.aload_n 0, 1) := by decide +kernel
theorem dX10_copy_21 : decode cX10_copy 21 = .ok (.getfield 15, 3) := by decide +kernel
theorem dX10_copy_24 : decode cX10_copy 24 = .ok (.iconst 0, 1) := by decide +kernel
theorem dX10_copy_25 : decode cX10_copy 25 = .ok (.aload_n 1, 1) := by decide +kernel
theorem dX10_copy_26 : decode cX10_copy 26 = .ok (.getfield 15, 3) := by decide +kernel
theorem dX10_copy_29 : decode cX10_copy 29 = .ok (.iconst 0, 1) := by decide +kernel
theorem dX10_copy_30 : decode cX10_copy 30 = .ok (.bipush 12, 2) := by decide +kernel
theorem dX10_copy_32 : decode cX10_copy 32 = .ok (.invokestatic 40, 3) := by decide +kernel
theorem dX10_copy_35 : decode cX10_copy 35 = .ok (.aload_n 0, 1) := by decide +kernel
theorem dX10_copy_36 : decode cX10_copy 36 = .ok (.getfield 19, 3) := by decide +kernel
theorem dX10_copy_39 : decode cX10_copy 39 = .ok (.iconst 0, 1) := by decide +kernel
theorem dX10_copy_40 : decode cX10_copy 40 = .ok (.aload_n 1, 1) := by decide +kernel
theorem dX10_copy_41 : decode cX10_copy 41 = .ok (.getfield 19, 3) := by decide +kernel
theorem dX10_copy_44 : decode cX10_copy 44 = .ok (.iconst 0, 1) := by decide +kernel
theorem dX10_copy_45 : decode cX10_copy 45 = .ok (.bipush 12, 2) := by decide +kernel
theorem dX10_copy_47 : decode cX10_copy 47 = .ok (.invokestatic 40, 3) := by decide +kernel
theorem dX10_copy_50 : decode cX10_copy 50 = .ok (.aload_n 0, 1) := by decide +kernel
theorem dX10_copy_51 : decode cX10_copy 51 = .ok (.getfield 22, 3) := by decide +kernel
theorem dX10_copy_54 : decode cX10_copy 54 = .ok (.iconst 0, 1) := by decide +kernel
theorem dX10_copy_55 : decode cX10_copy 55 = .ok (.aload_n 1, 1) := by decide +kernel
theorem dX10_copy_56 : decode cX10_copy 56 = .ok (.getfield 22, 3) := by decide +kernel
theorem dX10_copy_59 : decode cX10_copy 59 = .ok (.iconst 0, 1) := by decide +kernel
theorem dX10_copy_60 : decode cX10_copy 60 = .ok (.aload_n 0, 1) := by decide +kernel
theorem dX10_copy_61 : decode cX10_copy 61 = .ok (.getfield 22, 3) := by decide +kernel
theorem dX10_copy_64 : decode cX10_copy 64 = .ok (.arraylength, 1) := by decide +kernel
theorem dX10_copy_65 : decode cX10_copy 65 = .ok (.invokestatic 40, 3) := by decide +kernel
theorem dX10_copy_68 : decode cX10_copy 68 = .ok (.aload_n 1, 1) := by decide +kernel
theorem dX10_copy_69 : decode cX10_copy 69 = .ok (.aload_n 1, 1) := by decide +kernel
theorem dX10_copy_70 : decode cX10_copy 70 = .ok (.getfield 34, 3) := by decide +kernel
theorem dX10_copy_73 : decode cX10_copy 73 = .ok (.arraylength, 1) := by decide +kernel
theorem dX10_copy_74 : decode cX10_copy 74 = .ok (.putfield 25, 3) := by decide +kernel
theorem dX10_copy_77 : decode cX10_copy 77 = .ok (.aload_n 0, 1) := by decide +kernel
theorem dX10_copy_78 : decode cX10_copy 78 = .ok (.getfield 34, 3) := by decide +kernel
theorem dX10_copy_81 : decode cX10_copy 81 = .ok (.iconst 0, 1) := by decide +kernel
theorem dX10_copy_82 : decode cX10_copy 82 = .ok (.aload_n 1, 1) := by decide +kernel
theorem dX10_copy_83 : decode cX10_copy 83 = .ok (.getfield 34, 3) := by decide +kernel
theorem dX10_copy_86 : decode cX10_copy 86 = .ok (.iconst 0, 1) := by decide +kernel
theorem dX10_copy_87 : decode cX10_copy 87 = .ok (.aload_n 1, 1) := by decide +kernel
theorem dX10_copy_88 : decode cX10_copy 88 = .ok (.getfield 25, 3) := by decide +kernel
theorem dX10_copy_91 : decode cX10_copy 91 = .ok (.invokestatic 40, 3) := by decide +kernel
theorem dX10_copy_94 : decode cX10_copy 94 = .ok (.aload_n 1, 1) := by decide +kernel
theorem dX10_copy_95 : decode cX10_copy 95 = .ok (.areturn, 1) := by decide +kernel
theorem dX11_law_0 : decode cX11_law 0 = .ok (.aload_n 0, 1) := by decide +kernel
theorem dX11_law_1 : decode cX11_law 1 = .ok (.invokevirtual 198, 3) := by decide +kernel
theorem dX11_law_4 : decode cX11_law 4 = .ok (.istore_n 1, 1) := by decide +kernel
theorem dX11_law_5 : decode cX11_law 5 = .ok (.aload_n 0, 1) := by decide +kernel
theorem dX11_law_6 : decode cX11_law 6 = .ok (.getfield 10, 3) := by decide +kernel
theorem dX11_law_9 : decode cX11_law 9 = .ok (.getfield 204, 3) := by decide +kernel
theorem dX11_law_12 : decode cX11_law 12 = .ok (.ifCond .lt 15, 3) := by decide +kernel
theorem dX11_law_15 : decode cX11_law 15 = .ok (.aload_n 0, 1) := by decide +kernel
theorem dX11_law_16 : decode cX11_law 16 = .ok (.getfield 10, 3) := by decide +kernel
theorem dX11_law_19 : decode cX11_law 19 = .ok (.getfield 204, 3) := by decide +kernel
theorem dX11_law_22 : decode cX11_law 22 = .ok (.bipush 6, 2) := by decide +kernel
theorem dX11_law_24 : decode cX11_law 24 = .ok (.if_icmp .lt 10, 3) := by decide +kernel
theorem dX11_law_27 : decode cX11_law 27 = .ok (.aload_n 0, 1) := by decide +kernel
theorem dX11_law_28 : decode cX11_law 28 = .ok (.bipush (-5), 2) := by decide +kernel
theorem dX11_law_30 : decode cX11_law 30 = .ok (.invokevirtual 114, 3) := by decide +kernel
theorem dX11_law_33 : decode cX11_law 33 = .ok (.ireturn, 1) := by decide +kernel
theorem dX11_law_34 : decode cX11_law 34 = .ok (.aload_n 0, 1) := by decide +kernel
theorem dX11_law_35 : decode cX11_law 35 = .ok (.aload_n 0, 1) := by decide +kernel
theorem dX11_law_36 : decode cX11_law 36 = .ok (.getfield 44, 3) := by decide +kernel
theorem dX11_law_39 : decode cX11_law 39 = .ok (.aload_n 0, 1) := by decide +kernel
theorem dX11_law_40 : decode cX11_law 40 = .ok (.getfield 86, 3) := by decide +kernel
theorem dX11_law_43 : decode cX11_law 43 = .ok (.iload_n 1, 1) := by decide +kernel
theorem dX11_law_44 : decode cX11_law 44 = .ok (.iconst 0, 1) := by decide +kernel
theorem dX11_law_45 : decode cX11_law 45 = .ok (.invokevirtual 207, 3) := by decide +kernel
theorem dX11_law_48 : decode cX11_law 48 = .ok (.putfield 98, 3) := by decide +kernel
theorem dX11_law_51 : decode cX11_law 51 = .ok (.aload_n 0, 1) := by decide +kernel
theorem dX11_law_52 : decode cX11_law 52 = .ok (.getfield 98, 3) := by decide +kernel
theorem dX11_law_55 : decode cX11_law 55 = .ok (.iconst (-1), 1) := by decide +kernel
theorem dX11_law_56 : decode cX11_law 56 = .ok (.if_icmp .eq 10, 3) := by decide +kernel
theorem dX11_law_59 : decode cX11_law 59 = .ok (.aload_n 0, 1) := by decide +kernel
theorem dX11_law_60 : decode cX11_law 60 = .ok (.bipush (-6), 2) := by decide +kernel
theorem dX11_law_62 : decode cX11_law 62 = .ok (.invokevirtual 114, 3) := by decide +kernel
theorem dX11_law_65 : decode cX11_law 65 = .ok (.ireturn, 1) := by decide +kernel
theorem dX11_law_66 : decode cX11_law 66 = .ok (.aload_n 0, 1) := by decide +kernel
theorem dX11_law_67 : decode cX11_law 67 = .ok (.getfield 10, 3) := by decide +kernel
theorem dX11_law_70 : decode cX11_law 70 = .ok (.getfield 204, 3) := by decide +kernel
theorem dX11_law_73 : decode cX11_law 73 = .ok (.istore_n 2, 1) := by decide +kernel
theorem dX11_law_74 : decode cX11_law 74 = .ok (.aload_n 0, 1) := by decide +kernel
theorem dX11_law_75 : decode cX11_law 75 = .ok (.getfield 10, 3) := by decide +kernel
theorem dX11_law_78 : decode cX11_law 78 = .ok (.getfield 211, 3) := by decide +kernel
theorem dX11_law_81 : decode cX11_law 81 = .ok (.iload_n 2, 1) := by decide +kernel
theorem dX11_law_82 : decode cX11_law 82 = .ok (.aload_n 0, 1) := by decide +kernel
theorem dX11_law_83 : decode cX11_law 83 = .ok (.getfield 44, 3) := by decide +kernel
theorem dX11_law_86 : decode cX11_law 86 = .ok (.getfield 215, 3) := by decide +kernel
theorem dX11_law_89 : decode cX11_law 89 = .ok (.invokevirtual 219, 3) := by decide +kernel
theorem dX11_law_92 : decode cX11_law 92 = .ok (.aastore, 1) := by decide +kernel
theorem dX11_law_93 : decode cX11_law 93 = .ok (.aload_n 0, 1) := by decide +kernel
theorem dX11_law_94 : decode cX11_law 94 = .ok (.getfield 10, 3) := by decide +kernel
theorem dX11_law_97 : decode cX11_law 97 = .ok (.iload_n 2, 1) := by decide +kernel
theorem dX11_law_98 : decode cX11_law 98 = .ok (.iconst 1, 1) := by decide +kernel
theorem dX11_law_99 : decode cX11_law 99 = .ok (.iadd, 1) := by decide +kernel
theorem dX11_law_100 : decode cX11_law 100 = .ok (.putfield 204, 3) := by decide +kernel
theorem dX11_law_103 : decode cX11_law 103 = .ok (.aload_n 0, 1) := by decide +kernel
theorem dX11_law_104 : decode cX11_law 104 = .ok (.iload_n 2, 1) := by decide +kernel
theorem dX11_law_105 : decode cX11_law 105 = .ok (.invokevirtual 225, 3) := by decide +kernel
theorem dX11_law_108 : decode cX11_law 108 = .ok (.ireturn, 1) := by decide +kernel
theorem wt3_156 : Cond.code yX4_read cX4_read 5 (some .int) ∈ kG := kt3 156 rfl rfl
theorem wt3_153 : Cond.methodLink RX11 207 yX4_read ∈ kG := kt3 153 rfl rfl
theorem wt3_154 : Cond.instanceMethod yX4_read ∈ kG := kt3 154 rfl rfl
theorem wt3_155 : Cond.selects RX4 yX4_read yX4_read ∈ kG := kt3 155 rfl rfl
theorem wt2_65 : Cond.fieldLink RX11 215 "SunriseRoof$Reader" "draft" "LSunriseRoof$Text;" ∈ kG := kt2 65 rfl rfl
theorem wt4_65 : Cond.code yX10_copy cX10_copy 2 (some (.object "SunriseRoof$Text")) ∈ kG := kt4 65 rfl rfl
theorem wt4_66 : Cond.classLink RX10 10 RX10 ∈ kG := kt4 66 rfl rfl
theorem wt4_67 : Cond.methodLink RX10 37 yX10_init ∈ kG := kt4 67 rfl rfl
theorem wt4_68 : Cond.methodLink RX10 40 arraycopyName ∈ kG := kt4 68 rfl rfl
theorem wt1_148 : Cond.fieldLink RX11 211 "SunriseRoof$Site" "laws" "[LSunriseRoof$Text;" ∈ kG := kt1 148 rfl rfl
theorem wt4_62 : Cond.methodLink RX11 219 yX10_copy ∈ kG := kt4 62 rfl rfl
theorem wt4_63 : Cond.instanceMethod yX10_copy ∈ kG := kt4 63 rfl rfl
theorem wt4_64 : Cond.selects RX10 yX10_copy yX10_copy ∈ kG := kt4 64 rfl rfl
set_option maxHeartbeats 4000000 in
set_option maxRecDepth 100000 in
theorem z_10_copy (l : Launch) {D : va_G} {K : Nat → ClassId} (r : Nat → Nat) (f : Nat → Int32) (a : Nat → Nat → Int32) (g : xG) (tx : va_W) (hI : xI f a) : kRG l yX10_copy (Cond.code yX10_copy cX10_copy 2 (some (.object "SunriseRoof$Text")) :: kG) (rmD 3 5 467) D K [.ref (r 51)] (xX K r f a g tx) (fun t : tX => t.2.2.2 ≤ 400 ∧ kb 0 (t.2.1 0) 12 ∧ (∀ j, kb 0 (t.2.2.1 4 j) 65535) ∧ t.2.1 0 = f 1632 ∧ t.2.2.2 = (f 1637).toNatClampNeg ∧ (∀ j, j < 12 → t.2.2.1 1 j = a 52 j) ∧ (∀ j, j < 12 → t.2.2.1 2 j = a 53 j) ∧ (∀ j, j < 37 → t.2.2.1 3 j = a 54 j) ∧ ∀ j, j < t.2.2.2 → t.2.2.1 4 j = a 55 j) (fun t => tW K t ++ xX K r f a g tx) (fun t => t.1 0) 5 467 := by
  refine kRG.of (cc := cX10_copy) (maxL := 2) (ret := (some (.object "SunriseRoof$Text"))) (by decide) rfl (Nat.le_of_ble_eq_true rfl) ?_
  intro p e s m below meth c A hx hb hr hml hown hts hlocks hnm hK hP hD hS hA hV ls hl
  have hg : ∀ w ∈ kG, w.before _ s = true := fun w h => hts w (List.mem_cons_of_mem _ h)
  have hown : s.vm.findClass RX10 = some m.cls := hown
  have hl : lv_has ls 2 [(0, .ref (r 51))] := hl
  have bsz : kb 0 (f 1637) 400 := fI_at hI.1 1637 (by decide) (by decide)
  have bcl : kb 0 (f 1632) 12 := fI_at hI.1 1632 (by decide) (by decide)
  obtain ⟨n, en⟩ : ∃ z : Int32, z = f 1637 := ⟨_, rfl⟩
  have bn : kb 0 n 400 := kb_eq en bsz
  obtain ⟨N, hN⟩ : ∃ N : Nat, N = n.toNatClampNeg := ⟨_, rfl⟩
  have hN4 : N ≤ 400 := by have w1 := kb_cl bn (by decide); have w2 := bn.2; omega
  refine va_new (ci := 10) (fs := [.int 0, .null, .null, .null, .null, .int 0]) (C := RX10) (T := TX10) (N := 6) hx hb hg inC10 tyX10 tyX10_ok hown (hg _ wt4_66) (hg _ wt2_32) (hg _ wt1_8) hK hP hD hS hA rfl (fun j hj => by rcases (show j = 0 ∨ j = 1 ∨ j = 2 ∨ j = 3 ∨ j = 4 ∨ j = 5 by omega) with rfl | rfl | rfl | rfl | rfl | rfl <;> rfl) (by decide) (by decide) dX10_copy_0 (fun q H hP hD hS => ?_)
  refine lv_dup hx hb dX10_copy_3 rfl ?_
  refine lv_aload_n hx hb dX10_copy_4 rfl (lv_at hl 0 rfl) ?_
  refine va_get (D := D) (ci := 10) (v := .int (f 1637)) (C := RX10) (T := TX10) (N := 6) hx hb hg inC10 hown hK hP 51 rfl rfl 5 (by decide) (hg _ wt2_50) (fun _ h9 => h9) rfl dX10_copy_5 ?_
  refine k_top (z := n) en.symm ?_
  refine kV.callI (ws := xX K r f a g tx) (As := [.int n]) (rest := [.ref q]) ⟨hx, hb, hml, hown, hg⟩ (k_X10_initN l q n bn) (cwI 1 hg (kgC wt2_35) rfl rfl rfl (hg _ wt1_8) (hg _ wt4_67) (hg _ wt2_34) rfl (by decide +kernel) ⟨by decide, by decide⟩) hK hP hD hS hA rfl hl.1 rfl (Nat.le_of_ble_eq_true rfl) dX10_copy_8 ⟨by decide, by decide⟩ (fun u H locs _ hP hD hS => ?_)
  rw [← hN] at hP hD
  have hP : va_P D vwCl ([(q, .inr (10, [.int 0, .ref (u 1), .ref (u 2), .ref (u 3), .ref (u 4), .int 0])), (u 1, .inl (K 0, 12, .inl (fun _ => 0))), (u 2, .inl (K 0, 12, .inl (fun _ => 0))), (u 3, .inl (K 0, 37, .inl (fun _ => 0))), (u 4, .inl (K 0, N, .inl (fun _ => 0)))] ++ xX K r f a g tx) H := va_P_pm List.perm_append_comm hP
  have hD : va_D A ([(q, .inr (10, [.int 0, .ref (u 1), .ref (u 2), .ref (u 3), .ref (u 4), .int 0])), (u 1, .inl (K 0, 12, .inl (fun _ => 0))), (u 2, .inl (K 0, 12, .inl (fun _ => 0))), (u 3, .inl (K 0, 37, .inl (fun _ => 0))), (u 4, .inl (K 0, N, .inl (fun _ => 0)))] ++ xX K r f a g tx) := va_D_pm List.perm_append_comm hD
  refine lv_astore_n (lv' := [(1, .ref q), (0, .ref (r 51))]) hx hb dX10_copy_11 rfl hl (by decide) rfl (fun ls hl => ?_)
  refine lv_aload_n hx hb dX10_copy_12 rfl (lv_at hl 0 rfl) ?_
  refine lv_aload_n hx hb dX10_copy_13 rfl (lv_at hl 1 rfl) ?_
  refine va_get (D := D) (ci := 10) (v := .int (f 1632)) (C := RX10) (T := TX10) (N := 6) hx hb hg inC10 hown hK hP 56 rfl rfl 0 (by decide) (hg _ wt2_40) (fun _ h9 => h9) rfl dX10_copy_14 ?_
  refine va_put (D := D) (ci := 10) (v := .int (f 1632)) (ty := .int) (C := RX10) (T := TX10) (N := 6) hx hb hg inC10 tyX10 tyX10_ok nmX10 hown hK hP hD hS 0 rfl rfl 0 (by decide) (hg _ wt2_40) (fun _ h9 => h9) rfl (by decide +kernel) rfl rfl (Nat.le_of_ble_eq_true rfl) dX10_copy_17 (fun H locs hP hD hS => ?_)
  have hP : va_P D vwCl ([(q, .inr (10, [.int (f 1632), .ref (u 1), .ref (u 2), .ref (u 3), .ref (u 4), .int 0])), (u 1, .inl (K 0, 12, .inl (fun _ => 0))), (u 2, .inl (K 0, 12, .inl (fun _ => 0))), (u 3, .inl (K 0, 37, .inl (fun _ => 0))), (u 4, .inl (K 0, N, .inl (fun _ => 0)))] ++ xX K r f a g tx) H := hP
  have hD : va_D A ([(q, .inr (10, [.int (f 1632), .ref (u 1), .ref (u 2), .ref (u 3), .ref (u 4), .int 0])), (u 1, .inl (K 0, 12, .inl (fun _ => 0))), (u 2, .inl (K 0, 12, .inl (fun _ => 0))), (u 3, .inl (K 0, 37, .inl (fun _ => 0))), (u 4, .inl (K 0, N, .inl (fun _ => 0)))] ++ xX K r f a g tx) := hD
  refine lv_aload_n hx hb dX10_copy_20 rfl (lv_at hl 1 rfl) ?_
  refine va_get (D := D) (ci := 10) (v := .ref (r 52)) (C := RX10) (T := TX10) (N := 6) hx hb hg inC10 hown hK hP 56 rfl rfl 1 (by decide) (hg _ wt2_43) (fun _ h9 => h9) rfl dX10_copy_21 ?_
  refine lv_iconst (v := 0) hx hb dX10_copy_24 (by decide) ?_
  refine lv_aload_n hx hb dX10_copy_25 rfl (lv_at hl 0 rfl) ?_
  refine va_get (D := D) (ci := 10) (v := .ref (u 1)) (C := RX10) (T := TX10) (N := 6) hx hb hg inC10 hown hK hP 0 rfl rfl 1 (by decide) (hg _ wt2_43) (fun _ h9 => h9) rfl dX10_copy_26 ?_
  refine lv_iconst (v := 0) hx hb dX10_copy_29 (by decide) ?_
  refine lv_bipush (v := 12) hx hb dX10_copy_30 (by decide) ?_
  refine va_copyi (ty := .int) hx hb (hml.trans hl.1.symm) hown (hg _ wt4_68) (hg _ wt4_70) (hg _ wt4_69) (hg _ wt1_20) hK hP hD hS 57 1 0 0 rfl rfl rfl rfl rfl (by decide) (by decide) (by decide) (by decide +kernel) (by decide +kernel) (fun i _ => rfl) (by decide) (Nat.le_of_ble_eq_true rfl) dX10_copy_32 (fun H locs hP hD hS => ?_)
  have hP : va_P D vwCl ([(q, .inr (10, [.int (f 1632), .ref (u 1), .ref (u 2), .ref (u 3), .ref (u 4), .int 0])), (u 1, .inl (K 0, 12, .inl (va_cpy (a 52) (fun _ => 0) (0 : Int32).toNatClampNeg (0 : Int32).toNatClampNeg (12 : Int32).toNatClampNeg))), (u 2, .inl (K 0, 12, .inl (fun _ => 0))), (u 3, .inl (K 0, 37, .inl (fun _ => 0))), (u 4, .inl (K 0, N, .inl (fun _ => 0)))] ++ xX K r f a g tx) H := hP
  have hD : va_D A ([(q, .inr (10, [.int (f 1632), .ref (u 1), .ref (u 2), .ref (u 3), .ref (u 4), .int 0])), (u 1, .inl (K 0, 12, .inl (va_cpy (a 52) (fun _ => 0) (0 : Int32).toNatClampNeg (0 : Int32).toNatClampNeg (12 : Int32).toNatClampNeg))), (u 2, .inl (K 0, 12, .inl (fun _ => 0))), (u 3, .inl (K 0, 37, .inl (fun _ => 0))), (u 4, .inl (K 0, N, .inl (fun _ => 0)))] ++ xX K r f a g tx) := hD
  refine k_con (P := fun z => va_P D vwCl ([(q, .inr (10, [.int (f 1632), .ref (u 1), .ref (u 2), .ref (u 3), .ref (u 4), .int 0])), (u 1, .inl (K 0, 12, .inl z)), (u 2, .inl (K 0, 12, .inl (fun _ => 0))), (u 3, .inl (K 0, 37, .inl (fun _ => 0))), (u 4, .inl (K 0, N, .inl (fun _ => 0)))] ++ xX K r f a g tx) H ∧ va_D A ([(q, .inr (10, [.int (f 1632), .ref (u 1), .ref (u 2), .ref (u 3), .ref (u 4), .int 0])), (u 1, .inl (K 0, 12, .inl z)), (u 2, .inl (K 0, 12, .inl (fun _ => 0))), (u 3, .inl (K 0, 37, .inl (fun _ => 0))), (u 4, .inl (K 0, N, .inl (fun _ => 0)))] ++ xX K r f a g tx) ∧ z = (va_cpy (a 52) (fun _ => 0) (0 : Int32).toNatClampNeg (0 : Int32).toNatClampNeg (12 : Int32).toNatClampNeg)) (va_cpy (a 52) (fun _ => 0) (0 : Int32).toNatClampNeg (0 : Int32).toNatClampNeg (12 : Int32).toNatClampNeg) ⟨hP, hD, rfl⟩ (fun k1_ hq => ?_)
  obtain ⟨hP, hD, eK1⟩ := hq
  refine lv_aload_n hx hb dX10_copy_35 rfl (lv_at hl 1 rfl) ?_
  refine va_get (D := D) (ci := 10) (v := .ref (r 53)) (C := RX10) (T := TX10) (N := 6) hx hb hg inC10 hown hK hP 56 rfl rfl 2 (by decide) (hg _ wt2_46) (fun _ h9 => h9) rfl dX10_copy_36 ?_
  refine lv_iconst (v := 0) hx hb dX10_copy_39 (by decide) ?_
  refine lv_aload_n hx hb dX10_copy_40 rfl (lv_at hl 0 rfl) ?_
  refine va_get (D := D) (ci := 10) (v := .ref (u 2)) (C := RX10) (T := TX10) (N := 6) hx hb hg inC10 hown hK hP 0 rfl rfl 2 (by decide) (hg _ wt2_46) (fun _ h9 => h9) rfl dX10_copy_41 ?_
  refine lv_iconst (v := 0) hx hb dX10_copy_44 (by decide) ?_
  refine lv_bipush (v := 12) hx hb dX10_copy_45 (by decide) ?_
  refine va_copyi (ty := .int) hx hb (hml.trans hl.1.symm) hown (hg _ wt4_68) (hg _ wt4_70) (hg _ wt4_69) (hg _ wt1_20) hK hP hD hS 58 2 0 0 rfl rfl rfl rfl rfl (by decide) (by decide) (by decide) (by decide +kernel) (by decide +kernel) (fun i _ => rfl) (by decide) (Nat.le_of_ble_eq_true rfl) dX10_copy_47 (fun H locs hP hD hS => ?_)
  have hP : va_P D vwCl ([(q, .inr (10, [.int (f 1632), .ref (u 1), .ref (u 2), .ref (u 3), .ref (u 4), .int 0])), (u 1, .inl (K 0, 12, .inl k1_)), (u 2, .inl (K 0, 12, .inl (va_cpy (a 53) (fun _ => 0) (0 : Int32).toNatClampNeg (0 : Int32).toNatClampNeg (12 : Int32).toNatClampNeg))), (u 3, .inl (K 0, 37, .inl (fun _ => 0))), (u 4, .inl (K 0, N, .inl (fun _ => 0)))] ++ xX K r f a g tx) H := hP
  have hD : va_D A ([(q, .inr (10, [.int (f 1632), .ref (u 1), .ref (u 2), .ref (u 3), .ref (u 4), .int 0])), (u 1, .inl (K 0, 12, .inl k1_)), (u 2, .inl (K 0, 12, .inl (va_cpy (a 53) (fun _ => 0) (0 : Int32).toNatClampNeg (0 : Int32).toNatClampNeg (12 : Int32).toNatClampNeg))), (u 3, .inl (K 0, 37, .inl (fun _ => 0))), (u 4, .inl (K 0, N, .inl (fun _ => 0)))] ++ xX K r f a g tx) := hD
  refine k_con (P := fun z => va_P D vwCl ([(q, .inr (10, [.int (f 1632), .ref (u 1), .ref (u 2), .ref (u 3), .ref (u 4), .int 0])), (u 1, .inl (K 0, 12, .inl k1_)), (u 2, .inl (K 0, 12, .inl z)), (u 3, .inl (K 0, 37, .inl (fun _ => 0))), (u 4, .inl (K 0, N, .inl (fun _ => 0)))] ++ xX K r f a g tx) H ∧ va_D A ([(q, .inr (10, [.int (f 1632), .ref (u 1), .ref (u 2), .ref (u 3), .ref (u 4), .int 0])), (u 1, .inl (K 0, 12, .inl k1_)), (u 2, .inl (K 0, 12, .inl z)), (u 3, .inl (K 0, 37, .inl (fun _ => 0))), (u 4, .inl (K 0, N, .inl (fun _ => 0)))] ++ xX K r f a g tx) ∧ z = (va_cpy (a 53) (fun _ => 0) (0 : Int32).toNatClampNeg (0 : Int32).toNatClampNeg (12 : Int32).toNatClampNeg)) (va_cpy (a 53) (fun _ => 0) (0 : Int32).toNatClampNeg (0 : Int32).toNatClampNeg (12 : Int32).toNatClampNeg) ⟨hP, hD, rfl⟩ (fun k2_ hq => ?_)
  obtain ⟨hP, hD, eK2⟩ := hq
  refine lv_aload_n hx hb dX10_copy_50 rfl (lv_at hl 1 rfl) ?_
  refine va_get (D := D) (ci := 10) (v := .ref (r 54)) (C := RX10) (T := TX10) (N := 6) hx hb hg inC10 hown hK hP 56 rfl rfl 3 (by decide) (hg _ wt2_48) (fun _ h9 => h9) rfl dX10_copy_51 ?_
  refine lv_iconst (v := 0) hx hb dX10_copy_54 (by decide) ?_
  refine lv_aload_n hx hb dX10_copy_55 rfl (lv_at hl 0 rfl) ?_
  refine va_get (D := D) (ci := 10) (v := .ref (u 3)) (C := RX10) (T := TX10) (N := 6) hx hb hg inC10 hown hK hP 0 rfl rfl 3 (by decide) (hg _ wt2_48) (fun _ h9 => h9) rfl dX10_copy_56 ?_
  refine lv_iconst (v := 0) hx hb dX10_copy_59 (by decide) ?_
  refine lv_aload_n hx hb dX10_copy_60 rfl (lv_at hl 1 rfl) ?_
  refine va_get (D := D) (ci := 10) (v := .ref (r 54)) (C := RX10) (T := TX10) (N := 6) hx hb hg inC10 hown hK hP 56 rfl rfl 3 (by decide) (hg _ wt2_48) (fun _ h9 => h9) rfl dX10_copy_61 ?_
  refine va_alen (v := 37) hx hb hK hP 59 0 rfl rfl rfl dX10_copy_64 ?_
  refine va_copyi (ty := .int) hx hb (hml.trans hl.1.symm) hown (hg _ wt4_68) (hg _ wt4_70) (hg _ wt4_69) (hg _ wt1_20) hK hP hD hS 59 3 0 0 rfl rfl rfl rfl rfl (by decide) (by decide) (by decide) (by decide +kernel) (by decide +kernel) (fun i _ => rfl) (by decide) (Nat.le_of_ble_eq_true rfl) dX10_copy_65 (fun H locs hP hD hS => ?_)
  have hP : va_P D vwCl ([(q, .inr (10, [.int (f 1632), .ref (u 1), .ref (u 2), .ref (u 3), .ref (u 4), .int 0])), (u 1, .inl (K 0, 12, .inl k1_)), (u 2, .inl (K 0, 12, .inl k2_)), (u 3, .inl (K 0, 37, .inl (va_cpy (a 54) (fun _ => 0) (0 : Int32).toNatClampNeg (0 : Int32).toNatClampNeg (37 : Int32).toNatClampNeg))), (u 4, .inl (K 0, N, .inl (fun _ => 0)))] ++ xX K r f a g tx) H := hP
  have hD : va_D A ([(q, .inr (10, [.int (f 1632), .ref (u 1), .ref (u 2), .ref (u 3), .ref (u 4), .int 0])), (u 1, .inl (K 0, 12, .inl k1_)), (u 2, .inl (K 0, 12, .inl k2_)), (u 3, .inl (K 0, 37, .inl (va_cpy (a 54) (fun _ => 0) (0 : Int32).toNatClampNeg (0 : Int32).toNatClampNeg (37 : Int32).toNatClampNeg))), (u 4, .inl (K 0, N, .inl (fun _ => 0)))] ++ xX K r f a g tx) := hD
  refine k_con (P := fun z => va_P D vwCl ([(q, .inr (10, [.int (f 1632), .ref (u 1), .ref (u 2), .ref (u 3), .ref (u 4), .int 0])), (u 1, .inl (K 0, 12, .inl k1_)), (u 2, .inl (K 0, 12, .inl k2_)), (u 3, .inl (K 0, 37, .inl z)), (u 4, .inl (K 0, N, .inl (fun _ => 0)))] ++ xX K r f a g tx) H ∧ va_D A ([(q, .inr (10, [.int (f 1632), .ref (u 1), .ref (u 2), .ref (u 3), .ref (u 4), .int 0])), (u 1, .inl (K 0, 12, .inl k1_)), (u 2, .inl (K 0, 12, .inl k2_)), (u 3, .inl (K 0, 37, .inl z)), (u 4, .inl (K 0, N, .inl (fun _ => 0)))] ++ xX K r f a g tx) ∧ z = (va_cpy (a 54) (fun _ => 0) (0 : Int32).toNatClampNeg (0 : Int32).toNatClampNeg (37 : Int32).toNatClampNeg)) (va_cpy (a 54) (fun _ => 0) (0 : Int32).toNatClampNeg (0 : Int32).toNatClampNeg (37 : Int32).toNatClampNeg) ⟨hP, hD, rfl⟩ (fun k3_ hq => ?_)
  obtain ⟨hP, hD, eK3⟩ := hq
  refine lv_aload_n hx hb dX10_copy_68 rfl (lv_at hl 0 rfl) ?_
  refine lv_aload_n hx hb dX10_copy_69 rfl (lv_at hl 0 rfl) ?_
  refine va_get (D := D) (ci := 10) (v := .ref (u 4)) (C := RX10) (T := TX10) (N := 6) hx hb hg inC10 hown hK hP 0 rfl rfl 4 (by decide) (hg _ wt2_49) (fun _ h9 => h9) rfl dX10_copy_70 ?_
  refine va_alen (v := nI N) hx hb hK hP 4 0 rfl rfl rfl dX10_copy_73 ?_
  refine va_put (D := D) (ci := 10) (v := .int (nI N)) (ty := .int) (C := RX10) (T := TX10) (N := 6) hx hb hg inC10 tyX10 tyX10_ok nmX10 hown hK hP hD hS 0 rfl rfl 5 (by decide) (hg _ wt2_50) (fun _ h9 => h9) rfl (by decide +kernel) rfl rfl (Nat.le_of_ble_eq_true rfl) dX10_copy_74 (fun H locs hP hD hS => ?_)
  have hP : va_P D vwCl ([(q, .inr (10, [.int (f 1632), .ref (u 1), .ref (u 2), .ref (u 3), .ref (u 4), .int (nI N)])), (u 1, .inl (K 0, 12, .inl k1_)), (u 2, .inl (K 0, 12, .inl k2_)), (u 3, .inl (K 0, 37, .inl k3_)), (u 4, .inl (K 0, N, .inl (fun _ => 0)))] ++ xX K r f a g tx) H := hP
  have hD : va_D A ([(q, .inr (10, [.int (f 1632), .ref (u 1), .ref (u 2), .ref (u 3), .ref (u 4), .int (nI N)])), (u 1, .inl (K 0, 12, .inl k1_)), (u 2, .inl (K 0, 12, .inl k2_)), (u 3, .inl (K 0, 37, .inl k3_)), (u 4, .inl (K 0, N, .inl (fun _ => 0)))] ++ xX K r f a g tx) := hD
  have bn2 : kb 0 (nI N) 400 := kb_nI hN4 (by decide)
  have ecl : (nI N).toNatClampNeg = N := nI_clamp (by omega)
  refine lv_aload_n hx hb dX10_copy_77 rfl (lv_at hl 1 rfl) ?_
  refine va_get (D := D) (ci := 10) (v := .ref (r 55)) (C := RX10) (T := TX10) (N := 6) hx hb hg inC10 hown hK hP 56 rfl rfl 4 (by decide) (hg _ wt2_49) (fun _ h9 => h9) rfl dX10_copy_78 ?_
  refine lv_iconst (v := 0) hx hb dX10_copy_81 (by decide) ?_
  refine lv_aload_n hx hb dX10_copy_82 rfl (lv_at hl 0 rfl) ?_
  refine va_get (D := D) (ci := 10) (v := .ref (u 4)) (C := RX10) (T := TX10) (N := 6) hx hb hg inC10 hown hK hP 0 rfl rfl 4 (by decide) (hg _ wt2_49) (fun _ h9 => h9) rfl dX10_copy_83 ?_
  refine lv_iconst (v := 0) hx hb dX10_copy_86 (by decide) ?_
  refine lv_aload_n hx hb dX10_copy_87 rfl (lv_at hl 0 rfl) ?_
  refine va_get (D := D) (ci := 10) (v := .int (nI N)) (C := RX10) (T := TX10) (N := 6) hx hb hg inC10 hown hK hP 0 rfl rfl 5 (by decide) (hg _ wt2_50) (fun _ h9 => h9) rfl dX10_copy_88 ?_
  refine va_copyi (ty := .int) hx hb (hml.trans hl.1.symm) hown (hg _ wt4_68) (hg _ wt4_70) (hg _ wt4_69) (hg _ wt1_20) hK hP hD hS 60 4 0 0 rfl rfl rfl rfl rfl (by decide) (by decide) (kb_nl bn2 (by decide)) (by rw [cl_0, ecl]; omega) (by rw [cl_0, ecl]; omega) (fun i _ => rfl) (by decide) (Nat.le_of_ble_eq_true rfl) dX10_copy_91 (fun H locs hP hD hS => ?_)
  have hP : va_P D vwCl ([(q, .inr (10, [.int (f 1632), .ref (u 1), .ref (u 2), .ref (u 3), .ref (u 4), .int (nI N)])), (u 1, .inl (K 0, 12, .inl k1_)), (u 2, .inl (K 0, 12, .inl k2_)), (u 3, .inl (K 0, 37, .inl k3_)), (u 4, .inl (K 0, N, .inl (va_cpy (a 55) (fun _ => 0) (0 : Int32).toNatClampNeg (0 : Int32).toNatClampNeg (nI N : Int32).toNatClampNeg)))] ++ xX K r f a g tx) H := hP
  have hD : va_D A ([(q, .inr (10, [.int (f 1632), .ref (u 1), .ref (u 2), .ref (u 3), .ref (u 4), .int (nI N)])), (u 1, .inl (K 0, 12, .inl k1_)), (u 2, .inl (K 0, 12, .inl k2_)), (u 3, .inl (K 0, 37, .inl k3_)), (u 4, .inl (K 0, N, .inl (va_cpy (a 55) (fun _ => 0) (0 : Int32).toNatClampNeg (0 : Int32).toNatClampNeg (nI N : Int32).toNatClampNeg)))] ++ xX K r f a g tx) := hD
  refine k_con (P := fun z => va_P D vwCl ([(q, .inr (10, [.int (f 1632), .ref (u 1), .ref (u 2), .ref (u 3), .ref (u 4), .int (nI N)])), (u 1, .inl (K 0, 12, .inl k1_)), (u 2, .inl (K 0, 12, .inl k2_)), (u 3, .inl (K 0, 37, .inl k3_)), (u 4, .inl (K 0, N, .inl z))] ++ xX K r f a g tx) H ∧ va_D A ([(q, .inr (10, [.int (f 1632), .ref (u 1), .ref (u 2), .ref (u 3), .ref (u 4), .int (nI N)])), (u 1, .inl (K 0, 12, .inl k1_)), (u 2, .inl (K 0, 12, .inl k2_)), (u 3, .inl (K 0, 37, .inl k3_)), (u 4, .inl (K 0, N, .inl z))] ++ xX K r f a g tx) ∧ (∀ j, kb 0 (z j) 65535) ∧ z = (va_cpy (a 55) (fun _ => 0) (0 : Int32).toNatClampNeg (0 : Int32).toNatClampNeg (nI N : Int32).toNatClampNeg)) (va_cpy (a 55) (fun _ => 0) (0 : Int32).toNatClampNeg (0 : Int32).toNatClampNeg (nI N : Int32).toNatClampNeg) ⟨hP, hD, fun j => cpy_b (xI_c hI) (fun _ => kc_0 |> fun b => kb_w b (by decide) (by decide)) j, rfl⟩ (fun k4_ hq => ?_)
  obtain ⟨hP, hD, hB4, eK4⟩ := hq
  refine lv_aload_n hx hb dX10_copy_94 rfl (lv_at hl 0 rfl) ?_
  exact kR_ret hx hb hr hlocks hK hS dX10_copy_95 ((fun k => if k = 0 then q else u k, fun k => if k = 0 then f 1632 else nI N, fun k => if k = 1 then k1_ else if k = 2 then k2_ else if k = 3 then k3_ else k4_, N) : tX) rfl hP hD ⟨hN4, bcl, hB4, rfl, by show N = _; rw [hN, en], fun j hj => cp_z (n := 12) eK1 (by decide +kernel) (by decide +kernel) (by decide +kernel) j hj, fun j hj => cp_z (n := 12) eK2 (by decide +kernel) (by decide +kernel) (by decide +kernel) j hj, fun j hj => cp_z (n := 37) eK3 (by decide +kernel) (by decide +kernel) (by decide +kernel) j hj, fun j hj => cp_z (n := N) eK4 (by decide +kernel) (by decide +kernel) ecl j hj⟩
set_option maxHeartbeats 4000000 in
set_option maxRecDepth 100000 in
theorem z_law  (l : Launch) {D : va_G} {K : Nat → ClassId} (r : Nat → Nat) (f : Nat → Int32) (a : Nat → Nat → Int32) (g : xG) (tx tt : va_W) (hT : ∀ c ∈ tt, c ∈ tx) (hI : xI f a) (hG : gOK K g.2 tt)   (k : Nat → Int32) (hVw : sV 32 2 f a k) (hkk : kK k) (DD : Nat → tE) (hL : lC K tt (g.2 15) k DD)   : kIG l yX11_law (Cond.code yX11_law cX11_law 3 (some .int) :: kG) (rmD 29 5 467) D K [.ref (r 0)] (xX K r f a g tx) (fun v (u : xS × va_W) => kb (-2147483648) v 2147483647 ∧ xI u.1.1 u.1.2.1 ∧ gOK K u.1.2.2.2 (u.2 ++ tt) ∧ xEk ([12, 13, 16, 49, 1603, 1604, 1605, 1606, 1632, 1637], [52, 53, 54, 55, 56, 57, 94], [15]) f a g u.1.1 u.1.2.1 u.1.2.2 ∧ (u.2 = [] ∨ ∃ t : tX, u.2 = tW K t) ∧ u.1.1 12 = 0 ∧ lawPx (a 93) (f 12) v (f 49) (u.1.1 49) (f 13) (u.1.1 13) ∧ (((v = -5 ∨ v = -6) ∧ u.1.1 16 = v ∧ (∀ R1, rfE (a 94) R1 → rfE (u.1.2.1 94) (rfS v.toInt R1)) ∧ sV 32 2 u.1.1 u.1.2.1 k ∧ lC K (u.2 ++ tt) (u.1.2.2.2 15) k DD) ∨ (u.1.1 16 = 0 ∧ (∀ R1, rfE (a 94) R1 → rfE (u.1.2.1 94) R1) ∧ ∃ Dt : tE, rdD false (a 93) (f 12).toInt.toNat Dt ∧ sV 32 2 u.1.1 u.1.2.1 (upd k 105 (k 105 + 1)) ∧ lC K (u.2 ++ tt) (u.1.2.2.2 15) (upd k 105 (k 105 + 1)) (fun i => if i = (k 105).toInt.toNat then Dt else DD i)))) (fun u => xX K r u.1.1 u.1.2.1 u.1.2.2 (u.2 ++ tx)) 5 467 := by
  refine kIE.of (cc := cX11_law) (maxL := 3) (ret := (some .int)) (by decide) rfl (Nat.le_of_ble_eq_true rfl) ?_
  intro p e s m below meth c A hx hb hr hml hown hts hlocks hnm hK hP hD hS hA hV ls hl
  have hE : xEk ([12, 13, 16, 49, 1603, 1604, 1605, 1606, 1632, 1637], [52, 53, 54, 55, 56, 57, 94], [15]) f a g f a g := xEk_rf
  have hg : ∀ w ∈ kG, w.before _ s = true := fun w h => hts w (List.mem_cons_of_mem _ h)
  have hown : s.vm.findClass RX11 = some m.cls := hown
  have hl : lv_has ls 3 [(0, .ref (r 0))] := hl
  obtain ⟨c12, ec12⟩ : ∃ z : Int32, z = f 12 := ⟨_, rfl⟩
  have b1 : kb 0 c12 400 := kb_eq ec12 (fI_at hI.1 12 (by decide) (by decide))
  obtain ⟨S, hSd⟩ : ∃ z : Nat, z = (f 12).toInt.toNat := ⟨_, rfl⟩
  have hcS : c12.toInt = (S : Int) := by have w1 := (b1).1; rw [hSd, ← ec12]; omega
  obtain ⟨c13, ec13⟩ : ∃ z : Int32, z = f 13 := ⟨_, rfl⟩
  obtain ⟨c49, ec49⟩ : ∃ z : Int32, z = f 49 := ⟨_, rfl⟩
  refine lv_aload_n hx hb dX11_law_0 rfl (lv_at hl 0 rfl) ?_
  refine kIG.callW (As := []) (rest := []) ⟨hx, hb, hml, hown, hg⟩ (x_11_emptyTape l r f a g tx tt hT hI hG   ) (cwV 0 hg (kgV wt3_137 wt3_139 wp1_7 wt1_1 wt3_140) rfl rfl rfl (by decide +kernel) ⟨by decide, by decide⟩) hV hK hP hD hS hA (0) 11 rfl rfl rfl hl.1 rfl (Nat.le_of_ble_eq_true rfl) dX11_law_1 ⟨by decide, by decide⟩ (fun v3 u4 H locs hw2 hP hD hS => ?_)
  obtain ⟨f5, a6, g7⟩ := u4
  have hP : va_P D vwCl (xX K r f5 a6 g7 tx) H := hP
  have hD : va_D A (xX K r f5 a6 g7 tx) := hD
  have hI : xI f5 a6 := hw2.2.1
  have hG : gOK K g7.2 tt := hw2.2.2.1
  have eE8 : xEk ([12], [], []) f a g f5 a6 g7 := hw2.2.2.2.1
  have hE : xEk ([12, 13, 16, 49, 1603, 1604, 1605, 1606, 1632, 1637], [52, 53, 54, 55, 56, 57, 94], [15]) f a g f5 a6 g7 := xEk_tr hE (xEk_w (by decide +kernel) eE8)
  refine k_top (z := c12) (hw2.2.2.2.2.2.trans ec12.symm) ?_
  have hk12 : f5 12 = 0 := hw2.2.2.2.2.1
  have hk0 := hk12
  have hk1 : ∀ i, i < 6 → g7.2 15 i = g.2 15 i := fun i hi => congrFun (eE8.2.2 15 rfl) i
  refine lv_istore_n (lv' := [(1, .int c12), (0, .ref (r 0))]) hx hb dX11_law_4 rfl hl (by decide) rfl (fun ls hl => ?_)
  refine lv_aload_n hx hb dX11_law_5 rfl (lv_at hl 1 rfl) ?_
  refine va_get (D := D) (ci := 11) (v := .ref (r 1)) (C := RX11) (T := TX11) (N := 17) hx hb hg inC11 hown hK hP 0 rfl rfl 0 (by decide) (hg _ wt2_186) (fun _ h9 => h9) rfl dX11_law_6 ?_
  refine va_get (D := D) (ci := 7) (v := .int (f5 49)) (C := RX7) (T := TX7) (N := 20) hx hb hg inC7 hown hK hP 1 rfl rfl 17 (by decide) (hg _ wt1_150) (fun _ h9 => h9) rfl dX11_law_9 ?_
  refine k_top (z := c49) ((eE8.1 49 rfl).trans ec49.symm) ?_
  refine lv_if_lt (tgt := 27) hx hb dX11_law_12 (by decide) (fun c9 => ?_) (fun c9 => ?_)
  · have h10 := (kc_lt c9)
    have b11 : kb (-2147483648) c49 (-1) := kr_lt1 h10 (kb_any c49) kc_0 (by decide)
    refine lv_aload_n hx hb dX11_law_27 rfl (lv_at hl 1 rfl) ?_
    refine lv_bipush (v := (-5)) hx hb dX11_law_28 (by decide) ?_
    refine kIG.callW (As := [.int (-5)]) (rest := []) ⟨hx, hb, hml, hown, hg⟩ (z_refuse l r f5 a6 g7 tx tt hT hI hG (-5) (kb_w kc_m5 (by decide) (by decide)) (by decide +kernel)) (cwV 1 hg (kgV wt3_7 wt3_9 wp1_0 wt1_1 wt3_10) rfl rfl rfl (by decide +kernel) ⟨by decide, by decide⟩) hV hK hP hD hS hA (0) 11 rfl rfl rfl hl.1 rfl (Nat.le_of_ble_eq_true rfl) dX11_law_30 ⟨by decide, by decide⟩ (fun v13 u14 H locs hw12 hP hD hS => ?_)
    obtain ⟨f15, a16, g17⟩ := u14
    have hP : va_P D vwCl (xX K r f15 a16 g17 tx) H := hP
    have hD : va_D A (xX K r f15 a16 g17 tx) := hD
    have hI : xI f15 a16 := hw12.2.1
    have hG : gOK K g17.2 tt := hw12.2.2.1
    have eE18 : xEk ([16], [94], []) f5 a6 g7 f15 a16 g17 := hw12.2.2.2.1
    have hE : xEk ([12, 13, 16, 49, 1603, 1604, 1605, 1606, 1632, 1637], [52, 53, 54, 55, 56, 57, 94], [15]) f a g f15 a16 g17 := xEk_tr hE (xEk_w (by decide +kernel) eE18)
    have hk0 : f15 12 = 0 := (eE18.1 12 rfl).trans hk0
    have hk1 : ∀ i, i < 6 → g17.2 15 i = g.2 15 i := (fun i hi => (congrFun (eE18.2.2 15 rfl) i).trans (hk1 i hi))
    refine k_top (z := (-5)) hw12.2.2.2.2.1 ?_
    refine W.widen (k := 5) (n := 467) (by decide) (by decide) ?_
    exact kI_ret (v := (-5)) hx hb hr hlocks rfl hK hS dX11_law_33 ((f15, a16, g17), ([] : va_W)) hP hD ⟨(kb_w kc_m5 (by decide) (by decide)), hI, hG, hE, (Or.inl rfl), hk0, (show lawPx (a 93) (f 12) (-5) (f 49) (f15 49) (f 13) (f15 13) from Or.inl ⟨(by rw [← ec49]; have w1 := (b11).1; have w2 := (b11).2; omega), rfl, (((eE18.1 49 rfl).trans ((eE8.1 49 rfl).trans ec49.symm))).trans ec49, (((eE18.1 13 rfl).trans ((eE8.1 13 rfl).trans ec13.symm))).trans ec13⟩), (Or.inl ⟨Or.inl rfl, hw12.2.2.2.2.2.1, (fun R1 hR => hw12.2.2.2.2.2.2 R1 (by rw [show a6 94 = a 94 from (eE8.2.1 94 rfl)]; exact hR)), (show sV 32 2 f15 a16 k from sV_cg hVw ((eE18.1 32 rfl).trans (eE8.1 32 rfl)) ((eE18.1 38 rfl).trans (eE8.1 38 rfl)) ((eE18.1 44 rfl).trans (eE8.1 44 rfl)) ((eE18.1 49 rfl).trans (eE8.1 49 rfl)) ((eE18.1 50 rfl).trans (eE8.1 50 rfl)) (fun j hj => hE.2.1 _ (al_c (b := 2) (J := List.range 13) (by decide +kernel) (List.mem_range.mpr hj)))), (show lC K tt (g17.2 15) k DD from lC_6 hkk hL hk1 rfl)⟩)⟩
  · have h19 := (kc_nlt c9)
    have b20 : kb 0 c49 2147483647 := kr_le2 h19 kc_0 (kb_any c49)
    refine lv_aload_n hx hb dX11_law_15 rfl (lv_at hl 1 rfl) ?_
    refine va_get (D := D) (ci := 11) (v := .ref (r 1)) (C := RX11) (T := TX11) (N := 17) hx hb hg inC11 hown hK hP 0 rfl rfl 0 (by decide) (hg _ wt2_186) (fun _ h9 => h9) rfl dX11_law_16 ?_
    refine va_get (D := D) (ci := 7) (v := .int (f5 49)) (C := RX7) (T := TX7) (N := 20) hx hb hg inC7 hown hK hP 1 rfl rfl 17 (by decide) (hg _ wt1_150) (fun _ h9 => h9) rfl dX11_law_19 ?_
    refine k_top (z := c49) ((eE8.1 49 rfl).trans ec49.symm) ?_
    refine lv_bipush (v := 6) hx hb dX11_law_22 (by decide) ?_
    refine lv_icmp_lt (tgt := 34) hx hb dX11_law_24 (by decide) (fun c21 => ?_) (fun c21 => ?_)
    · have h22 := (kc_lt c21)
      have b23 : kb 0 c49 5 := kr_lt1 h22 b20 kc_6 (by decide)
      refine lv_aload_n hx hb dX11_law_34 rfl (lv_at hl 1 rfl) ?_
      refine lv_aload_n hx hb dX11_law_35 rfl (lv_at hl 1 rfl) ?_
      refine va_get (D := D) (ci := 11) (v := .ref (r 50)) (C := RX11) (T := TX11) (N := 17) hx hb hg inC11 hown hK hP 0 rfl rfl 4 (by decide) (hg _ wt2_190) (fun _ h9 => h9) rfl dX11_law_36 ?_
      refine lv_aload_n hx hb dX11_law_39 rfl (lv_at hl 1 rfl) ?_
      refine va_get (D := D) (ci := 11) (v := .ref (r 93)) (C := RX11) (T := TX11) (N := 17) hx hb hg inC11 hown hK hP 0 rfl rfl 10 (by decide) (hg _ wt2_196) (fun _ h9 => h9) rfl dX11_law_40 ?_
      refine lv_iload_n hx hb dX11_law_43 rfl (lv_at hl 0 rfl) ?_
      refine lv_iconst (v := 0) hx hb dX11_law_44 (by decide) ?_
      refine kIG.callW (As := [.ref (r 93), .int c12, .int 0]) (rest := [.ref (r 0)]) ⟨hx, hb, hml, hown, hg⟩ (y_read l r f5 a6 g7 tx tt hT hI hG c12 0 b1 (kb_w kc_0 (by decide) (by decide)) S false hcS (if_neg (by decide)).symm) (cwV 3 hg (kgV wt3_153 wt3_154 wt3_155 wt1_7 wt3_156) rfl rfl rfl (by decide +kernel) ⟨by decide, by decide⟩) hV hK hP hD hS hA (50) 4 rfl rfl rfl hl.1 rfl (Nat.le_of_ble_eq_true rfl) dX11_law_45 ⟨by decide, by decide⟩ (fun v25 u26 H locs hw24 hP hD hS => ?_)
      obtain ⟨f27, a28, g29⟩ := u26
      have hP : va_P D vwCl (xX K r f27 a28 g29 tx) H := hP
      have hD : va_D A (xX K r f27 a28 g29 tx) := hD
      have hI : xI f27 a28 := hw24.2.1
      have hG : gOK K g29.2 tt := hw24.2.2.1
      have eE30 : xEk ([1603, 1604, 1605, 1606, 1632, 1637], [52, 53, 54, 55, 56, 57], []) f5 a6 g7 f27 a28 g29 := hw24.2.2.2.1
      have hE : xEk ([12, 13, 16, 49, 1603, 1604, 1605, 1606, 1632, 1637], [52, 53, 54, 55, 56, 57, 94], [15]) f a g f27 a28 g29 := xEk_tr hE (xEk_w (by decide +kernel) eE30)
      have hk0 : f27 12 = 0 := (eE30.1 12 rfl).trans hk0
      have hk1 : ∀ i, i < 6 → g29.2 15 i = g.2 15 i := (fun i hi => (congrFun (eE30.2.2 15 rfl) i).trans (hk1 i hi))
      have hRx : ∃ b : Bool, txR false (a 93) S b v25 ∧ (b = true → ∃ N n sz : Nat, (f27 1632).toInt = (n : Int) ∧ (f27 1637).toInt = (sz : Int) ∧ sz ≤ 400 ∧ plT (a 93) S N = S ∧ (∀ i, i < N → plT (a 93) S i < S) ∧ rdF false (tkT (a 93) S) N n sz a28) := by have w1 := hw24.2.2.2.2; rw [show a6 93 = a 93 from (eE8.2.1 93 rfl)] at w1; exact w1
      obtain ⟨bR, htx, hrd⟩ := hRx
      refine va_put (D := D) (ci := 11) (v := .int v25) (ty := .int) (C := RX11) (T := TX11) (N := 17) hx hb hg inC11 tyX11 tyX11_ok nmX11 hown hK hP hD hS 0 rfl rfl 13 (by decide) (hg _ wt2_199) (fun _ h9 => h9) rfl (by decide +kernel) rfl rfl (Nat.le_of_ble_eq_true rfl) dX11_law_48 (fun H locs hP hD hS => ?_)
      have hP : va_P D vwCl (xX K r (upd f27 13 v25) a28 g29 tx) H := hP
      have hD : va_D A (xX K r (upd f27 13 v25) a28 g29 tx) := hD
      refine k_gen (P := fun z => va_P D vwCl (xX K r z a28 g29 tx) H ∧ va_D A (xX K r z a28 g29 tx) ∧ (xI z a28) ∧ (gOK K g29.2 tt) ∧ (xEk ([12, 13, 16, 49, 1603, 1604, 1605, 1606, 1632, 1637], [52, 53, 54, 55, 56, 57, 94], [15]) f a g z a28 g29) ∧ (z 12 = 0) ∧ (∀ i, i < 6 → g29.2 15 i = g.2 15 i)) (upd f27 13 v25) ⟨hP, hD, (xI_f hI (fI_st hI.1 13 (kb_any _) (by decide) (by decide))), hG, (xEk_f hE rfl), ((pk_un (by decide)).trans hk0), hk1⟩ (fun f_31 ef_31 hq => ?_)
      obtain ⟨hP, hD, hI, hG, hE, hk0, hk1⟩ := hq
      refine lv_aload_n hx hb dX11_law_51 rfl (lv_at hl 1 rfl) ?_
      refine va_get (D := D) (ci := 11) (v := .int (f_31 13)) (C := RX11) (T := TX11) (N := 17) hx hb hg inC11 hown hK hP 0 rfl rfl 13 (by decide) (hg _ wt2_199) (fun _ h9 => h9) rfl dX11_law_52 ?_
      refine k_top (z := v25) (show f_31 13 = v25 from by rw [← ef_31]; rfl) ?_
      refine lv_iconst (v := (-1)) hx hb dX11_law_55 (by decide) ?_
      refine lv_icmp_eq (tgt := 66) hx hb dX11_law_56 (by decide) (fun c32 => ?_) (fun c32 => ?_)
      · have b33 : kb (-1) v25 (-1) := kb_eq c32 kc_m1
        refine lv_aload_n hx hb dX11_law_66 rfl (lv_at hl 1 rfl) ?_
        refine va_get (D := D) (ci := 11) (v := .ref (r 1)) (C := RX11) (T := TX11) (N := 17) hx hb hg inC11 hown hK hP 0 rfl rfl 0 (by decide) (hg _ wt2_186) (fun _ h9 => h9) rfl dX11_law_67 ?_
        refine va_get (D := D) (ci := 7) (v := .int (f_31 49)) (C := RX7) (T := TX7) (N := 20) hx hb hg inC7 hown hK hP 1 rfl rfl 17 (by decide) (hg _ wt1_150) (fun _ h9 => h9) rfl dX11_law_70 ?_
        refine k_top (z := c49) ((show f_31 49 = f27 49 from by rw [← ef_31]; rfl).trans ((eE30.1 49 rfl).trans ((eE8.1 49 rfl).trans ec49.symm))) ?_
        refine lv_istore_n (lv' := [(2, .int c49), (1, .int c12), (0, .ref (r 0))]) hx hb dX11_law_73 rfl hl (by decide) rfl (fun ls hl => ?_)
        refine lv_aload_n hx hb dX11_law_74 rfl (lv_at hl 2 rfl) ?_
        refine va_get (D := D) (ci := 11) (v := .ref (r 1)) (C := RX11) (T := TX11) (N := 17) hx hb hg inC11 hown hK hP 0 rfl rfl 0 (by decide) (hg _ wt2_186) (fun _ h9 => h9) rfl dX11_law_75 ?_
        refine va_get (D := D) (ci := 7) (v := .ref (r 15)) (C := RX7) (T := TX7) (N := 20) hx hb hg inC7 hown hK hP 1 rfl rfl 16 (by decide) (hg _ wt1_148) (fun _ h9 => h9) rfl dX11_law_78 ?_
        refine lv_iload_n hx hb dX11_law_81 rfl (lv_at hl 0 rfl) ?_
        refine lv_aload_n hx hb dX11_law_82 rfl (lv_at hl 2 rfl) ?_
        refine va_get (D := D) (ci := 11) (v := .ref (r 50)) (C := RX11) (T := TX11) (N := 17) hx hb hg inC11 hown hK hP 0 rfl rfl 4 (by decide) (hg _ wt2_190) (fun _ h9 => h9) rfl dX11_law_83 ?_
        refine va_get (D := D) (ci := 4) (v := .ref (r 51)) (C := RX4) (T := TX4) (N := 7) hx hb hg inC4 hown hK hP 50 rfl rfl 0 (by decide) (hg _ wt2_65) (fun _ h9 => h9) rfl dX11_law_86 ?_
        refine kRG.callW (As := []) (rest := [.int c49, .ref (r 15)]) ⟨hx, hb, hml, hown, hg⟩ (z_10_copy l r f_31 a28 g29 tx hI) (cwV 0 hg (kgV wt4_62 wt4_63 wt4_64 wt1_8 wt4_65) rfl rfl rfl (by decide +kernel) ⟨by decide, by decide⟩) hV hK hP hD hS hA 51 10 rfl rfl rfl hl.1 rfl (Nat.le_of_ble_eq_true rfl) dX11_law_89 ⟨by decide, by decide⟩ (fun tn H locs hw hP hD hS => ?_)
        have hP : va_P D vwCl (xX K r f_31 a28 g29 (tW K tn ++ tx)) H := va_P_pm xX_in hP
        have hD : va_D A (xX K r f_31 a28 g29 (tW K tn ++ tx)) := va_D_pm xX_in hD
        have htn : tIn K (tW K tn ++ tt) tn := ⟨hw.1, fun c hc => List.mem_append_left _ hc, hw.2.1, hw.2.2.1⟩
        have hcp := hw.2.2.2
        have hG : gOK K g29.2 (tW K tn ++ tt) := gOK_w (fun c hc => List.mem_append_right _ hc) hG
        have hT : ∀ c ∈ tW K tn ++ tt, c ∈ tW K tn ++ tx := fun c hc => (List.mem_append.mp hc).elim (fun h => List.mem_append_left _ h) (fun h => List.mem_append_right _ (hT c h))
        obtain ⟨jtn_0, hjtn_0⟩ := tIn_at (tIn_w hT htn) (k := 0) rfl
        obtain ⟨jtn_1, hjtn_1⟩ := tIn_at (tIn_w hT htn) (k := 1) rfl
        obtain ⟨jtn_2, hjtn_2⟩ := tIn_at (tIn_w hT htn) (k := 2) rfl
        obtain ⟨jtn_3, hjtn_3⟩ := tIn_at (tIn_w hT htn) (k := 3) rfl
        obtain ⟨jtn_4, hjtn_4⟩ := tIn_at (tIn_w hT htn) (k := 4) rfl
        have hntn : (nI tn.2.2.2).toInt = (tn.2.2.2 : Int) := kn_to (by have w1 := htn.1; omega)
        have hg15 := hk1
        refine va_astq hx hb hK hP hD hS 15 5 (jtn_0 + 95) 10 rfl rfl hjtn_0 rfl (kb_in b23 (by decide) (by decide)) dX11_law_92 (fun H locs hP hD hS => ?_)
        have hP : va_P D vwCl (xX K r f_31 a28 (g29.1, va_up g29.2 15 (va_up (g29.2 15) c49.toNatClampNeg (some (tn.1 0)))) (tW K tn ++ tx)) H := hP
        have hD : va_D A (xX K r f_31 a28 (g29.1, va_up g29.2 15 (va_up (g29.2 15) c49.toNatClampNeg (some (tn.1 0)))) (tW K tn ++ tx)) := hD
        refine k_gen (P := fun z => va_P D vwCl (xX K r f_31 a28 z (tW K tn ++ tx)) H ∧ va_D A (xX K r f_31 a28 z (tW K tn ++ tx)) ∧ (xI f_31 a28) ∧ (gOK K z.2 (tW K tn ++ tt)) ∧ (xEk ([12, 13, 16, 49, 1603, 1604, 1605, 1606, 1632, 1637], [52, 53, 54, 55, 56, 57, 94], [15]) f a g f_31 a28 z) ∧ (f_31 12 = 0)) ((g29.1, va_up g29.2 15 (va_up (g29.2 15) c49.toNatClampNeg (some (tn.1 0))))) ⟨hP, hD, hI, (gOK_n hG _ _ _ (Or.inr ⟨_, htn, rfl⟩)), (xEk_q hE rfl), hk0⟩ (fun g_34 eg_34 hq => ?_)
        obtain ⟨hP, hD, hI, hG, hE, hk0⟩ := hq
        refine lv_aload_n hx hb dX11_law_93 rfl (lv_at hl 2 rfl) ?_
        refine va_get (D := D) (ci := 11) (v := .ref (r 1)) (C := RX11) (T := TX11) (N := 17) hx hb hg inC11 hown hK hP 0 rfl rfl 0 (by decide) (hg _ wt2_186) (fun _ h9 => h9) rfl dX11_law_94 ?_
        refine lv_iload_n hx hb dX11_law_97 rfl (lv_at hl 0 rfl) ?_
        refine lv_iconst (v := 1) hx hb dX11_law_98 (by decide) ?_
        refine lv_iadd hx hb dX11_law_99 ?_
        refine lv_topi (fun t35 et35 => ?_)
        have b36 : kb 1 t35 6 := kb_eq et35 (kb_add b23 kc_1 (by decide) (by decide))
        have qt35 : t35.toInt = c49.toInt + 1 := by rw [et35]; exact kt_addc b23 kc_1 (by decide) (by decide)
        refine va_put (D := D) (ci := 7) (v := .int t35) (ty := .int) (C := RX7) (T := TX7) (N := 20) hx hb hg inC7 tyX7 tyX7_ok nmX7 hown hK hP hD hS 1 rfl rfl 17 (by decide) (hg _ wt1_150) (fun _ h9 => h9) rfl (by decide +kernel) rfl rfl (Nat.le_of_ble_eq_true rfl) dX11_law_100 (fun H locs hP hD hS => ?_)
        have hP : va_P D vwCl (xX K r (upd f_31 49 t35) a28 g_34 (tW K tn ++ tx)) H := hP
        have hD : va_D A (xX K r (upd f_31 49 t35) a28 g_34 (tW K tn ++ tx)) := hD
        refine k_gen (P := fun z => va_P D vwCl (xX K r z a28 g_34 (tW K tn ++ tx)) H ∧ va_D A (xX K r z a28 g_34 (tW K tn ++ tx)) ∧ (xI z a28) ∧ (gOK K g_34.2 (tW K tn ++ tt)) ∧ (xEk ([12, 13, 16, 49, 1603, 1604, 1605, 1606, 1632, 1637], [52, 53, 54, 55, 56, 57, 94], [15]) f a g z a28 g_34) ∧ (z 12 = 0)) (upd f_31 49 t35) ⟨hP, hD, (xI_f hI (fI_st hI.1 49 (kb_any _) (by decide) (by decide))), hG, (xEk_f hE rfl), ((pk_un (by decide)).trans hk0)⟩ (fun f_37 ef_37 hq => ?_)
        obtain ⟨hP, hD, hI, hG, hE, hk0⟩ := hq
        refine lv_aload_n hx hb dX11_law_103 rfl (lv_at hl 2 rfl) ?_
        refine lv_iload_n hx hb dX11_law_104 rfl (lv_at hl 0 rfl) ?_
        refine kIG.callW (As := [.int c49]) (rest := []) ⟨hx, hb, hml, hown, hg⟩ (z_agree l r f_37 a28 g_34 (tW K tn ++ tx) (tW K tn ++ tt) hT hI hG c49  ) (cwV 1 hg (kgV wt3_27 wt3_29 wp1_2 wt1_1 wt3_30) rfl rfl rfl (by decide +kernel) ⟨by decide, by decide⟩) hV hK hP hD hS hA (0) 11 rfl rfl rfl hl.1 rfl (Nat.le_of_ble_eq_true rfl) dX11_law_105 ⟨by decide, by decide⟩ (fun v39 u40 H locs hw38 hP hD hS => ?_)
        obtain ⟨f41, a42, g43⟩ := u40
        have hP : va_P D vwCl (xX K r f41 a42 g43 (tW K tn ++ tx)) H := hP
        have hD : va_D A (xX K r f41 a42 g43 (tW K tn ++ tx)) := hD
        have hI : xI f41 a42 := hw38.2.1
        have hG : gOK K g43.2 (tW K tn ++ tt) := hw38.2.2.1
        have eE44 : xEk ([16], [], []) f_37 a28 g_34 f41 a42 g43 := hw38.2.2.2.1
        have hE : xEk ([12, 13, 16, 49, 1603, 1604, 1605, 1606, 1632, 1637], [52, 53, 54, 55, 56, 57, 94], [15]) f a g f41 a42 g43 := xEk_tr hE (xEk_w (by decide +kernel) eE44)
        have hk0 : f41 12 = 0 := (eE44.1 12 rfl).trans hk0
        refine k_top (z := c49) hw38.2.2.2.2.1 ?_
        refine W.widen (k := 5) (n := 467) (by decide) (by decide) ?_
        exact kI_ret (v := c49) hx hb hr hlocks rfl hK hS dX11_law_108 ((f41, a42, g43), tW K tn) hP hD ⟨(kb_w b23 (by decide) (by decide)), hI, hG, hE, (Or.inr ⟨tn, rfl⟩), hk0, (show lawPx (a 93) (f 12) c49 (f 49) (f41 49) (f 13) (f41 13) from Or.inr ⟨(by rw [← ec49]; exact ⟨(b23).1, (b23).2⟩), bR, (by rw [((eE44.1 13 rfl).trans ((show f_37 13 = f_31 13 from by rw [← ef_37]; rfl).trans (show f_31 13 = v25 from by rw [← ef_31]; rfl))), ← hSd]; exact htx), Or.inr ⟨txR_y htx (by have w1 := (b1).2; omega) c32, ec49, (by rw [((eE44.1 49 rfl).trans (show f_37 49 = t35 from by rw [← ef_37]; rfl)), ← ec49]; have w1 := qt35; omega)⟩⟩), (Or.inr (by obtain ⟨N, nn, sz, hn1, hsz, hs4, hpl1, hpl2, Dt, hxE, hDn, hxC⟩ := hrd (txR_y htx (by have w1 := (b1).2; omega) c32); exact ⟨hw38.2.2.2.2.2, (fun R1 hR => by show rfE (a42 94) R1; rw [show a42 94 = a 94 from ((eE44.2.1 94 rfl).trans ((eE30.2.1 94 rfl).trans (eE8.2.1 94 rfl)))]; exact hR), Dt, (by rw [← hSd]; exact rdD_i hpl1 hpl2 hxE), (show sV 32 2 f41 a42 (upd k 105 (k 105 + 1)) from sV_105 hVw (((eE44.1 49 rfl).trans (show f_37 49 = t35 from by rw [← ef_37]; rfl)).trans (by rw [et35, ec49, sv_lawCount hVw])) ((eE44.1 32 rfl).trans ((show f_37 32 = f_31 32 from by rw [← ef_37]; rfl).trans ((show f_31 32 = f27 32 from by rw [← ef_31]; rfl).trans ((eE30.1 32 rfl).trans (eE8.1 32 rfl))))) ((eE44.1 38 rfl).trans ((show f_37 38 = f_31 38 from by rw [← ef_37]; rfl).trans ((show f_31 38 = f27 38 from by rw [← ef_31]; rfl).trans ((eE30.1 38 rfl).trans (eE8.1 38 rfl))))) ((eE44.1 44 rfl).trans ((show f_37 44 = f_31 44 from by rw [← ef_37]; rfl).trans ((show f_31 44 = f27 44 from by rw [← ef_31]; rfl).trans ((eE30.1 44 rfl).trans (eE8.1 44 rfl))))) ((eE44.1 50 rfl).trans ((show f_37 50 = f_31 50 from by rw [← ef_37]; rfl).trans ((show f_31 50 = f27 50 from by rw [← ef_31]; rfl).trans ((eE30.1 50 rfl).trans (eE8.1 50 rfl))))) (fun j hj => hE.2.1 _ (al_c (b := 2) (J := List.range 13) (by decide +kernel) (List.mem_range.mpr hj)))), (show lC K (tW K tn ++ tt) (g43.2 15) (upd k 105 (k 105 + 1)) _ from lC_add hkk (lC_6 hkk hL hg15 rfl) (fun c hc => List.mem_append_right _ hc) htn (txC_i (t := tn) (A := a28) hxE hDn hxC (by rw [hcp.1, show f_31 1632 = f27 1632 from (show f_31 1632 = f27 1632 from by rw [← ef_31]; rfl)]; exact hn1) (by rw [hcp.2.1, show f_31 1637 = f27 1637 from (show f_31 1637 = f27 1637 from by rw [← ef_31]; rfl)]; unfold Int32.toNatClampNeg; omega) (by rw [← show a28 52 = a28 52 from rfl]; exact hcp.2.2.1) (by rw [← show a28 53 = a28 53 from rfl]; exact hcp.2.2.2.1) (by rw [← show a28 54 = a28 54 from rfl]; exact hcp.2.2.2.2.1) (by rw [← show a28 55 = a28 55 from rfl]; exact hcp.2.2.2.2.2)) rfl (show c49.toNatClampNeg = (k 105).toInt.toNat from by rw [← sv_lawCount hVw, ← ec49]; rfl) (by rw [show g43.2 15 = g_34.2 15 from (eE44.2.2 15 rfl), ← eg_34]; rfl))⟩))⟩
      · refine lv_aload_n hx hb dX11_law_59 rfl (lv_at hl 1 rfl) ?_
        refine lv_bipush (v := (-6)) hx hb dX11_law_60 (by decide) ?_
        refine kIG.callW (As := [.int (-6)]) (rest := []) ⟨hx, hb, hml, hown, hg⟩ (z_refuse l r f_31 a28 g29 tx tt hT hI hG (-6) (kb_w kc_m6 (by decide) (by decide)) (by decide +kernel)) (cwV 1 hg (kgV wt3_7 wt3_9 wp1_0 wt1_1 wt3_10) rfl rfl rfl (by decide +kernel) ⟨by decide, by decide⟩) hV hK hP hD hS hA (0) 11 rfl rfl rfl hl.1 rfl (Nat.le_of_ble_eq_true rfl) dX11_law_62 ⟨by decide, by decide⟩ (fun v46 u47 H locs hw45 hP hD hS => ?_)
        obtain ⟨f48, a49, g50⟩ := u47
        have hP : va_P D vwCl (xX K r f48 a49 g50 tx) H := hP
        have hD : va_D A (xX K r f48 a49 g50 tx) := hD
        have hI : xI f48 a49 := hw45.2.1
        have hG : gOK K g50.2 tt := hw45.2.2.1
        have eE51 : xEk ([16], [94], []) f_31 a28 g29 f48 a49 g50 := hw45.2.2.2.1
        have hE : xEk ([12, 13, 16, 49, 1603, 1604, 1605, 1606, 1632, 1637], [52, 53, 54, 55, 56, 57, 94], [15]) f a g f48 a49 g50 := xEk_tr hE (xEk_w (by decide +kernel) eE51)
        have hk0 : f48 12 = 0 := (eE51.1 12 rfl).trans hk0
        have hk1 : ∀ i, i < 6 → g50.2 15 i = g.2 15 i := (fun i hi => (congrFun (eE51.2.2 15 rfl) i).trans (hk1 i hi))
        refine k_top (z := (-6)) hw45.2.2.2.2.1 ?_
        refine W.widen (k := 5) (n := 467) (by decide) (by decide) ?_
        exact kI_ret (v := (-6)) hx hb hr hlocks rfl hK hS dX11_law_65 ((f48, a49, g50), ([] : va_W)) hP hD ⟨(kb_w kc_m6 (by decide) (by decide)), hI, hG, hE, (Or.inl rfl), hk0, (show lawPx (a 93) (f 12) (-6) (f 49) (f48 49) (f 13) (f48 13) from Or.inr ⟨(by rw [← ec49]; exact ⟨(b23).1, (b23).2⟩), bR, (by rw [((eE51.1 13 rfl).trans (show f_31 13 = v25 from by rw [← ef_31]; rfl)), ← hSd]; exact htx), Or.inl ⟨txR_n htx c32, rfl, (((eE51.1 49 rfl).trans ((show f_31 49 = f27 49 from by rw [← ef_31]; rfl).trans ((eE30.1 49 rfl).trans ((eE8.1 49 rfl).trans ec49.symm))))).trans ec49⟩⟩), (Or.inl ⟨Or.inr rfl, hw45.2.2.2.2.2.1, (fun R1 hR => hw45.2.2.2.2.2.2 R1 (by rw [show a28 94 = a 94 from ((eE30.2.1 94 rfl).trans (eE8.2.1 94 rfl))]; exact hR)), (show sV 32 2 f48 a49 k from sV_cg hVw ((eE51.1 32 rfl).trans ((show f_31 32 = f27 32 from by rw [← ef_31]; rfl).trans ((eE30.1 32 rfl).trans (eE8.1 32 rfl)))) ((eE51.1 38 rfl).trans ((show f_31 38 = f27 38 from by rw [← ef_31]; rfl).trans ((eE30.1 38 rfl).trans (eE8.1 38 rfl)))) ((eE51.1 44 rfl).trans ((show f_31 44 = f27 44 from by rw [← ef_31]; rfl).trans ((eE30.1 44 rfl).trans (eE8.1 44 rfl)))) ((eE51.1 49 rfl).trans ((show f_31 49 = f27 49 from by rw [← ef_31]; rfl).trans ((eE30.1 49 rfl).trans (eE8.1 49 rfl)))) ((eE51.1 50 rfl).trans ((show f_31 50 = f27 50 from by rw [← ef_31]; rfl).trans ((eE30.1 50 rfl).trans (eE8.1 50 rfl)))) (fun j hj => hE.2.1 _ (al_c (b := 2) (J := List.range 13) (by decide +kernel) (List.mem_range.mpr hj)))), (show lC K tt (g50.2 15) k DD from lC_6 hkk hL hk1 rfl)⟩)⟩
    · have h52 := (kc_nlt c21)
      have b53 : kb 6 c49 2147483647 := kr_le2 h52 kc_6 b20
      refine lv_aload_n hx hb dX11_law_27 rfl (lv_at hl 1 rfl) ?_
      refine lv_bipush (v := (-5)) hx hb dX11_law_28 (by decide) ?_
      refine kIG.callW (As := [.int (-5)]) (rest := []) ⟨hx, hb, hml, hown, hg⟩ (z_refuse l r f5 a6 g7 tx tt hT hI hG (-5) (kb_w kc_m5 (by decide) (by decide)) (by decide +kernel)) (cwV 1 hg (kgV wt3_7 wt3_9 wp1_0 wt1_1 wt3_10) rfl rfl rfl (by decide +kernel) ⟨by decide, by decide⟩) hV hK hP hD hS hA (0) 11 rfl rfl rfl hl.1 rfl (Nat.le_of_ble_eq_true rfl) dX11_law_30 ⟨by decide, by decide⟩ (fun v55 u56 H locs hw54 hP hD hS => ?_)
      obtain ⟨f57, a58, g59⟩ := u56
      have hP : va_P D vwCl (xX K r f57 a58 g59 tx) H := hP
      have hD : va_D A (xX K r f57 a58 g59 tx) := hD
      have hI : xI f57 a58 := hw54.2.1
      have hG : gOK K g59.2 tt := hw54.2.2.1
      have eE60 : xEk ([16], [94], []) f5 a6 g7 f57 a58 g59 := hw54.2.2.2.1
      have hE : xEk ([12, 13, 16, 49, 1603, 1604, 1605, 1606, 1632, 1637], [52, 53, 54, 55, 56, 57, 94], [15]) f a g f57 a58 g59 := xEk_tr hE (xEk_w (by decide +kernel) eE60)
      have hk0 : f57 12 = 0 := (eE60.1 12 rfl).trans hk0
      have hk1 : ∀ i, i < 6 → g59.2 15 i = g.2 15 i := (fun i hi => (congrFun (eE60.2.2 15 rfl) i).trans (hk1 i hi))
      refine k_top (z := (-5)) hw54.2.2.2.2.1 ?_
      refine W.widen (k := 5) (n := 467) (by decide) (by decide) ?_
      exact kI_ret (v := (-5)) hx hb hr hlocks rfl hK hS dX11_law_33 ((f57, a58, g59), ([] : va_W)) hP hD ⟨(kb_w kc_m5 (by decide) (by decide)), hI, hG, hE, (Or.inl rfl), hk0, (show lawPx (a 93) (f 12) (-5) (f 49) (f57 49) (f 13) (f57 13) from Or.inl ⟨(by rw [← ec49]; have w1 := (b53).1; have w2 := (b53).2; omega), rfl, (((eE60.1 49 rfl).trans ((eE8.1 49 rfl).trans ec49.symm))).trans ec49, (((eE60.1 13 rfl).trans ((eE8.1 13 rfl).trans ec13.symm))).trans ec13⟩), (Or.inl ⟨Or.inl rfl, hw54.2.2.2.2.2.1, (fun R1 hR => hw54.2.2.2.2.2.2 R1 (by rw [show a6 94 = a 94 from (eE8.2.1 94 rfl)]; exact hR)), (show sV 32 2 f57 a58 k from sV_cg hVw ((eE60.1 32 rfl).trans (eE8.1 32 rfl)) ((eE60.1 38 rfl).trans (eE8.1 38 rfl)) ((eE60.1 44 rfl).trans (eE8.1 44 rfl)) ((eE60.1 49 rfl).trans (eE8.1 49 rfl)) ((eE60.1 50 rfl).trans (eE8.1 50 rfl)) (fun j hj => hE.2.1 _ (al_c (b := 2) (J := List.range 13) (by decide +kernel) (List.mem_range.mpr hj)))), (show lC K tt (g59.2 15) k DD from lC_6 hkk hL hk1 rfl)⟩)⟩
