theorem lw_wl : ((flatC (Jvm.Cond.and given_1 narrow_1)).drop 67).take 146 = (List.range 146).map (fun j => Cond.eq (.elem (.field (Jvm.Term.string "SunriseRoof$Reader" 93) "java/lang/String" "value" "[B") (.int (Int32.ofNat j))) (.int (wBs.getD j 0))) := by decide +kernel
theorem lw_wm {j : Nat} (hj : j < 146) : Cond.eq (.elem (.field (Jvm.Term.string "SunriseRoof$Reader" 93) "java/lang/String" "value" "[B") (.int (Int32.ofNat j))) (.int (wBs.getD j 0)) ∈ flatC (Jvm.Cond.and given_1 narrow_1) := by
  have h1 : Cond.eq (.elem (.field (Jvm.Term.string "SunriseRoof$Reader" 93) "java/lang/String" "value" "[B") (.int (Int32.ofNat j))) (.int (wBs.getD j 0)) ∈ (List.range 146).map (fun j => Cond.eq (.elem (.field (Jvm.Term.string "SunriseRoof$Reader" 93) "java/lang/String" "value" "[B") (.int (Int32.ofNat j))) (.int (wBs.getD j 0))) := List.mem_map.mpr ⟨j, List.mem_range.mpr hj, rfl⟩
  rw [← lw_wl] at h1
  exact List.mem_of_mem_drop (List.mem_of_mem_take h1)
set_option maxHeartbeats 4000000 in
set_option maxRecDepth 100000 in
theorem lw_env2 {p : Program} {s : State} {m : MethodId} {meth : Method} {c : Code} {b L : Nat} {xs : Nat → Int32} (C0 : lw_At p s m meth c b L xs) : kM (fun q : Nat => s.heap.size ≤ q) s s.heap ∧ kWs (fun q : Nat => s.heap.size ≤ q) s s.heap := by
  obtain ⟨hx, hb, hr, hml, hown, hts, hX, hbl, hlocks, hgv⟩ := C0
  have hs := flat_of_before _ hgv
  have hA : ∀ a : Nat, a < s.heap.size → ¬ (fun q : Nat => s.heap.size ≤ q) a := fun a h q => absurd h (Nat.not_lt.mpr q)
  constructor
  · obtain ⟨t1, -, hz1, hT1⟩ := row_of (n := "MOST_TOLD") 20 20 10 1 (hts _ (lm3 76 rfl)) (hts (.initialized RX11) (kG_in _ wt1_1)) (hs _ (by decide +kernel)) (hs _ (by decide +kernel)) (hs _ (by decide +kernel)) (hs _ (by decide +kernel)) (hs _ (by decide +kernel)) (hs _ (by decide +kernel)) hA
    obtain ⟨cl1, p11, p12, p13, p14, p15, p16, p17⟩ := hT1
    refine ⟨t1, hz1, ⟨cl1, p11, p12, p13, p14, p15, fun j hj => ?_, p17⟩, va_Nw.of rfl (hts _ (lm3 81 rfl))⟩
    rw [p16 j hj]
    match j, hj with
    | 0, _ => rfl
    | 1, _ => rfl
    | 2, _ => rfl
    | 3, _ => rfl
    | j + 4, hj => exact absurd hj (by omega)
  · obtain ⟨adK, adV, hS1, hev⟩ := vk_Sof (args := #[Value.ref b]) (s := s) (N := 1) (tm := fun _ => (Jvm.Term.string "SunriseRoof$Reader" 93)) (len := [146]) (byt := [wBs]) (A := (fun q : Nat => s.heap.size ≤ q)) (fun i hi => by obtain rfl : i = 0 := (by omega); decide) (fun i hi => hs _ (by decide +kernel)) (fun i hi => hs _ (by decide +kernel)) (fun i hi => hs _ (by decide +kernel)) (fun i hi => by obtain rfl : i = 0 := (by omega); exact hs _ (by decide +kernel)) (fun i hi j hj => by obtain rfl : i = 0 := (by omega); exact hs _ (lw_wm hj)) (fun i j hi hj hn => absurd (by omega : i = j) hn) hA
    obtain ⟨hO, hC, hVl, hB⟩ := hS1.1 0 (by decide)
    obtain ⟨vz, hvz, hrz⟩ := Cond.isRef_spec (hs (Cond.isRef (.static "jdk/internal/util/Preconditions" "SIOOBE_FORMATTER" "Ljava/util/function/BiFunction;")) (by decide +kernel))
    have hvz2 : ∃ z : Option Nat, vz = va_rf z := by
      cases vz with
      | ref k => exact ⟨some k, rfl⟩
      | null => exact ⟨none, rfl⟩
      | _ => exact absurd hrz (by simp [Value.isRef])
    obtain ⟨z, rfl⟩ := hvz2
    refine ⟨adK 0, adV 0, z, vk_R.of (hts _ (lm3 171 rfl)) (hev 0 (by decide)), hO, hC, hVl, hB, va_Zof (hts _ (lm3 181 rfl)) (hts _ (lm1 15 rfl)) (va_eqt (hs _ (by decide +kernel))) hA, va_Zof (hts _ (lm3 197 rfl)) (hts _ (lm1 17 rfl)) hvz hA⟩
