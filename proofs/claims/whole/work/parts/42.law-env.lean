theorem zN_in : ∀ w ∈ zN, w ∈ lw_tbl := by decide +kernel
theorem zXw_in : ∀ w ∈ zXw, w ∈ lw_tbl := by decide +kernel
theorem zStr_in : ∀ q ∈ zStr, Cond.stringRef "SealedFiles" q.1 q.2 ∈ lw_tbl := by decide +kernel
theorem zp_in : Cond.stringRef "SealedFiles" 129 zs_pr ∈ lw_tbl := by decide +kernel
theorem zl_in : ∀ q ∈ [("java/lang/String", "COMPACT_STRINGS", "Z"), ("jdk/internal/util/Preconditions", "SIOOBE_FORMATTER", "Ljava/util/function/BiFunction;"), (Bundle.tN, "UNASSIGNED_STACK", Bundle.steD), (Bundle.tN, "SUPPRESSED_SENTINEL", Bundle.listD)], Cond.laysStatic q.1 q.2.1 q.2.2 ∈ lw_tbl := by decide +kernel
theorem zi_in : ∀ q ∈ ["java/lang/String", "jdk/internal/util/Preconditions", Bundle.tN], Cond.initialized q ∈ lw_tbl := by decide +kernel
abbrev zGn : Cond := Jvm.Cond.and given_1 narrow_1
abbrev zPv : Term := .field (.string "SealedFiles" 129) "java/lang/String" "value" "[B"
set_option maxRecDepth 100000 in
theorem zf_s : ∀ q ∈ zStr, Cond.exactly (.string "SealedFiles" q.1) "java/lang/String" ∈ flatC zGn := by decide +kernel
set_option maxRecDepth 100000 in
theorem zf_p : Cond.exactly (.string "SealedFiles" 129) "java/lang/String" ∈ flatC zGn := by decide +kernel
set_option maxRecDepth 100000 in
theorem zf_c : Cond.eq (.field (.string "SealedFiles" 129) "java/lang/String" "coder" "B") (.int 0) ∈ flatC zGn := by decide +kernel
set_option maxRecDepth 100000 in
theorem zf_a : Cond.arrayOf zPv .byte ∈ flatC zGn := by decide +kernel
set_option maxRecDepth 100000 in
theorem zf_l : Cond.eq (.length zPv) (.int (Int32.ofNat 64)) ∈ flatC zGn := by decide +kernel
set_option maxRecDepth 100000 in
theorem zf_e : ∀ j, j < 64 → Cond.eq (.elem zPv (.int (Int32.ofNat j))) (.int (nI (zs_chr j))) ∈ flatC zGn := by decide +kernel
set_option maxRecDepth 100000 in
theorem zf_k : Cond.eq (.static "java/lang/String" "COMPACT_STRINGS" "Z") (.int 1) ∈ flatC zGn := by decide +kernel
set_option maxRecDepth 100000 in
theorem zf_r : ∀ q ∈ [("jdk/internal/util/Preconditions", "SIOOBE_FORMATTER", "Ljava/util/function/BiFunction;"), (Bundle.tN, "UNASSIGNED_STACK", Bundle.steD), (Bundle.tN, "SUPPRESSED_SENTINEL", Bundle.listD)], Cond.isRef (.static q.1 q.2.1 q.2.2) ∈ flatC zGn := by decide +kernel
set_option maxRecDepth 100000 in
theorem zf_n : Cond.not (.castable zIS zIA) ∈ flatC zGn := by decide +kernel
section ZEnv
variable {args : Array Value} {s : State}
theorem zeqi {t : Term} {z : Int32} (h : (Cond.eq t (.int z)).before args s = true) : t.eval args s none [] s = some (.int z) := by
  cases hv : t.eval args s none [] s with
  | none => simp [Cond.before, Cond.holds, Cond.value, hv] at h
  | some w =>
    have hz : (Term.int z).eval args s none [] s = some (.int z) := rfl
    simp only [Cond.before, Cond.holds, Cond.value, hv, hz] at h
    cases w <;> simp_all
theorem zarr {ty : FieldType} (hty : ∀ C, ty ≠ .object C) (h : (Cond.arrayClass ty).before args s = true) : ∃ cA, ArrOfT s cA ty ∧ va_RA s cA ty := by
  obtain ⟨cA, kA, comp, h1, h2, h3⟩ := Cond.arrayClass_spec h
  refine ⟨cA, fun n z => ⟨fun k h => (by cases h), kA, h2, comp, h3⟩, ?_⟩
  unfold va_RA
  cases ty with
  | object C => exact absurd rfl (hty C)
  | _ => exact h1
theorem zE_of (hts : ∀ w ∈ lw_tbl, w.before args s = true) : ∃ (D : va_G) (cI cC cJ : ClassId), zE D cI cC cJ s := by
  have hg : ∀ w ∈ zg, w.before args s = true := fun w h => hts w (zg_tbl h)
  obtain ⟨c0, i0, k0⟩ := u_known hg i_RW (hg _ zw_27)
  obtain ⟨c1, i1, k1⟩ := u_known hg i_SF (hg _ zw_19)
  obtain ⟨c2, i2, k2⟩ := u_known hg i_MD (hg _ zw_483)
  obtain ⟨cI, hI⟩ := zarr (fun C h => by cases h) (hg _ zw_39)
  obtain ⟨cC, hC⟩ := zarr (fun C h => by cases h) (hg _ zw_525)
  obtain ⟨cJ, hJ⟩ := zarr (fun C h => by cases h) (hg _ zw_650)
  refine ⟨(fun k => match k with | 0 => c0 | 1 => c1 | _ => c2, fun k => match k with | 0 => i0 | 1 => i1 | _ => i2), cI, cC, cJ, ⟨?_, ?_⟩, ?_⟩
  · intro c q hq
    match c with
    | 0 => cases hq; exact k0
    | 1 => cases hq; exact k1
    | 2 => cases hq; exact k2
    | c + 3 => cases hq
  · intro k q hq
    match k with
    | 0 => cases hq; exact hI
    | 1 => cases hq; exact hC
    | 2 => cases hq; exact hJ
    | k + 3 => cases hq
  · intro w hw
    have h := hts w (zN_in w hw)
    obtain ⟨q, -, rfl⟩ := List.mem_map.mp hw
    exact va_Nw.of rfl h
theorem zX1_of (hts : ∀ w ∈ lw_tbl, w.before args s = true) (hgv : zGn.before args s = true) : ∃ ka va, zX1 (zA0 s) ka va s := by
  have hs := flat_of_before _ hgv
  have hA : ∀ a : Nat, a < s.heap.size → ¬ zA0 s a := fun a h => Nat.not_le.mpr h
  obtain ⟨ka, c, cA, kA, q1, -⟩ := Cond.exactly_spec (args := args) (first := s) (o := none) (s := s) (idx := []) (hs _ zf_p)
  obtain ⟨va, hv, hT⟩ := va_Tof (A := zA0 s) (f := fun j => .int (nI (zs_chr j))) (by decide) (hs _ zf_a) (zeqi (hs _ zf_l)) (fun j hj => zeqi (hs _ (zf_e j hj))) hA
  exact ⟨ka, va, vk_R.of (hts _ zp_in) q1, va_Zof (hts _ (zl_in ("java/lang/String", "COMPACT_STRINGS", "Z") (by decide))) (hts _ (zi_in _ (by decide))) (zeqi (hs _ zf_k)) hA, va_Zqof (hts _ (zl_in ("jdk/internal/util/Preconditions", "SIOOBE_FORMATTER", "Ljava/util/function/BiFunction;") (by decide))) (hts _ (zi_in _ (by decide))) (hs _ (zf_r ("jdk/internal/util/Preconditions", "SIOOBE_FORMATTER", "Ljava/util/function/BiFunction;") (by decide))) hA,
    va_Oof (hs _ zf_p) q1 hA, vk_OFof q1 (zeqi (hs _ zf_c)) hA, vk_OFof q1 hv hA, hT⟩
theorem zX3_of (hts : ∀ w ∈ lw_tbl, w.before args s = true) (hgv : zGn.before args s = true) : zX3 (zA0 s) s := by
  have hs := flat_of_before _ hgv
  have hA : ∀ a : Nat, a < s.heap.size → ¬ zA0 s a := fun a h => Nat.not_le.mpr h
  refine ⟨⟨fun w hw => ?_, fun q hq => ?_, vx_Zqof (hts _ (zl_in (Bundle.tN, "UNASSIGNED_STACK", Bundle.steD) (by decide))) (hts _ (zi_in _ (by decide))) (hs _ (zf_r (Bundle.tN, "UNASSIGNED_STACK", Bundle.steD) (by decide))) hA, vx_Zqof (hts _ (zl_in (Bundle.tN, "SUPPRESSED_SENTINEL", Bundle.listD) (by decide))) (hts _ (zi_in _ (by decide))) (hs _ (zf_r (Bundle.tN, "SUPPRESSED_SENTINEL", Bundle.listD) (by decide))) hA⟩, va_Nc.of (hs _ zf_n)⟩
  · have h := hts w (zXw_in w hw)
    rcases zXw_kind hw with ⟨C, T, rfl⟩ | ⟨x, rfl⟩ <;> exact va_Nw.of rfl h
  · obtain ⟨ka, c, cA, kA, q1, -⟩ := Cond.exactly_spec (args := args) (first := s) (o := none) (s := s) (idx := []) (hs _ (zf_s q hq))
    exact ⟨ka, vk_R.of (hts _ (zStr_in q hq)) q1⟩
end ZEnv
