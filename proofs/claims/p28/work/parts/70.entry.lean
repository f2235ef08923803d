def zLAW : Nat := 101
theorem zinst_0 : zw 411 (.instantiable (zcN 0) (zcK 0)) = true := by decide +kernel
theorem zinst_1 : zw 202 (.instantiable (zcN 1) (zcK 1)) = true := by decide +kernel
theorem zinst_2 : zw 428 (.instantiable (zcN 2) (zcK 2)) = true := by decide +kernel
theorem zinst_3 : zw 420 (.instantiable (zcN 3) (zcK 3)) = true := by decide +kernel
theorem zinst_4 : zw 424 (.instantiable (zcN 4) (zcK 4)) = true := by decide +kernel
theorem zinst_5 : zw 415 (.instantiable (zcN 5) (zcK 5)) = true := by decide +kernel
theorem zinst_6 : zw 488 (.instantiable (zcN 6) (zcK 6)) = true := by decide +kernel
theorem zinst_7 : zw 506 (.instantiable (zcN 7) (zcK 7)) = true := by decide +kernel
theorem zinst : ∀ ci, ci < zcl.length → Cond.instantiable (zcN ci) (zcK ci) ∈ zall := by
  intro ci h
  match ci, h with
  | 0, _ => exact zw_mem zinst_0
  | 1, _ => exact zw_mem zinst_1
  | 2, _ => exact zw_mem zinst_2
  | 3, _ => exact zw_mem zinst_3
  | 4, _ => exact zw_mem zinst_4
  | 5, _ => exact zw_mem zinst_5
  | 6, _ => exact zw_mem zinst_6
  | 7, _ => exact zw_mem zinst_7
  | k + 8, h => exact absurd h (by simp [zcl])
theorem zac_int : Cond.arrayClass .int ∈ zall := zw_mem (p := 4) (by decide +kernel)
theorem zover : Cond.arrayOver (.array .int) ∈ lw_tbl := List.mem_of_getElem? (i := 605) (by decide +kernel)
/-- the tables, at the law's entry -/
theorem zK_entry {A : Array Value} {s : State} (hts : ∀ w ∈ lw_tbl, w.before A s = true) {c9 : ClassId} (h9 : ∃ (k : Class) (cp : ClassId), s.vm.classes[c9]? = some k ∧ k.kind = .array cp .int) : ∃ (D : va_G) (CA : Nat → ClassId), CA 9 = c9 ∧ zK D CA s := by
  have hz : ∀ w ∈ zall, w.before A s = true := fun w hw => hts w (zall_in w hw)
  have h1 : ∀ k, ∃ P : ClassId × (Nat → Nat), k < zcl.length → u_Kn s (zcN k) (zcF k) (zcK k) P.1 P.2 := by
    intro k
    by_cases hk : k < zcl.length
    · obtain ⟨c, i, hc⟩ := u_known (C := zcN k) (T := zcF k) (N := zcK k) (n := zcK k) hz (zcl_ok hk).1 (hz _ (zinst k hk))
      exact ⟨(c, i), fun _ => hc⟩
    · exact ⟨(0, fun _ => 0), fun q => absurd q hk⟩
  obtain ⟨P, hP⟩ := Classical.axiomOfChoice h1
  obtain ⟨c0, k0, p0, f0, g0, e0⟩ := Cond.arrayClass_spec (hz _ zac_int)
  have hov := hts _ zover
  obtain ⟨cp, c3, k3, n1, -, n3, n4, n5⟩ := arrayOverA_spec hov
  have hcp : cp = c0 := by
    have : FieldType.toString (.array .int) = "[" ++ FieldType.toString .int := by decide +kernel
    rw [this, f0] at n1
    exact (Option.some.inj n1).symm
  refine ⟨(fun k => (P k).1, fun k => (P k).2), fun t => match t with
    | 0 => c0
    | 9 => c9
    | _ => c3, rfl, ⟨fun k q hq => ?_, fun k q hq => by simp at hq⟩, fun t ht => ?_, fun _ => ⟨⟨k3, k0, n3, by rw [hcp] at n4; exact n4, g0⟩, ?_⟩, fun q hq => ?_, h9⟩
  · have hk : k < zcl.length := (List.getElem?_eq_some_iff.mp hq).1
    have := hP k hk
    unfold zcN zcF zcK at this
    rw [List.getD_eq_getElem?_getD, hq] at this
    exact this
  · have ht4 : t = 0 ∨ t = 3 := by
      simp only [zkin, List.mem_cons, List.not_mem_nil, or_false] at ht
      omega
    rcases ht4 with rfl | rfl
    · exact ⟨fun n z => ⟨fun k h => (by cases h), k0, g0, p0, e0⟩, f0⟩
    · exact ⟨fun n z => ⟨fun k h => (by cases h), k3, n3, cp, n4⟩, n5⟩
  · exact hov
  · exact va_Nw.of rfl (hts _ (znest_in q hq))
