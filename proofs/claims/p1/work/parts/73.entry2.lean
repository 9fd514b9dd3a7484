-- words of the tables, and what stands at each place of the methods' code (laid by program)
/-! .. and what its throws and catches ask -/
theorem lq_N {args : Array Value} {s : State} (hl : ∀ w ∈ lw_tbl, w.before args s = true) (hg : (Jvm.Cond.and given_1 narrow_1).before args s = true) : wq_N s := by
  have hf := flat_of_before _ hg
  refine ⟨fun x y hx hy hn => ?_, fun x hx => ?_⟩
  · rcases hx with rfl | rfl | rfl <;> rcases hy with rfl | rfl | rfl <;> first
      | exact absurd rfl hn
      | exact va_Nc.of (hf (.not (.castable "java/lang/IndexOutOfBoundsException" "java/lang/IllegalArgumentException")) (by decide +kernel))
      | exact va_Nc.of (hf (.not (.castable "java/lang/IndexOutOfBoundsException" "java/lang/IllegalStateException")) (by decide +kernel))
      | exact va_Nc.of (hf (.not (.castable "java/lang/IllegalArgumentException" "java/lang/IndexOutOfBoundsException")) (by decide +kernel))
      | exact va_Nc.of (hf (.not (.castable "java/lang/IllegalArgumentException" "java/lang/IllegalStateException")) (by decide +kernel))
      | exact va_Nc.of (hf (.not (.castable "java/lang/IllegalStateException" "java/lang/IndexOutOfBoundsException")) (by decide +kernel))
      | exact va_Nc.of (hf (.not (.castable "java/lang/IllegalStateException" "java/lang/IllegalArgumentException")) (by decide +kernel))
  · rcases hx with rfl | rfl | rfl
    · exact va_Nw.of rfl (hl (.castable "java/lang/IndexOutOfBoundsException" "java/lang/IndexOutOfBoundsException") (by decide +kernel))
    · exact va_Nw.of rfl (hl (.castable "java/lang/IllegalArgumentException" "java/lang/IllegalArgumentException") (by decide +kernel))
    · exact va_Nw.of rfl (hl (.castable "java/lang/IllegalStateException" "java/lang/IllegalStateException") (by decide +kernel))
theorem lq_XF {args : Array Value} {s : State} {A : Nat → Prop} (hl : ∀ w ∈ lw_tbl, w.before args s = true) (hg : (Jvm.Cond.and given_1 narrow_1).before args s = true) (hA : ∀ a : Nat, a < s.heap.size → ¬ A a) (hs : ∀ z ∈ ww_strs, ∃ sa, vk_R z.1 z.2.1 z.2.2 sa s) : vm_XF ww_tbx ww_strs A s s.heap := by
  have hf := flat_of_before _ hg
  refine ⟨fun w hw => ?_, ?_, ?_, hs⟩
  · have h1 : (ww_tbx.all (fun w => decide (w ∈ lw_tbl))) = true := by decide +kernel
    exact va_Nw.of (vm_mvT (List.all_eq_true.mp ww_mv w hw)) (hl _ (of_decide_eq_true (List.all_eq_true.mp h1 w hw)))
  · exact vx_Zqof (hl (.laysStatic Bundle.tN "UNASSIGNED_STACK" Bundle.steD) (by decide +kernel)) (hl (.initialized Bundle.tN) (by decide +kernel)) (hf (.isRef (.static Bundle.tN "UNASSIGNED_STACK" Bundle.steD)) (by decide +kernel)) hA
  · exact vx_Zqof (hl (.laysStatic Bundle.tN "SUPPRESSED_SENTINEL" Bundle.listD) (by decide +kernel)) (hl (.initialized Bundle.tN) (by decide +kernel)) (hf (.isRef (.static Bundle.tN "SUPPRESSED_SENTINEL" Bundle.listD)) (by decide +kernel)) hA
