/-! the rows of the machine vm (laid by program out of those of vg) -/
section VT
variable {bf : Bool} {tb tbx : List Cond} {strs : List (String × Nat × String)} {nw : List (String × Nat × MethodName × String)} {shp : vgN → vgH} {nm : List vgN} {cl : List vw_C} {tyl : List FieldType} {cc : ByteArray} {nL : Nat} {own : String} {ret : Option FieldType} {d pc n : Nat}

theorem vt_no : vm_Snd bf tb tbx strs nw shp nm cl tyl cc nL own ret d pc vi_no := ⟨fun _ _ _ _ _ _ _ h => h, fun _ _ _ _ _ _ _ _ _ _ _ _ _ _ _ _ _ _ _ _ _ _ _ h => h.elim⟩
theorem vt_iconst {z : Int} {v : Int32} (hd : decode cc pc = .ok (.iconst z, 1)) (hv : Int32.ofInt z = v) (hn : pc + 1 = n) : vm_Snd bf tb tbx strs nw shp nm cl tyl cc nL own ret d pc (vi_icst v n) := by
  subst hn
  refine ⟨fun P K K' h lv st σ g => h _ _ _ _ g, ?_⟩
  intro p l e R s m args below meth c D tys ad A P ck cn Z C0 E0 lv st σ h H locs ls hl ho hs hP hS
  exact lv_iconst C0.1 C0.2.1 hd hv (h H locs ls hl ho (vg_okc trivial hs) hP hS)
theorem vt_bipush {z : Int} {v : Int32} (hd : decode cc pc = .ok (.bipush z, 2)) (hv : (Int8.ofInt z).toInt32 = v) (hn : pc + 2 = n) : vm_Snd bf tb tbx strs nw shp nm cl tyl cc nL own ret d pc (vi_icst v n) := by
  subst hn
  refine ⟨fun P K K' h lv st σ g => h _ _ _ _ g, ?_⟩
  intro p l e R s m args below meth c D tys ad A P ck cn Z C0 E0 lv st σ h H locs ls hl ho hs hP hS
  exact lv_bipush C0.1 C0.2.1 hd hv (h H locs ls hl ho (vg_okc trivial hs) hP hS)
theorem vt_sipush {z : Int} {v : Int32} (hd : decode cc pc = .ok (.sipush z, 3)) (hv : (Int16.ofInt z).toInt32 = v) (hn : pc + 3 = n) : vm_Snd bf tb tbx strs nw shp nm cl tyl cc nL own ret d pc (vi_icst v n) := by
  subst hn
  refine ⟨fun P K K' h lv st σ g => h _ _ _ _ g, ?_⟩
  intro p l e R s m args below meth c D tys ad A P ck cn Z C0 E0 lv st σ h H locs ls hl ho hs hP hS
  exact lv_sipush C0.1 C0.2.1 hd hv (h H locs ls hl ho (vg_okc trivial hs) hP hS)
theorem vt_ldc {ix : Nat} {v : Int32} (hd : decode cc pc = .ok (.ldc ix, 2)) (hw : Cond.constant own ix v ∈ tb) (hn : pc + 2 = n) : vm_Snd bf tb tbx strs nw shp nm cl tyl cc nL own ret d pc (vi_icst v n) := by
  subst hn
  refine ⟨fun P K K' h lv st σ g => h _ _ _ _ g, ?_⟩
  intro p l e R s m args below meth c D tys ad A P ck cn Z C0 E0 lv st σ h H locs ls hl ho hs hP hS
  exact lv_ldc C0.1 C0.2.1 C0.2.2.2.1 (C0.2.2.2.2.1 _ hw) hd (h H locs ls hl ho (vg_okc trivial hs) hP hS)
theorem vt_ldcw {ix : Nat} {v : Int32} (hd : decode cc pc = .ok (.ldc_w ix, 3)) (hw : Cond.constant own ix v ∈ tb) (hn : pc + 3 = n) : vm_Snd bf tb tbx strs nw shp nm cl tyl cc nL own ret d pc (vi_icst v n) := by
  subst hn
  refine ⟨fun P K K' h lv st σ g => h _ _ _ _ g, ?_⟩
  intro p l e R s m args below meth c D tys ad A P ck cn Z C0 E0 lv st σ h H locs ls hl ho hs hP hS
  exact lv_ldcw C0.1 C0.2.1 C0.2.2.2.1 (C0.2.2.2.2.1 _ hw) hd (h H locs ls hl ho (vg_okc trivial hs) hP hS)
theorem vt_ldc2 {ix : Nat} {v : Int64} (hd : decode cc pc = .ok (.ldc2_w ix, 3)) (hw : Cond.constantLong own ix v ∈ tb) (hn : pc + 3 = n) : vm_Snd bf tb tbx strs nw shp nm cl tyl cc nL own ret d pc (vi_lcst v n) := by
  subst hn
  refine ⟨fun P K K' h lv st σ g => h _ _ _ _ g, ?_⟩
  intro p l e R s m args below meth c D tys ad A P ck cn Z C0 E0 lv st σ h H locs ls hl ho hs hP hS
  exact lv_ldc2 C0.1 C0.2.1 C0.2.2.2.1 (C0.2.2.2.2.1 _ hw) hd (h H locs ls hl ho (vg_okc trivial hs) hP hS)
theorem vt_iload_n {k : Fin 4} {i : Nat} (hd : decode cc pc = .ok (.iload_n k, 1)) (hi : (k : Nat) = i) (hn : pc + 1 = n) : vm_Snd bf tb tbx strs nw shp nm cl tyl cc nL own ret d pc (vi_iload i n) := by
  subst hn
  refine ⟨vs_m1 fun K K' h lv st σ g => ?_, ?_⟩
  · split at g
    · exact h _ _ _ _ g
    · exact g
  intro p l e R s m args below meth c D tys ad A P ck cn Z C0 E0 lv st σ h H locs ls hl ho hs hP hS
  unfold vi_iload at h
  split at h
  next x hx => exact lv_iload_n C0.1 C0.2.1 hd hi (vg_lm_at hl hx) (h H locs ls hl ho (vg_okc trivial hs) hP hS)
  next => exact h.elim
theorem vt_iload {i : Nat} (hd : decode cc pc = .ok (.iload i, 2)) (hn : pc + 2 = n) : vm_Snd bf tb tbx strs nw shp nm cl tyl cc nL own ret d pc (vi_iload i n) := by
  subst hn
  refine ⟨vs_m1 fun K K' h lv st σ g => ?_, ?_⟩
  · split at g
    · exact h _ _ _ _ g
    · exact g
  intro p l e R s m args below meth c D tys ad A P ck cn Z C0 E0 lv st σ h H locs ls hl ho hs hP hS
  unfold vi_iload at h
  split at h
  next x hx => exact lv_iload C0.1 C0.2.1 hd (vg_lm_at hl hx) (h H locs ls hl ho (vg_okc trivial hs) hP hS)
  next => exact h.elim
theorem vt_lload_n {k : Fin 4} {i : Nat} (hd : decode cc pc = .ok (.lload_n k, 1)) (hi : (k : Nat) = i) (hn : pc + 1 = n) : vm_Snd bf tb tbx strs nw shp nm cl tyl cc nL own ret d pc (vi_lload i n) := by
  subst hn
  refine ⟨vs_m1 fun K K' h lv st σ g => ?_, ?_⟩
  · split at g
    · exact h _ _ _ _ g
    · exact g
  intro p l e R s m args below meth c D tys ad A P ck cn Z C0 E0 lv st σ h H locs ls hl ho hs hP hS
  unfold vi_lload at h
  split at h
  next x hx => exact lv_lload_n C0.1 C0.2.1 hd hi (vg_lm_at hl hx) (h H locs ls hl ho (vg_okc trivial hs) hP hS)
  next => exact h.elim
theorem vt_lload {i : Nat} (hd : decode cc pc = .ok (.lload i, 2)) (hn : pc + 2 = n) : vm_Snd bf tb tbx strs nw shp nm cl tyl cc nL own ret d pc (vi_lload i n) := by
  subst hn
  refine ⟨vs_m1 fun K K' h lv st σ g => ?_, ?_⟩
  · split at g
    · exact h _ _ _ _ g
    · exact g
  intro p l e R s m args below meth c D tys ad A P ck cn Z C0 E0 lv st σ h H locs ls hl ho hs hP hS
  unfold vi_lload at h
  split at h
  next x hx => exact lv_lload C0.1 C0.2.1 hd (vg_lm_at hl hx) (h H locs ls hl ho (vg_okc trivial hs) hP hS)
  next => exact h.elim
theorem vt_aload_n {k : Fin 4} {i : Nat} (hd : decode cc pc = .ok (.aload_n k, 1)) (hi : (k : Nat) = i) (hn : pc + 1 = n) : vm_Snd bf tb tbx strs nw shp nm cl tyl cc nL own ret d pc (vi_aload i n) := by
  subst hn
  refine ⟨vs_m1 fun K K' h lv st σ g => ?_, ?_⟩
  · split at g
    · exact h _ _ _ _ g
    · exact g
  intro p l e R s m args below meth c D tys ad A P ck cn Z C0 E0 lv st σ h H locs ls hl ho hs hP hS
  unfold vi_aload at h
  split at h
  next x hx => exact lv_aload_n C0.1 C0.2.1 hd hi (vg_lm_at hl hx) (h H locs ls hl ho (vg_okc (vg_okl ho hx) hs) hP hS)
  next => exact h.elim
theorem vt_aload {i : Nat} (hd : decode cc pc = .ok (.aload i, 2)) (hn : pc + 2 = n) : vm_Snd bf tb tbx strs nw shp nm cl tyl cc nL own ret d pc (vi_aload i n) := by
  subst hn
  refine ⟨vs_m1 fun K K' h lv st σ g => ?_, ?_⟩
  · split at g
    · exact h _ _ _ _ g
    · exact g
  intro p l e R s m args below meth c D tys ad A P ck cn Z C0 E0 lv st σ h H locs ls hl ho hs hP hS
  unfold vi_aload at h
  split at h
  next x hx => exact lv_aload C0.1 C0.2.1 hd (vg_lm_at hl hx) (h H locs ls hl ho (vg_okc (vg_okl ho hx) hs) hP hS)
  next => exact h.elim
theorem vt_istore_n {k : Fin 4} {i : Nat} (hd : decode cc pc = .ok (.istore_n k, 1)) (hi : (k : Nat) = i) (hL : i < nL) (hn : pc + 1 = n) : vm_Snd bf tb tbx strs nw shp nm cl tyl cc nL own ret d pc (vi_istore i n) := by
  subst hn
  refine ⟨vs_m1 fun K K' h lv st σ g => ?_, ?_⟩
  · split at g
    · exact h _ _ _ _ g
    · exact g
  intro p l e R s m args below meth c D tys ad A P ck cn Z C0 E0 lv st σ h H locs ls hl ho hs hP hS
  unfold vi_istore at h
  split at h
  next x t => exact lv_istore_n C0.1 C0.2.1 hd hi hl hL (vg_lm_put ad lv i (.inl (.int x))) (fun ls' hl' => h H locs ls' hl' (vg_ok_put ho trivial) (vg_okt hs) hP hS)
  next => exact h.elim
theorem vt_istore {i : Nat} (hd : decode cc pc = .ok (.istore i, 2)) (hL : i < nL) (hn : pc + 2 = n) : vm_Snd bf tb tbx strs nw shp nm cl tyl cc nL own ret d pc (vi_istore i n) := by
  subst hn
  refine ⟨vs_m1 fun K K' h lv st σ g => ?_, ?_⟩
  · split at g
    · exact h _ _ _ _ g
    · exact g
  intro p l e R s m args below meth c D tys ad A P ck cn Z C0 E0 lv st σ h H locs ls hl ho hs hP hS
  unfold vi_istore at h
  split at h
  next x t => exact lv_istore C0.1 C0.2.1 hd hl hL (vg_lm_put ad lv i (.inl (.int x))) (fun ls' hl' => h H locs ls' hl' (vg_ok_put ho trivial) (vg_okt hs) hP hS)
  next => exact h.elim
theorem vt_lstore_n {k : Fin 4} {i : Nat} (hd : decode cc pc = .ok (.lstore_n k, 1)) (hi : (k : Nat) = i) (hL : i + 1 < nL) (hn : pc + 1 = n) : vm_Snd bf tb tbx strs nw shp nm cl tyl cc nL own ret d pc (vi_lstore i n) := by
  subst hn
  refine ⟨vs_m1 fun K K' h lv st σ g => ?_, ?_⟩
  · split at g
    · exact h _ _ _ _ g
    · exact g
  intro p l e R s m args below meth c D tys ad A P ck cn Z C0 E0 lv st σ h H locs ls hl ho hs hP hS
  unfold vi_lstore at h
  split at h
  next x t => exact lv_lstore_n C0.1 C0.2.1 hd hi hl hL (vg_lm_put2 ad lv i (.inl (.long x))) (fun ls' hl' => h H locs ls' hl' (vg_ok_put2 ho trivial) (vg_okt hs) hP hS)
  next => exact h.elim
theorem vt_lstore {i : Nat} (hd : decode cc pc = .ok (.lstore i, 2)) (hL : i + 1 < nL) (hn : pc + 2 = n) : vm_Snd bf tb tbx strs nw shp nm cl tyl cc nL own ret d pc (vi_lstore i n) := by
  subst hn
  refine ⟨vs_m1 fun K K' h lv st σ g => ?_, ?_⟩
  · split at g
    · exact h _ _ _ _ g
    · exact g
  intro p l e R s m args below meth c D tys ad A P ck cn Z C0 E0 lv st σ h H locs ls hl ho hs hP hS
  unfold vi_lstore at h
  split at h
  next x t => exact lv_lstore C0.1 C0.2.1 hd hl hL (vg_lm_put2 ad lv i (.inl (.long x))) (fun ls' hl' => h H locs ls' hl' (vg_ok_put2 ho trivial) (vg_okt hs) hP hS)
  next => exact h.elim
theorem vt_astore_n {k : Fin 4} {i : Nat} (hd : decode cc pc = .ok (.astore_n k, 1)) (hi : (k : Nat) = i) (hL : i < nL) (hn : pc + 1 = n) : vm_Snd bf tb tbx strs nw shp nm cl tyl cc nL own ret d pc (vi_astore i n) := by
  subst hn
  refine ⟨vs_m1 fun K K' h lv st σ g => ?_, ?_⟩
  · split at g
    · exact h _ _ _ _ g
    · exact g
  intro p l e R s m args below meth c D tys ad A P ck cn Z C0 E0 lv st σ h H locs ls hl ho hs hP hS
  unfold vi_astore at h
  split at h
  next x t => exact lv_astore_n C0.1 C0.2.1 hd hi hl hL (vg_lm_put ad lv i (.inr x)) (fun ls' hl' => h H locs ls' hl' (vg_ok_put ho (vg_okh hs)) (vg_okt hs) hP hS)
  next => exact h.elim
theorem vt_astore {i : Nat} (hd : decode cc pc = .ok (.astore i, 2)) (hL : i < nL) (hn : pc + 2 = n) : vm_Snd bf tb tbx strs nw shp nm cl tyl cc nL own ret d pc (vi_astore i n) := by
  subst hn
  refine ⟨vs_m1 fun K K' h lv st σ g => ?_, ?_⟩
  · split at g
    · exact h _ _ _ _ g
    · exact g
  intro p l e R s m args below meth c D tys ad A P ck cn Z C0 E0 lv st σ h H locs ls hl ho hs hP hS
  unfold vi_astore at h
  split at h
  next x t => exact lv_astore C0.1 C0.2.1 hd hl hL (vg_lm_put ad lv i (.inr x)) (fun ls' hl' => h H locs ls' hl' (vg_ok_put ho (vg_okh hs)) (vg_okt hs) hP hS)
  next => exact h.elim
theorem vt_iinc {i : Nat} {z : Int} {v : Int32} (hd : decode cc pc = .ok (.iinc i z, 3)) (hv : Int32.ofInt z = v) (hn : pc + 3 = n) : vm_Snd bf tb tbx strs nw shp nm cl tyl cc nL own ret d pc (vi_iinc i v n) := by
  subst hn
  refine ⟨vs_m1 fun K K' h lv st σ g => ?_, ?_⟩
  · split at g
    · exact h _ _ _ _ g
    · exact g
  intro p l e R s m args below meth c D tys ad A P ck cn Z C0 E0 lv st σ h H locs ls hl ho hs hP hS
  unfold vi_iinc at h
  split at h
  next x hx =>
    obtain ⟨k, hk⟩ := List.getElem?_of_mem (vg_look_mem hx)
    exact lv_iinc (k := k) C0.1 C0.2.1 hd hl (by unfold vg_lm; rw [List.getElem?_map, hk]; rfl) (by rw [hv]) (vg_lms hl hx) (vg_lm_put ad lv i (.inl (.int (x + v)))) (fun ls' hl' => h H locs ls' hl' (vg_ok_put ho trivial) hs hP hS)
  next => exact h.elim
theorem vt_iadd (hd : decode cc pc = .ok (.iadd, 1)) (hn : pc + 1 = n) : vm_Snd bf tb tbx strs nw shp nm cl tyl cc nL own ret d pc (vi_bin (fun x y => x + y) n) := by
  subst hn
  refine ⟨vs_m1 fun K K' h lv st σ g => ?_, ?_⟩
  · split at g
    · exact h _ _ _ _ g
    · exact g
  intro p l e R s m args below meth c D tys ad A P ck cn Z C0 E0 lv st σ h H locs ls hl ho hs hP hS
  unfold vi_bin at h
  split at h
  next y x t => exact lv_iadd C0.1 C0.2.1 hd (h H locs ls hl ho (vg_okc trivial (vg_okt (vg_okt hs))) hP hS)
  next => exact h.elim
theorem vt_isub (hd : decode cc pc = .ok (.isub, 1)) (hn : pc + 1 = n) : vm_Snd bf tb tbx strs nw shp nm cl tyl cc nL own ret d pc (vi_bin (fun x y => x - y) n) := by
  subst hn
  refine ⟨vs_m1 fun K K' h lv st σ g => ?_, ?_⟩
  · split at g
    · exact h _ _ _ _ g
    · exact g
  intro p l e R s m args below meth c D tys ad A P ck cn Z C0 E0 lv st σ h H locs ls hl ho hs hP hS
  unfold vi_bin at h
  split at h
  next y x t => exact lv_isub C0.1 C0.2.1 hd (h H locs ls hl ho (vg_okc trivial (vg_okt (vg_okt hs))) hP hS)
  next => exact h.elim
theorem vt_imul (hd : decode cc pc = .ok (.imul, 1)) (hn : pc + 1 = n) : vm_Snd bf tb tbx strs nw shp nm cl tyl cc nL own ret d pc (vi_bin (fun x y => x * y) n) := by
  subst hn
  refine ⟨vs_m1 fun K K' h lv st σ g => ?_, ?_⟩
  · split at g
    · exact h _ _ _ _ g
    · exact g
  intro p l e R s m args below meth c D tys ad A P ck cn Z C0 E0 lv st σ h H locs ls hl ho hs hP hS
  unfold vi_bin at h
  split at h
  next y x t => exact lv_imul C0.1 C0.2.1 hd (h H locs ls hl ho (vg_okc trivial (vg_okt (vg_okt hs))) hP hS)
  next => exact h.elim
theorem vt_iand (hd : decode cc pc = .ok (.iand, 1)) (hn : pc + 1 = n) : vm_Snd bf tb tbx strs nw shp nm cl tyl cc nL own ret d pc (vi_bin (fun x y => x &&& y) n) := by
  subst hn
  refine ⟨vs_m1 fun K K' h lv st σ g => ?_, ?_⟩
  · split at g
    · exact h _ _ _ _ g
    · exact g
  intro p l e R s m args below meth c D tys ad A P ck cn Z C0 E0 lv st σ h H locs ls hl ho hs hP hS
  unfold vi_bin at h
  split at h
  next y x t => exact lv_iand C0.1 C0.2.1 hd (h H locs ls hl ho (vg_okc trivial (vg_okt (vg_okt hs))) hP hS)
  next => exact h.elim
theorem vt_ior (hd : decode cc pc = .ok (.ior, 1)) (hn : pc + 1 = n) : vm_Snd bf tb tbx strs nw shp nm cl tyl cc nL own ret d pc (vi_bin (fun x y => x ||| y) n) := by
  subst hn
  refine ⟨vs_m1 fun K K' h lv st σ g => ?_, ?_⟩
  · split at g
    · exact h _ _ _ _ g
    · exact g
  intro p l e R s m args below meth c D tys ad A P ck cn Z C0 E0 lv st σ h H locs ls hl ho hs hP hS
  unfold vi_bin at h
  split at h
  next y x t => exact lv_ior C0.1 C0.2.1 hd (h H locs ls hl ho (vg_okc trivial (vg_okt (vg_okt hs))) hP hS)
  next => exact h.elim
theorem vt_ixor (hd : decode cc pc = .ok (.ixor, 1)) (hn : pc + 1 = n) : vm_Snd bf tb tbx strs nw shp nm cl tyl cc nL own ret d pc (vi_bin (fun x y => x ^^^ y) n) := by
  subst hn
  refine ⟨vs_m1 fun K K' h lv st σ g => ?_, ?_⟩
  · split at g
    · exact h _ _ _ _ g
    · exact g
  intro p l e R s m args below meth c D tys ad A P ck cn Z C0 E0 lv st σ h H locs ls hl ho hs hP hS
  unfold vi_bin at h
  split at h
  next y x t => exact lv_ixor C0.1 C0.2.1 hd (h H locs ls hl ho (vg_okc trivial (vg_okt (vg_okt hs))) hP hS)
  next => exact h.elim
theorem vt_ishl (hd : decode cc pc = .ok (.ishl, 1)) (hn : pc + 1 = n) : vm_Snd bf tb tbx strs nw shp nm cl tyl cc nL own ret d pc (vi_bin (fun x y => x <<< (y &&& 31)) n) := by
  subst hn
  refine ⟨vs_m1 fun K K' h lv st σ g => ?_, ?_⟩
  · split at g
    · exact h _ _ _ _ g
    · exact g
  intro p l e R s m args below meth c D tys ad A P ck cn Z C0 E0 lv st σ h H locs ls hl ho hs hP hS
  unfold vi_bin at h
  split at h
  next y x t => exact lv_ishl C0.1 C0.2.1 hd (h H locs ls hl ho (vg_okc trivial (vg_okt (vg_okt hs))) hP hS)
  next => exact h.elim
theorem vt_ishr (hd : decode cc pc = .ok (.ishr, 1)) (hn : pc + 1 = n) : vm_Snd bf tb tbx strs nw shp nm cl tyl cc nL own ret d pc (vi_bin (fun x y => x >>> (y &&& 31)) n) := by
  subst hn
  refine ⟨vs_m1 fun K K' h lv st σ g => ?_, ?_⟩
  · split at g
    · exact h _ _ _ _ g
    · exact g
  intro p l e R s m args below meth c D tys ad A P ck cn Z C0 E0 lv st σ h H locs ls hl ho hs hP hS
  unfold vi_bin at h
  split at h
  next y x t => exact lv_ishr C0.1 C0.2.1 hd (h H locs ls hl ho (vg_okc trivial (vg_okt (vg_okt hs))) hP hS)
  next => exact h.elim
theorem vt_idiv (hd : decode cc pc = .ok (.idiv, 1)) (hn : pc + 1 = n) : vm_Snd bf tb tbx strs nw shp nm cl tyl cc nL own ret d pc (vi_div (fun x y => x / y) n) := by
  subst hn
  refine ⟨vs_m1 fun K K' h lv st σ g => ?_, ?_⟩
  · split at g
    · exact ⟨g.1, h _ _ _ _ g.2⟩
    · exact g
  intro p l e R s m args below meth c D tys ad A P ck cn Z C0 E0 lv st σ h H locs ls hl ho hs hP hS
  unfold vi_div at h
  split at h
  next y x t => exact lv_idiv C0.1 C0.2.1 hd h.1 (h.2 H locs ls hl ho (vg_okc trivial (vg_okt (vg_okt hs))) hP hS)
  next => exact h.elim
theorem vt_irem (hd : decode cc pc = .ok (.irem, 1)) (hn : pc + 1 = n) : vm_Snd bf tb tbx strs nw shp nm cl tyl cc nL own ret d pc (vi_div (fun x y => x - x / y * y) n) := by
  subst hn
  refine ⟨vs_m1 fun K K' h lv st σ g => ?_, ?_⟩
  · split at g
    · exact ⟨g.1, h _ _ _ _ g.2⟩
    · exact g
  intro p l e R s m args below meth c D tys ad A P ck cn Z C0 E0 lv st σ h H locs ls hl ho hs hP hS
  unfold vi_div at h
  split at h
  next y x t => exact lv_irem C0.1 C0.2.1 hd h.1 (h.2 H locs ls hl ho (vg_okc trivial (vg_okt (vg_okt hs))) hP hS)
  next => exact h.elim
theorem vt_ladd (hd : decode cc pc = .ok (.ladd, 1)) (hn : pc + 1 = n) : vm_Snd bf tb tbx strs nw shp nm cl tyl cc nL own ret d pc (vi_lbin (fun x y => x + y) n) := by
  subst hn
  refine ⟨vs_m1 fun K K' h lv st σ g => ?_, ?_⟩
  · split at g
    · exact h _ _ _ _ g
    · exact g
  intro p l e R s m args below meth c D tys ad A P ck cn Z C0 E0 lv st σ h H locs ls hl ho hs hP hS
  unfold vi_lbin at h
  split at h
  next y x t => exact lv_ladd C0.1 C0.2.1 hd (h H locs ls hl ho (vg_okc trivial (vg_okt (vg_okt hs))) hP hS)
  next => exact h.elim
theorem vt_lmul (hd : decode cc pc = .ok (.lmul, 1)) (hn : pc + 1 = n) : vm_Snd bf tb tbx strs nw shp nm cl tyl cc nL own ret d pc (vi_lbin (fun x y => x * y) n) := by
  subst hn
  refine ⟨vs_m1 fun K K' h lv st σ g => ?_, ?_⟩
  · split at g
    · exact h _ _ _ _ g
    · exact g
  intro p l e R s m args below meth c D tys ad A P ck cn Z C0 E0 lv st σ h H locs ls hl ho hs hP hS
  unfold vi_lbin at h
  split at h
  next y x t => exact lv_lmul C0.1 C0.2.1 hd (h H locs ls hl ho (vg_okc trivial (vg_okt (vg_okt hs))) hP hS)
  next => exact h.elim
theorem vt_i2l (hd : decode cc pc = .ok (.i2l, 1)) (hn : pc + 1 = n) : vm_Snd bf tb tbx strs nw shp nm cl tyl cc nL own ret d pc (vi_i2l n) := by
  subst hn
  refine ⟨vs_m1 fun K K' h lv st σ g => ?_, ?_⟩
  · split at g
    · exact h _ _ _ _ g
    · exact g
  intro p l e R s m args below meth c D tys ad A P ck cn Z C0 E0 lv st σ h H locs ls hl ho hs hP hS
  unfold vi_i2l at h
  split at h
  next x t => exact lv_i2l C0.1 C0.2.1 hd rfl (h H locs ls hl ho (vg_okc trivial (vg_okt hs)) hP hS)
  next => exact h.elim
theorem vt_if_eq {off : Int} {g : Nat} (hd : decode cc pc = .ok (.ifCond .eq off, 3)) (ht : (pc : Int) + off = (g : Int)) (hn : pc + 3 = n) : vm_Snd bf tb tbx strs nw shp nm cl tyl cc nL own ret d pc (vi_if (fun x => x = 0) g n) := by
  subst hn
  refine ⟨vs_m1 fun K K' h lv st σ g => ?_, ?_⟩
  · split at g
    · exact ⟨fun q => h _ _ _ _ (g.1 q), fun q => h _ _ _ _ (g.2 q)⟩
    · exact g
  intro p l e R s m args below meth c D tys ad A P ck cn Z C0 E0 lv st σ h H locs ls hl ho hs hP hS
  unfold vi_if at h
  split at h
  next x t => exact lv_if_eq C0.1 C0.2.1 hd ht (fun q => h.1 q H locs ls hl ho (vg_okt hs) hP hS) (fun q => h.2 q H locs ls hl ho (vg_okt hs) hP hS)
  next => exact h.elim
theorem vt_if_ne {off : Int} {g : Nat} (hd : decode cc pc = .ok (.ifCond .ne off, 3)) (ht : (pc : Int) + off = (g : Int)) (hn : pc + 3 = n) : vm_Snd bf tb tbx strs nw shp nm cl tyl cc nL own ret d pc (vi_if (fun x => x = 0) n g) := by
  subst hn
  refine ⟨vs_m1 fun K K' h lv st σ g => ?_, ?_⟩
  · split at g
    · exact ⟨fun q => h _ _ _ _ (g.1 q), fun q => h _ _ _ _ (g.2 q)⟩
    · exact g
  intro p l e R s m args below meth c D tys ad A P ck cn Z C0 E0 lv st σ h H locs ls hl ho hs hP hS
  unfold vi_if at h
  split at h
  next x t => exact lv_if_ne C0.1 C0.2.1 hd ht (fun q => h.2 q H locs ls hl ho (vg_okt hs) hP hS) (fun q => h.1 q H locs ls hl ho (vg_okt hs) hP hS)
  next => exact h.elim
theorem vt_if_lt {off : Int} {g : Nat} (hd : decode cc pc = .ok (.ifCond .lt off, 3)) (ht : (pc : Int) + off = (g : Int)) (hn : pc + 3 = n) : vm_Snd bf tb tbx strs nw shp nm cl tyl cc nL own ret d pc (vi_if (fun x => x < 0) g n) := by
  subst hn
  refine ⟨vs_m1 fun K K' h lv st σ g => ?_, ?_⟩
  · split at g
    · exact ⟨fun q => h _ _ _ _ (g.1 q), fun q => h _ _ _ _ (g.2 q)⟩
    · exact g
  intro p l e R s m args below meth c D tys ad A P ck cn Z C0 E0 lv st σ h H locs ls hl ho hs hP hS
  unfold vi_if at h
  split at h
  next x t => exact lv_if_lt C0.1 C0.2.1 hd ht (fun q => h.1 q H locs ls hl ho (vg_okt hs) hP hS) (fun q => h.2 q H locs ls hl ho (vg_okt hs) hP hS)
  next => exact h.elim
theorem vt_if_ge {off : Int} {g : Nat} (hd : decode cc pc = .ok (.ifCond .ge off, 3)) (ht : (pc : Int) + off = (g : Int)) (hn : pc + 3 = n) : vm_Snd bf tb tbx strs nw shp nm cl tyl cc nL own ret d pc (vi_if (fun x => 0 ≤ x) g n) := by
  subst hn
  refine ⟨vs_m1 fun K K' h lv st σ g => ?_, ?_⟩
  · split at g
    · exact ⟨fun q => h _ _ _ _ (g.1 q), fun q => h _ _ _ _ (g.2 q)⟩
    · exact g
  intro p l e R s m args below meth c D tys ad A P ck cn Z C0 E0 lv st σ h H locs ls hl ho hs hP hS
  unfold vi_if at h
  split at h
  next x t => exact lv_if_ge C0.1 C0.2.1 hd ht (fun q => h.1 q H locs ls hl ho (vg_okt hs) hP hS) (fun q => h.2 q H locs ls hl ho (vg_okt hs) hP hS)
  next => exact h.elim
theorem vt_if_gt {off : Int} {g : Nat} (hd : decode cc pc = .ok (.ifCond .gt off, 3)) (ht : (pc : Int) + off = (g : Int)) (hn : pc + 3 = n) : vm_Snd bf tb tbx strs nw shp nm cl tyl cc nL own ret d pc (vi_if (fun x => 0 < x) g n) := by
  subst hn
  refine ⟨vs_m1 fun K K' h lv st σ g => ?_, ?_⟩
  · split at g
    · exact ⟨fun q => h _ _ _ _ (g.1 q), fun q => h _ _ _ _ (g.2 q)⟩
    · exact g
  intro p l e R s m args below meth c D tys ad A P ck cn Z C0 E0 lv st σ h H locs ls hl ho hs hP hS
  unfold vi_if at h
  split at h
  next x t => exact lv_if_gt C0.1 C0.2.1 hd ht (fun q => h.1 q H locs ls hl ho (vg_okt hs) hP hS) (fun q => h.2 q H locs ls hl ho (vg_okt hs) hP hS)
  next => exact h.elim
theorem vt_if_le {off : Int} {g : Nat} (hd : decode cc pc = .ok (.ifCond .le off, 3)) (ht : (pc : Int) + off = (g : Int)) (hn : pc + 3 = n) : vm_Snd bf tb tbx strs nw shp nm cl tyl cc nL own ret d pc (vi_if (fun x => x ≤ 0) g n) := by
  subst hn
  refine ⟨vs_m1 fun K K' h lv st σ g => ?_, ?_⟩
  · split at g
    · exact ⟨fun q => h _ _ _ _ (g.1 q), fun q => h _ _ _ _ (g.2 q)⟩
    · exact g
  intro p l e R s m args below meth c D tys ad A P ck cn Z C0 E0 lv st σ h H locs ls hl ho hs hP hS
  unfold vi_if at h
  split at h
  next x t => exact lv_if_le C0.1 C0.2.1 hd ht (fun q => h.1 q H locs ls hl ho (vg_okt hs) hP hS) (fun q => h.2 q H locs ls hl ho (vg_okt hs) hP hS)
  next => exact h.elim
theorem vt_cmp_eq {off : Int} {g : Nat} (hd : decode cc pc = .ok (.if_icmp .eq off, 3)) (ht : (pc : Int) + off = (g : Int)) (hn : pc + 3 = n) : vm_Snd bf tb tbx strs nw shp nm cl tyl cc nL own ret d pc (vi_cmp (fun x y => x = y) g n) := by
  subst hn
  refine ⟨vs_m1 fun K K' h lv st σ g => ?_, ?_⟩
  · split at g
    · exact ⟨fun q => h _ _ _ _ (g.1 q), fun q => h _ _ _ _ (g.2 q)⟩
    · exact g
  intro p l e R s m args below meth c D tys ad A P ck cn Z C0 E0 lv st σ h H locs ls hl ho hs hP hS
  unfold vi_cmp at h
  split at h
  next y x t => exact lv_icmp_eq C0.1 C0.2.1 hd ht (fun q => h.1 q H locs ls hl ho (vg_okt (vg_okt hs)) hP hS) (fun q => h.2 q H locs ls hl ho (vg_okt (vg_okt hs)) hP hS)
  next => exact h.elim
theorem vt_cmp_ne {off : Int} {g : Nat} (hd : decode cc pc = .ok (.if_icmp .ne off, 3)) (ht : (pc : Int) + off = (g : Int)) (hn : pc + 3 = n) : vm_Snd bf tb tbx strs nw shp nm cl tyl cc nL own ret d pc (vi_cmp (fun x y => x = y) n g) := by
  subst hn
  refine ⟨vs_m1 fun K K' h lv st σ g => ?_, ?_⟩
  · split at g
    · exact ⟨fun q => h _ _ _ _ (g.1 q), fun q => h _ _ _ _ (g.2 q)⟩
    · exact g
  intro p l e R s m args below meth c D tys ad A P ck cn Z C0 E0 lv st σ h H locs ls hl ho hs hP hS
  unfold vi_cmp at h
  split at h
  next y x t => exact lv_icmp_ne C0.1 C0.2.1 hd ht (fun q => h.2 q H locs ls hl ho (vg_okt (vg_okt hs)) hP hS) (fun q => h.1 q H locs ls hl ho (vg_okt (vg_okt hs)) hP hS)
  next => exact h.elim
theorem vt_cmp_lt {off : Int} {g : Nat} (hd : decode cc pc = .ok (.if_icmp .lt off, 3)) (ht : (pc : Int) + off = (g : Int)) (hn : pc + 3 = n) : vm_Snd bf tb tbx strs nw shp nm cl tyl cc nL own ret d pc (vi_cmp (fun x y => x < y) g n) := by
  subst hn
  refine ⟨vs_m1 fun K K' h lv st σ g => ?_, ?_⟩
  · split at g
    · exact ⟨fun q => h _ _ _ _ (g.1 q), fun q => h _ _ _ _ (g.2 q)⟩
    · exact g
  intro p l e R s m args below meth c D tys ad A P ck cn Z C0 E0 lv st σ h H locs ls hl ho hs hP hS
  unfold vi_cmp at h
  split at h
  next y x t => exact lv_icmp_lt C0.1 C0.2.1 hd ht (fun q => h.1 q H locs ls hl ho (vg_okt (vg_okt hs)) hP hS) (fun q => h.2 q H locs ls hl ho (vg_okt (vg_okt hs)) hP hS)
  next => exact h.elim
theorem vt_cmp_ge {off : Int} {g : Nat} (hd : decode cc pc = .ok (.if_icmp .ge off, 3)) (ht : (pc : Int) + off = (g : Int)) (hn : pc + 3 = n) : vm_Snd bf tb tbx strs nw shp nm cl tyl cc nL own ret d pc (vi_cmp (fun x y => y ≤ x) g n) := by
  subst hn
  refine ⟨vs_m1 fun K K' h lv st σ g => ?_, ?_⟩
  · split at g
    · exact ⟨fun q => h _ _ _ _ (g.1 q), fun q => h _ _ _ _ (g.2 q)⟩
    · exact g
  intro p l e R s m args below meth c D tys ad A P ck cn Z C0 E0 lv st σ h H locs ls hl ho hs hP hS
  unfold vi_cmp at h
  split at h
  next y x t => exact lv_icmp_ge C0.1 C0.2.1 hd ht (fun q => h.1 q H locs ls hl ho (vg_okt (vg_okt hs)) hP hS) (fun q => h.2 q H locs ls hl ho (vg_okt (vg_okt hs)) hP hS)
  next => exact h.elim
theorem vt_cmp_gt {off : Int} {g : Nat} (hd : decode cc pc = .ok (.if_icmp .gt off, 3)) (ht : (pc : Int) + off = (g : Int)) (hn : pc + 3 = n) : vm_Snd bf tb tbx strs nw shp nm cl tyl cc nL own ret d pc (vi_cmp (fun x y => y < x) g n) := by
  subst hn
  refine ⟨vs_m1 fun K K' h lv st σ g => ?_, ?_⟩
  · split at g
    · exact ⟨fun q => h _ _ _ _ (g.1 q), fun q => h _ _ _ _ (g.2 q)⟩
    · exact g
  intro p l e R s m args below meth c D tys ad A P ck cn Z C0 E0 lv st σ h H locs ls hl ho hs hP hS
  unfold vi_cmp at h
  split at h
  next y x t => exact lv_icmp_gt C0.1 C0.2.1 hd ht (fun q => h.1 q H locs ls hl ho (vg_okt (vg_okt hs)) hP hS) (fun q => h.2 q H locs ls hl ho (vg_okt (vg_okt hs)) hP hS)
  next => exact h.elim
theorem vt_cmp_le {off : Int} {g : Nat} (hd : decode cc pc = .ok (.if_icmp .le off, 3)) (ht : (pc : Int) + off = (g : Int)) (hn : pc + 3 = n) : vm_Snd bf tb tbx strs nw shp nm cl tyl cc nL own ret d pc (vi_cmp (fun x y => x ≤ y) g n) := by
  subst hn
  refine ⟨vs_m1 fun K K' h lv st σ g => ?_, ?_⟩
  · split at g
    · exact ⟨fun q => h _ _ _ _ (g.1 q), fun q => h _ _ _ _ (g.2 q)⟩
    · exact g
  intro p l e R s m args below meth c D tys ad A P ck cn Z C0 E0 lv st σ h H locs ls hl ho hs hP hS
  unfold vi_cmp at h
  split at h
  next y x t => exact lv_icmp_le C0.1 C0.2.1 hd ht (fun q => h.1 q H locs ls hl ho (vg_okt (vg_okt hs)) hP hS) (fun q => h.2 q H locs ls hl ho (vg_okt (vg_okt hs)) hP hS)
  next => exact h.elim
theorem vt_goto {off : Int} {g : Nat} (hd : decode cc pc = .ok (.goto off, 3)) (ht : (pc : Int) + off = (g : Int)) : vm_Snd bf tb tbx strs nw shp nm cl tyl cc nL own ret d pc (vi_goto g) := by
  refine ⟨vs_m1 fun K K' h lv st σ g => h _ _ _ _ g, ?_⟩
  intro p l e R s m args below meth c D tys ad A P ck cn Z C0 E0 lv st σ h H locs ls hl ho hs hP hS
  exact lv_goto C0.1 C0.2.1 hd ht (h H locs ls hl ho hs hP hS)
theorem vt_tsw {dflt hi : Int} {offs : Array Int} {len g : Nat} {cs : List (Int32 × Nat)} (hd : decode cc pc = .ok (.tableswitch dflt 0 hi offs, len)) (hg : (pc : Int) + dflt = (g : Int)) (hh : hi + 1 = (cs.length : Int))
    (hc : ∀ i : Nat, i < cs.length → ∃ q off, cs[i]? = some q ∧ offs[i]? = some off ∧ q.1.toInt = (i : Int) ∧ (pc : Int) + off = (q.2 : Int)) : vm_Snd bf tb tbx strs nw shp nm cl tyl cc nL own ret d pc (vi_sw cs g) := by
  refine ⟨vs_m1 fun K K' h lv st σ g => ?_, ?_⟩
  · split at g
    · exact vi_sw0_mono (h _ _ _ _) (f := fun q => K q lv _ σ) (f' := fun q => K' q lv _ σ) (fun q => h _ _ _ _) cs g
    · exact g
  intro p l e R s m args below meth c D tys ad A P ck cn Z C0 E0 lv st σ h H locs ls hl ho hs hP hS
  unfold vi_sw at h
  split at h
  next x t =>
    rcases vs_tsw0 (f := fun q => vm_X shp nm cl nL p l e R s m args below meth c D tys ad A ck cn Z q lv t σ) cs h with ⟨i, q, h1, h2, h3⟩ | ⟨h1, h2⟩
    · have hi := (List.getElem?_eq_some_iff.mp h1).1
      obtain ⟨q', off, e1, e2, e3, e4⟩ := hc i hi
      cases e1.symm.trans h1
      refine lv_tableIn C0.1 C0.2.1 hd (by rw [h2, e3]; omega) (by rw [h2, e3]; omega) (off := off) ?_ e4 (h3 H locs ls hl ho (vg_okt hs) hP hS)
      rw [h2, e3, Int.sub_zero, Int.toNat_natCast]
      exact e2
    · refine lv_tableOut C0.1 C0.2.1 hd ?_ hg (h2 H locs ls hl ho (vg_okt hs) hP hS)
      rcases Int.lt_or_le x.toInt 0 with z | z
      · exact Or.inl z
      · refine Or.inr (Int.not_le.mp fun y => ?_)
        have hi : x.toInt.toNat < cs.length := by omega
        obtain ⟨q', off, e1, e2, e3, e4⟩ := hc _ hi
        exact h1 _ q' e1 (Int32.toInt_inj.mp (by rw [e3]; omega))
  next => exact h.elim
theorem vt_dup (hd : decode cc pc = .ok (.dup, 1)) (hn : pc + 1 = n) : vm_Snd bf tb tbx strs nw shp nm cl tyl cc nL own ret d pc (vi_dup n) := by
  subst hn
  refine ⟨vs_m1 fun K K' h lv st σ g => ?_, ?_⟩
  · split at g
    · exact ⟨g.1, h _ _ _ _ g.2⟩
    · exact g
  intro p l e R s m args below meth c D tys ad A P ck cn Z C0 E0 lv st σ h H locs ls hl ho hs hP hS
  unfold vi_dup at h
  split at h
  next a t => exact lv_dup C0.1 C0.2.1 hd (vg_cat1 h.1) (h.2 H locs ls hl ho (vg_okc (vg_okh hs) hs) hP hS)
  next => exact h.elim
theorem vt_pop (hd : decode cc pc = .ok (.pop, 1)) (hn : pc + 1 = n) : vm_Snd bf tb tbx strs nw shp nm cl tyl cc nL own ret d pc (vi_pop n) := by
  subst hn
  refine ⟨vs_m1 fun K K' h lv st σ g => ?_, ?_⟩
  · split at g
    · exact ⟨g.1, h _ _ _ _ g.2⟩
    · exact g
  intro p l e R s m args below meth c D tys ad A P ck cn Z C0 E0 lv st σ h H locs ls hl ho hs hP hS
  unfold vi_pop at h
  split at h
  next a t => exact lv_pop C0.1 C0.2.1 hd (vg_cat1 h.1) (h.2 H locs ls hl ho (vg_okt hs) hP hS)
  next => exact h.elim
theorem vt_dup_x1 (hd : decode cc pc = .ok (.dup_x1, 1)) (hn : pc + 1 = n) : vm_Snd bf tb tbx strs nw shp nm cl tyl cc nL own ret d pc (vi_dupx1 n) := by
  subst hn
  refine ⟨vs_m1 fun K K' h lv st σ g => ?_, ?_⟩
  · split at g
    · exact ⟨g.1, h _ _ _ _ g.2⟩
    · exact g
  intro p l e R s m args below meth c D tys ad A P ck cn Z C0 E0 lv st σ h H locs ls hl ho hs hP hS
  unfold vi_dupx1 at h
  split at h
  next a b t => exact lv_dup_x1 C0.1 C0.2.1 hd (vg_cat1 h.1.1) (vg_cat1 h.1.2) (h.2 H locs ls hl ho (vg_okc (vg_okh hs) (vg_okc (vg_okh (vg_okt hs)) (vg_okc (vg_okh hs) (vg_okt (vg_okt hs))))) hP hS)
  next => exact h.elim
theorem vt_dup2 (hd : decode cc pc = .ok (.dup2, 1)) (hn : pc + 1 = n) : vm_Snd bf tb tbx strs nw shp nm cl tyl cc nL own ret d pc (vi_dup2 n) := by
  subst hn
  refine ⟨vs_m1 fun K K' h lv st σ g => ?_, ?_⟩
  · split at g
    · exact ⟨g.1, h _ _ _ _ g.2⟩
    · exact g
  intro p l e R s m args below meth c D tys ad A P ck cn Z C0 E0 lv st σ h H locs ls hl ho hs hP hS
  unfold vi_dup2 at h
  split at h
  next a b t => exact lv_dup2_11 C0.1 C0.2.1 hd (vg_cat1 h.1.1) (vg_cat1 h.1.2) (h.2 H locs ls hl ho (vg_okc (vg_okh hs) (vg_okc (vg_okh (vg_okt hs)) hs)) hP hS)
  next => exact h.elim
theorem vt_ireturn (hd : decode cc pc = .ok (.ireturn, 1)) (hr : ret = some .int) : vm_Snd bf tb tbx strs nw shp nm cl tyl cc nL own ret d pc vi_ret := by
  refine ⟨fun P K K' h lv st σ g => g, ?_⟩
  intro p l e R s m args below meth c D tys ad A P ck cn Z C0 E0 lv st σ h H locs ls hl ho hs hP hS
  unfold vi_ret at h
  split at h
  next x => exact E0.2.1 (some (.inl (.int x))) σ pc ls H locs h hP hS (Or.inl ⟨hd, hr⟩)
  next => exact h.elim
theorem vt_zreturn (hd : decode cc pc = .ok (.ireturn, 1)) (hr : ret = some .boolean) : vm_Snd bf tb tbx strs nw shp nm cl tyl cc nL own ret d pc vi_retZ := by
  refine ⟨fun P K K' h lv st σ g => g, ?_⟩
  intro p l e R s m args below meth c D tys ad A P ck cn Z C0 E0 lv st σ h H locs ls hl ho hs hP hS
  unfold vi_retZ at h
  split at h
  next x => exact E0.2.1 (some (.inl (.int x))) σ pc ls H locs h.2 hP hS (Or.inr ⟨hd, hr, h.1⟩)
  next => exact h.elim
theorem vt_lreturn (hd : decode cc pc = .ok (.lreturn, 1)) (hr : ret = some .long) : vm_Snd bf tb tbx strs nw shp nm cl tyl cc nL own ret d pc vi_retL := by
  refine ⟨fun P K K' h lv st σ g => g, ?_⟩
  intro p l e R s m args below meth c D tys ad A P ck cn Z C0 E0 lv st σ h H locs ls hl ho hs hP hS
  unfold vi_retL at h
  split at h
  next x => exact E0.2.1 (some (.inl (.long x))) σ pc ls H locs h hP hS ⟨hd, hr⟩
  next => exact h.elim
theorem vt_return (hd : decode cc pc = .ok (.return_, 1)) (hr : ret = none) : vm_Snd bf tb tbx strs nw shp nm cl tyl cc nL own ret d pc vi_retV := by
  refine ⟨fun P K K' h lv st σ g => g, ?_⟩
  intro p l e R s m args below meth c D tys ad A P ck cn Z C0 E0 lv st σ h H locs ls hl ho hs hP hS
  unfold vi_retV at h
  split at h
  next => exact E0.2.1 none σ pc ls H locs h hP hS ⟨hd, hr⟩
  next => exact h.elim
end VT
section VT2
variable {bf : Bool} {tb tbx : List Cond} {strs : List (String × Nat × String)} {nw : List (String × Nat × MethodName × String)} {shp : vgN → vgH} {nm : List vgN} {cl : List vw_C} {tyl : List FieldType} {cc : ByteArray} {nL : Nat} {own : String} {ret : Option FieldType} {d pc n : Nat}

theorem vt_getfield {ci k ix : Nat} {C : String} {T : u_T} {N : Nat} (hd : decode cc pc = .ok (.getfield ix, 3)) (hc : cl[ci]? = some (C, T, N)) (hk : k < N) (hin : ∀ w ∈ u_ws C T N, w ∈ tb) (hw : Cond.fieldLink own ix (T k).1 (T k).2.1 (T k).2.2.1 ∈ tb) (hn : pc + 3 = n) : vm_Snd bf tb tbx strs nw shp nm cl tyl cc nL own ret d pc (vi_get shp ci k n) := by
  subst hn
  refine ⟨vs_m1 fun K K' h lv st σ g => ?_, ?_⟩
  · split at g
    · split at g
      next q _ =>
        cases hb : Nat.beq q.1 ci with
        | false => rw [hb] at g; exact g.elim
        | true =>
          rw [hb] at g
          show (match vg_nth q.2 k with | some none => _ | some (some z) => _ | none => False)
          have g' : (match vg_nth q.2 k with | some none => _ | some (some z) => _ | none => False) := g
          split at g'
          · exact h _ _ _ _ g'
          · exact h _ _ _ _ g'
          · exact g'
      next => exact g
    · exact g
  intro p l e R s m args below meth c D tys ad A P ck cn Z C0 E0 lv st σ h H locs ls hl ho hs hP hS
  unfold vi_get at h
  split at h
  next m0 t =>
    split at h
    next q hq =>
      cases hb : Nat.beq q.1 ci with
      | false => rw [hb] at h; exact h.elim
      | true =>
        rw [hb] at h
        have e : q.1 = ci := Nat.eq_of_beq_eq_true hb
        have h' : (match vg_nth q.2 k with | some none => _ | some (some z) => _ | none => False) := h
        obtain ⟨q0, hq0, hws⟩ := vg_ws_get (shp := shp) (ad := ad) (tys := tys) (σ := σ) (show m0 ∈ nm from vg_okh hs)
        rw [hq] at hws
        have hws2 : (vg_ws shp nm ad tys σ)[q0]? = some (ad m0, .inr (ci, vg_fs ad (σ m0) 0 q.2)) := by rw [hws]; show some (ad m0, Sum.inr (q.1, _)) = _; rw [e]
        have hg := vg_fs_get ad (σ m0) q.2 0 k
        rw [← vg_nth_eq, Nat.zero_add] at hg
        split at h'
        next hz =>
          rw [hz] at hg
          exact va_get (D := D) C0.1 C0.2.1 C0.2.2.2.2.1 hin C0.2.2.2.1 C0.2.2.2.2.2.1 hP q0 hws2 hc k hk (C0.2.2.2.2.1 _ hw) (fun _ z => z) hg hd (h' H locs ls hl ho (vg_okc trivial (vg_okt hs)) hP hS)
        next z hz =>
          rw [hz] at hg
          have hcl := C0.2.2.2.2.2.2.2.2.2.2.2.2.1 m0 (vg_okh hs)
          rw [hq] at hcl
          have hm : z ∈ nm := hcl z (by rw [vg_nth_eq] at hz; exact List.mem_of_getElem? hz)
          exact va_get (D := D) C0.1 C0.2.1 C0.2.2.2.2.1 hin C0.2.2.2.1 C0.2.2.2.2.2.1 hP q0 hws2 hc k hk (C0.2.2.2.2.1 _ hw) (fun _ z => z) hg hd (h' H locs ls hl ho (vg_okc hm (vg_okt hs)) hP hS)
        next => exact h'.elim
    next => exact h.elim
  next => exact h.elim
theorem vt_putfield {ci k ix : Nat} {C : String} {T : u_T} {N : Nat} (ty0 : Nat → FieldType) (hd : decode cc pc = .ok (.putfield ix, 3)) (hc : cl[ci]? = some (C, T, N)) (hk : k < N) (hin : ∀ w ∈ u_ws C T N, w ∈ tb) (hty : ∀ k, k < N → parseFieldDescriptor (T k).2.2.1 = some (ty0 k)) (hnm : ∀ a, a < N → ∀ b, b < N → a ≠ b → (T a).2.1 ≠ (T b).2.1) (hfin : (T k).2.2.2 = false) (hti : ty0 k = .int)
    (hw : Cond.fieldLink own ix (T k).1 (T k).2.1 (T k).2.2.1 ∈ tb) (hn : pc + 3 = n) : vm_Snd bf tb tbx strs nw shp nm cl tyl cc nL own ret d pc (vi_put shp ci k n) := by
  subst hn
  refine ⟨vs_m1 fun K K' h lv st σ g => ?_, ?_⟩
  · split at g
    · split at g
      next q _ =>
        cases hb : Nat.beq q.1 ci with
        | false => rw [hb] at g; exact g.elim
        | true =>
          rw [hb] at g
          show (match vg_nth q.2 k with | some none => _ | _ => False)
          have g' : (match vg_nth q.2 k with | some none => _ | _ => False) := g
          split at g'
          · exact h _ _ _ _ g'
          · exact g'
      next => exact g
    · exact g
  intro p l e R s m args below meth c D tys ad A P ck cn Z C0 E0 lv st σ h H locs ls hl ho hs hP hS
  unfold vi_put at h
  split at h
  next x m0 t =>
    split at h
    next q hq =>
      cases hb : Nat.beq q.1 ci with
      | false => rw [hb] at h; exact h.elim
      | true =>
        rw [hb] at h
        have e : q.1 = ci := Nat.eq_of_beq_eq_true hb
        have h' : (match vg_nth q.2 k with | some none => _ | _ => False) := h
        obtain ⟨q0, hq0, hws⟩ := vg_ws_get (shp := shp) (ad := ad) (tys := tys) (σ := σ) (show m0 ∈ nm from vg_okh (vg_okt hs))
        rw [hq] at hws
        have hws2 : (vg_ws shp nm ad tys σ)[q0]? = some (ad m0, .inr (ci, vg_fs ad (σ m0) 0 q.2)) := by rw [hws]; show some (ad m0, Sum.inr (q.1, _)) = _; rw [e]
        have hDA := C0.2.2.2.2.2.2.2.2.2.2.2.1
        split at h'
        next hz =>
          rw [vg_nth_eq] at hz
          have hl2 : k < q.2.length := (List.getElem?_eq_some_iff.mp hz).1
          refine va_put (D := D) (A := A) C0.1 C0.2.1 C0.2.2.2.2.1 hin ty0 hty hnm C0.2.2.2.1 C0.2.2.2.2.2.1 hP (hDA σ) hS q0 hws2 hc k hk (C0.2.2.2.2.1 _ hw) (fun _ z => z) hfin (ty := .int) (v := .int x) (by rw [hty k hk, hti]) rfl rfl (by rw [vg_fs_len]; exact hl2) hd (fun H1 locs1 hP1 _ hS1 => ?_)
          rw [vg_put_ws (hDA σ) hq0 (by rw [hq, ← e]) hz] at hP1
          exact h' H1 locs1 ls hl ho (vg_okt (vg_okt hs)) hP1 hS1
        next => exact h'.elim
    next => exact h.elim
  next => exact h.elim
theorem vt_putfieldZ {ci k ix : Nat} {C : String} {T : u_T} {N : Nat} (ty0 : Nat → FieldType) (hd : decode cc pc = .ok (.putfield ix, 3)) (hc : cl[ci]? = some (C, T, N)) (hk : k < N) (hin : ∀ w ∈ u_ws C T N, w ∈ tb) (hty : ∀ k, k < N → parseFieldDescriptor (T k).2.2.1 = some (ty0 k)) (hnm : ∀ a, a < N → ∀ b, b < N → a ≠ b → (T a).2.1 ≠ (T b).2.1) (hfin : (T k).2.2.2 = false) (hti : ty0 k = .boolean)
    (hw : Cond.fieldLink own ix (T k).1 (T k).2.1 (T k).2.2.1 ∈ tb) (hn : pc + 3 = n) : vm_Snd bf tb tbx strs nw shp nm cl tyl cc nL own ret d pc (vi_putZ shp ci k n) := by
  subst hn
  refine ⟨vs_m1 fun K K' h lv st σ g => ?_, ?_⟩
  · split at g
    · split at g
      next q _ =>
        cases hb : Nat.beq q.1 ci with
        | false => rw [hb] at g; exact g.elim
        | true =>
          rw [hb] at g
          show (match vg_nth q.2 k with | some none => _ | _ => False)
          have g' : (match vg_nth q.2 k with | some none => _ | _ => False) := g
          split at g'
          · exact ⟨g'.1, h _ _ _ _ g'.2⟩
          · exact g'
      next => exact g
    · exact g
  intro p l e R s m args below meth c D tys ad A P ck cn Z C0 E0 lv st σ h H locs ls hl ho hs hP hS
  unfold vi_putZ at h
  split at h
  next x m0 t =>
    split at h
    next q hq =>
      cases hb : Nat.beq q.1 ci with
      | false => rw [hb] at h; exact h.elim
      | true =>
        rw [hb] at h
        have e : q.1 = ci := Nat.eq_of_beq_eq_true hb
        have h' : (match vg_nth q.2 k with | some none => _ | _ => False) := h
        obtain ⟨q0, hq0, hws⟩ := vg_ws_get (shp := shp) (ad := ad) (tys := tys) (σ := σ) (show m0 ∈ nm from vg_okh (vg_okt hs))
        rw [hq] at hws
        have hws2 : (vg_ws shp nm ad tys σ)[q0]? = some (ad m0, .inr (ci, vg_fs ad (σ m0) 0 q.2)) := by rw [hws]; show some (ad m0, Sum.inr (q.1, _)) = _; rw [e]
        have hDA := C0.2.2.2.2.2.2.2.2.2.2.2.1
        split at h'
        next hz =>
          rw [vg_nth_eq] at hz
          have hl2 : k < q.2.length := (List.getElem?_eq_some_iff.mp hz).1
          refine va_put (D := D) (A := A) C0.1 C0.2.1 C0.2.2.2.2.1 hin ty0 hty hnm C0.2.2.2.1 C0.2.2.2.2.2.1 hP (hDA σ) hS q0 hws2 hc k hk (C0.2.2.2.2.1 _ hw) (fun _ z => z) hfin (ty := .boolean) (v := .int x) (by rw [hty k hk, hti]) (by rcases h'.1 with rfl | rfl <;> rfl) (by rcases h'.1 with rfl | rfl <;> rfl) (by rw [vg_fs_len]; exact hl2) hd (fun H1 locs1 hP1 _ hS1 => ?_)
          rw [vg_put_ws (hDA σ) hq0 (by rw [hq, ← e]) hz] at hP1
          exact h'.2 H1 locs1 ls hl ho (vg_okt (vg_okt hs)) hP1 hS1
        next => exact h'.elim
    next => exact h.elim
  next => exact h.elim
theorem vt_iaload {t0 : Nat} (hd : decode cc pc = .ok (.iaload, 1)) (ht : tyl[t0]? = some .int) (hn : pc + 1 = n) : vm_Snd bf tb tbx strs nw shp nm cl tyl cc nL own ret d pc (vi_ald shp t0 n) := by
  subst hn
  refine ⟨vs_m1 fun K K' h lv st σ g => ?_, ?_⟩
  · split at g
    · split at g
      next q _ =>
        cases hb : Nat.beq q.1 t0 with
        | false => rw [hb] at g; exact g.elim
        | true =>
          rw [hb] at g
          exact ⟨g.1, h _ _ _ _ g.2⟩
      next => exact g
    · exact g
  intro p l e R s m args below meth c D tys ad A P ck cn Z C0 E0 lv st σ h H locs ls hl ho hs hP hS
  unfold vi_ald at h
  split at h
  next i m0 t =>
    split at h
    next q hq =>
      cases hb : Nat.beq q.1 t0 with
      | false => rw [hb] at h; exact h.elim
      | true =>
        rw [hb] at h
        have e : q.1 = t0 := Nat.eq_of_beq_eq_true hb
        obtain ⟨q0, hq0, hws⟩ := vg_ws_get (shp := shp) (ad := ad) (tys := tys) (σ := σ) (show m0 ∈ nm from vg_okh (vg_okt hs))
        rw [hq] at hws
        exact va_iald (D := D) C0.1 C0.2.1 C0.2.2.2.2.2.1 hP q0 t0 (by rw [← e]; exact hws) (vg_tys C0.2.2.2.2.2.2.1 ht) h.1 hd (h.2 H locs ls hl ho (vg_okc trivial (vg_okt (vg_okt hs))) hP hS)
    next => exact h.elim
  next => exact h.elim
theorem vt_zaload {t0 : Nat} (hd : decode cc pc = .ok (.baload, 1)) (ht : tyl[t0]? = some .boolean) (hn : pc + 1 = n) : vm_Snd bf tb tbx strs nw shp nm cl tyl cc nL own ret d pc (vi_ald shp t0 n) := by
  subst hn
  refine ⟨vs_m1 fun K K' h lv st σ g => ?_, ?_⟩
  · split at g
    · split at g
      next q _ =>
        cases hb : Nat.beq q.1 t0 with
        | false => rw [hb] at g; exact g.elim
        | true =>
          rw [hb] at g
          exact ⟨g.1, h _ _ _ _ g.2⟩
      next => exact g
    · exact g
  intro p l e R s m args below meth c D tys ad A P ck cn Z C0 E0 lv st σ h H locs ls hl ho hs hP hS
  unfold vi_ald at h
  split at h
  next i m0 t =>
    split at h
    next q hq =>
      cases hb : Nat.beq q.1 t0 with
      | false => rw [hb] at h; exact h.elim
      | true =>
        rw [hb] at h
        have e : q.1 = t0 := Nat.eq_of_beq_eq_true hb
        obtain ⟨q0, hq0, hws⟩ := vg_ws_get (shp := shp) (ad := ad) (tys := tys) (σ := σ) (show m0 ∈ nm from vg_okh (vg_okt hs))
        rw [hq] at hws
        exact va_zald (D := D) C0.1 C0.2.1 C0.2.2.2.2.2.1 hP q0 t0 (by rw [← e]; exact hws) (vg_tys C0.2.2.2.2.2.2.1 ht) h.1 hd (h.2 H locs ls hl ho (vg_okc trivial (vg_okt (vg_okt hs))) hP hS)
    next => exact h.elim
  next => exact h.elim
theorem vt_iastore {t0 : Nat} (hd : decode cc pc = .ok (.iastore, 1)) (ht : tyl[t0]? = some .int) (hn : pc + 1 = n) : vm_Snd bf tb tbx strs nw shp nm cl tyl cc nL own ret d pc (vi_ast shp t0 n) := by
  subst hn
  refine ⟨vs_m1 fun K K' h lv st σ g => ?_, ?_⟩
  · split at g
    · split at g
      next q _ =>
        cases hb : Nat.beq q.1 t0 with
        | false => rw [hb] at g; exact g.elim
        | true =>
          rw [hb] at g
          exact ⟨g.1, h _ _ _ _ g.2⟩
      next => exact g
    · exact g
  intro p l e R s m args below meth c D tys ad A P ck cn Z C0 E0 lv st σ h H locs ls hl ho hs hP hS
  unfold vi_ast at h
  split at h
  next x i m0 t =>
    split at h
    next q hq =>
      cases hb : Nat.beq q.1 t0 with
      | false => rw [hb] at h; exact h.elim
      | true =>
        rw [hb] at h
        have e : q.1 = t0 := Nat.eq_of_beq_eq_true hb
        obtain ⟨q0, hq0, hws⟩ := vg_ws_get (shp := shp) (ad := ad) (tys := tys) (σ := σ) (show m0 ∈ nm from vg_okh (vg_okt (vg_okt hs)))
        rw [hq] at hws
        have hDA := C0.2.2.2.2.2.2.2.2.2.2.2.1
        refine va_iast (D := D) (A := A) C0.1 C0.2.1 C0.2.2.2.2.2.1 hP (hDA σ) hS q0 t0 (by rw [← e]; exact hws) (vg_tys C0.2.2.2.2.2.2.1 ht) h.1 hd (fun H1 locs1 hP1 _ hS1 => ?_)
        rw [vg_ast_ws (hDA σ) hq0 (by rw [hq, ← e])] at hP1
        exact h.2 H1 locs1 ls hl ho (vg_okt (vg_okt (vg_okt hs))) hP1 hS1
    next => exact h.elim
  next => exact h.elim
theorem vt_zastore {t0 : Nat} (hd : decode cc pc = .ok (.bastore, 1)) (ht : tyl[t0]? = some .boolean) (hn : pc + 1 = n) : vm_Snd bf tb tbx strs nw shp nm cl tyl cc nL own ret d pc (vi_astZ shp t0 n) := by
  subst hn
  refine ⟨vs_m1 fun K K' h lv st σ g => ?_, ?_⟩
  · split at g
    · split at g
      next q _ =>
        cases hb : Nat.beq q.1 t0 with
        | false => rw [hb] at g; exact g.elim
        | true =>
          rw [hb] at g
          exact ⟨g.1, h _ _ _ _ g.2⟩
      next => exact g
    · exact g
  intro p l e R s m args below meth c D tys ad A P ck cn Z C0 E0 lv st σ h H locs ls hl ho hs hP hS
  unfold vi_astZ at h
  split at h
  next x i m0 t =>
    split at h
    next q hq =>
      cases hb : Nat.beq q.1 t0 with
      | false => rw [hb] at h; exact h.elim
      | true =>
        rw [hb] at h
        have e : q.1 = t0 := Nat.eq_of_beq_eq_true hb
        obtain ⟨q0, hq0, hws⟩ := vg_ws_get (shp := shp) (ad := ad) (tys := tys) (σ := σ) (show m0 ∈ nm from vg_okh (vg_okt (vg_okt hs)))
        rw [hq] at hws
        have hDA := C0.2.2.2.2.2.2.2.2.2.2.2.1
        refine va_zast (D := D) (A := A) C0.1 C0.2.1 C0.2.2.2.2.2.1 hP (hDA σ) hS q0 t0 (by rw [← e]; exact hws) (vg_tys C0.2.2.2.2.2.2.1 ht) h.1.1 hd (fun H1 locs1 hP1 _ hS1 => ?_)
        have hx : vp_nar .boolean x = x := by rcases h.1.2 with rfl | rfl <;> rfl
        rw [hx, vg_ast_ws (hDA σ) hq0 (by rw [hq, ← e])] at hP1
        exact h.2 H1 locs1 ls hl ho (vg_okt (vg_okt (vg_okt hs))) hP1 hS1
    next => exact h.elim
  next => exact h.elim
theorem vt_aaload {t0 : Nat} {C : String} (hd : decode cc pc = .ok (.aaload, 1)) (ht : tyl[t0]? = some (.object C)) (hn : pc + 1 = n) : vm_Snd bf tb tbx strs nw shp nm cl tyl cc nL own ret d pc (vi_aald shp t0 n) := by
  subst hn
  refine ⟨vs_m1 fun K K' h lv st σ g => ?_, ?_⟩
  · split at g
    · split at g
      next q _ =>
        cases hb : Nat.beq q.1 t0 with
        | false => rw [hb] at g; exact g.elim
        | true =>
          rw [hb] at g
          exact ⟨g.1, h _ _ _ _ g.2⟩
      next => exact g
    · exact g
  intro p l e R s m args below meth c D tys ad A P ck cn Z C0 E0 lv st σ h H locs ls hl ho hs hP hS
  unfold vi_aald at h
  split at h
  next i m0 t =>
    split at h
    next q hq =>
      cases hb : Nat.beq q.1 t0 with
      | false => rw [hb] at h; exact h.elim
      | true =>
        rw [hb] at h
        have e : q.1 = t0 := Nat.eq_of_beq_eq_true hb
        obtain ⟨q0, hq0, hws⟩ := vg_ws_get (shp := shp) (ad := ad) (tys := tys) (σ := σ) (show m0 ∈ nm from vg_okh (vg_okt hs))
        rw [hq] at hws
        have hcl := C0.2.2.2.2.2.2.2.2.2.2.2.2.1 m0 (vg_okh (vg_okt hs))
        rw [hq] at hcl
        have hm : q.2.2 i.toNatClampNeg ∈ nm := hcl _ (Nat.not_le.mp fun z => h.1 (Or.inr z))
        exact va_aldq (D := D) C0.1 C0.2.1 C0.2.2.2.2.2.1 hP q0 t0 (f := fun i => some (ad (q.2.2 i))) (by rw [← e]; exact hws) (vg_tys C0.2.2.2.2.2.2.1 ht) h.1 hd (h.2 H locs ls hl ho (vg_okc hm (vg_okt (vg_okt hs))) hP hS)
    next => exact h.elim
  next => exact h.elim
theorem vt_acopy {t0 ix : Nat} (hd : decode cc pc = .ok (.invokestatic ix, 3)) (ht : tyl[t0]? = some .int) (h1 : Cond.methodLink own ix arraycopyName ∈ tb) (h2 : Cond.native arraycopyName ∈ tb) (h3 : Cond.static arraycopyName ∈ tb) (h4 : Cond.initialized "java/lang/System" ∈ tb) (hdd : 1 ≤ d) (hn : pc + 3 = n) : vm_Snd bf tb tbx strs nw shp nm cl tyl cc nL own ret d pc (vi_cpy shp t0 n) := by
  subst hn
  refine ⟨vs_m1 fun K K' h lv st σ g => ?_, ?_⟩
  · split at g
    · split at g
      next q r _ _ =>
        cases hb : Nat.beq q.1 t0 && Nat.beq r.1 t0 && Nat.ble (vg_wd _) 8 with
        | false => rw [hb] at g; exact g.elim
        | true =>
          rw [hb] at g
          exact ⟨g.1, h _ _ _ _ g.2⟩
      next => exact g
    · exact g
  intro p l e R s m args below meth c D tys ad A P ck cn Z C0 E0 lv st σ h H locs ls hl ho hs hP hS
  have hts := C0.2.2.2.2.1
  unfold vi_cpy at h
  split at h
  next len dp dn sp mn t =>
    split at h
    next q r hq hr =>
      cases hb : Nat.beq q.1 t0 && Nat.beq r.1 t0 && Nat.ble (vg_wd t) 8 with
      | false => rw [hb] at h; exact h.elim
      | true =>
        rw [hb] at h
        simp only [Bool.and_eq_true] at hb
        have e : q.1 = t0 := Nat.eq_of_beq_eq_true hb.1.1
        have e' : r.1 = t0 := Nat.eq_of_beq_eq_true hb.1.2
        have hwd : vg_wd t ≤ 8 := Nat.le_of_ble_eq_true hb.2
        obtain ⟨⟨rfl, rfl, hlen, hl1, hl2⟩, hk⟩ := h
        obtain ⟨q0, hq0, hws⟩ := vg_ws_get (shp := shp) (ad := ad) (tys := tys) (σ := σ) (show mn ∈ nm from vg_okh (vg_okt (vg_okt (vg_okt (vg_okt hs)))))
        obtain ⟨q1, hq1, hws1⟩ := vg_ws_get (shp := shp) (ad := ad) (tys := tys) (σ := σ) (show dn ∈ nm from vg_okh (vg_okt (vg_okt hs)))
        rw [hq] at hws
        rw [hr] at hws1
        have hDA := C0.2.2.2.2.2.2.2.2.2.2.2.1
        have hR := C0.2.2.2.2.2.2.2.2.2.1
        have z0 : (0 : Int32).toNatClampNeg = 0 := by decide
        refine va_copyi (D := D) (A := A) C0.1 C0.2.1 (C0.2.2.1.trans hl.1.symm) C0.2.2.2.1 (hts _ h1) (hts _ h2) (hts _ h3) (hts _ h4) C0.2.2.2.2.2.1 hP (hDA σ) hS q0 q1 t0 t0 (by rw [← e]; exact hws) (by rw [← e']; exact hws1) (vg_tys C0.2.2.2.2.2.2.1 ht) (vg_tys C0.2.2.2.2.2.2.1 ht) rfl (by decide) (by decide) hlen (by rw [z0, Nat.zero_add]; exact hl1) (by rw [z0, Nat.zero_add]; exact hl2) (fun _ _ => rfl) (by omega) ?_ hd (fun H1 locs1 hP1 _ hS1 => ?_)
        · rw [vg_wd_sum]
          have : nativeFrameWords "java/lang/System" "arraycopy" 5 + 11 ≤ 24 := by decide
          omega
        · have e9 : (vg_ws shp nm ad tys σ).set q1 (ad dn, .inl (vg_ty tys t0, r.2, .inl (va_cpy (σ mn) (σ dn) (0 : Int32).toNatClampNeg (0 : Int32).toNatClampNeg len.toNatClampNeg))) = vg_ws shp nm ad tys (vg_cp σ mn dn len.toNatClampNeg) := by
            refine vg_ws_set (hDA σ) hq1 ?_ (fun n' hn' => ?_)
            · rw [hr]
              show _ = Sum.inl (vg_ty tys r.1, r.2, Sum.inl (vg_cp σ mn dn len.toNatClampNeg dn))
              rw [e', z0]
              congr 4
              funext j
              unfold va_cpy vg_cp
              simp
            · funext j
              unfold vg_cp
              simp [hn']
          rw [e9] at hP1
          exact hk H1 locs1 ls hl ho (vg_okt (vg_okt (vg_okt (vg_okt (vg_okt hs))))) hP1 hS1
    next => exact h.elim
  next => exact h.elim
end VT2
section VT3
variable {p : Program} {l : Launch} {e : Env} {R : Room} {s : State} {m : MethodId} {args : Array Value} {below : List Frame} {meth : Method} {c : Code} {H : Heap} {locs : List Loc} {Q : State → Prop} {ck cn : Nat}
variable {bf : Bool} {tb tbx : List Cond} {strs : List (String × Nat × String)} {nw : List (String × Nat × MethodName × String)} {shp : vgN → vgH} {nm : List vgN} {cl : List vw_C} {tyl : List FieldType} {cc : ByteArray} {nL : Nat} {own : String} {ret : Option FieldType} {d pc n : Nat}

theorem vm_callK {D : va_G} {tys : List (ClassId × FieldType)} {ad : vgN → Nat} {A A1 : Nat → Prop} {P : vgO} {a : Array Value} {ls : Array Slot} {st0 rest : List Value}
    (hr : va_Run p l e R s m args below meth c H locs ck cn 0 0 (F0 m pc ls st0) rest (vg_Q shp nm cl D tys ad A1 P a) A1) (hS : va_S A s.heap H locs) (hA : ∀ q, A1 q → A q)
    (kk : ∀ (r : Option vgV) (σ : vgS) (H1 : Heap) (locs1 : List Loc), P r σ → (∀ v, r = some v → vg_ok nm v) → va_P D cl (vg_ws shp nm ad tys σ) H1 → va_S A s.heap H1 locs1 → W p l e R s m args below meth c H1 locs1 ck cn Q (F0 m (pc + 3) ls ((r.map (vg_cv ad)).toList ++ rest))) : W p l e R s m args below meth c H locs ck cn Q (F0 m pc ls st0) := by
  intro T hT X
  obtain ⟨v, st₀, t, T', L, h0, X', hL, e1, e2, ⟨⟨r, σ', hv, hp, hok, hP1⟩, hz, hk⟩, st⟩ := hr T hT X
  cases hv
  rw [h0] at hz hk
  obtain ⟨t2, a1, b1⟩ := kk r σ' T'.heap (locs ++ L) hp hok (by rw [e1]; exact hP1)
    ⟨Nat.le_trans hS.1 (by rw [e1]; exact hz), fun q h1 h2 => by rw [e1, hk q (Nat.lt_of_lt_of_le h1 hS.1) (fun z => h2 (hA q z))]; exact hS.2.1 q h1 h2, fun q hq => by
      rcases List.mem_append.mp hq with h | h
      · exact hS.2.2 q h
      · exact hA _ (hL q h)⟩ T' rfl X'
  exact ⟨t2, st t2 a1, b1⟩
theorem vm_callB {y : MethodName} {bytes : ByteArray} {mL k ix d' : Nat} {rt : Option FieldType} (hts : ∀ w ∈ tb, w.before args s = true) (hG : tb.all goodWord = true) (hcw : Cond.code y bytes mL rt ∈ tb) (hini : Cond.initialized y.cls ∈ tb) (hl : Cond.methodLink own ix y ∈ tb)
    (hd : y.cls ≠ "java/lang/invoke/MethodHandle" ∧ y.cls ≠ "java/lang/invoke/VarHandle" ∧ (parseMethodDescriptor y.desc).map (fun d => d.parameters.length) = some k) (hRR : d ≤ R.frames ∧ 32 * d ≤ R.locals) (hR : d' + 1 ≤ d ∧ mL ≤ 13) : CallB R s args own ix y bytes mL rt (.code y bytes mL rt :: tb) (vg_rm d') 0 0 k := by
  have hg : ∀ w ∈ tb, goodWord w = true := fun w h => List.all_eq_true.mp hG w h
  refine callB_of k hts (fun w hw => ?_) rfl rfl rfl (hts _ hini) (hts _ hl) hd ⟨Nat.le_trans hR.1 hRR.1, ?_⟩
  · rcases List.mem_cons.mp hw with rfl | hw
    · exact ⟨hcw, good_of_word (hg _ hcw)⟩
    · exact ⟨hw, good_of_word (hg _ hw)⟩
  · show 8 + (mL + 11) + 32 * d' ≤ R.locals
    omega
theorem vt_callV {ci k ix : Nat} {C : String} {T : u_T} {N : Nat} {y : MethodName} {bytes : ByteArray} {mL d' : Nat} {rt : Option FieldType} {sp : vgC} (hM : vg_MetF tb nw shp nm cl tyl y bytes mL rt d' sp) (hd : decode cc pc = .ok (.invokevirtual ix, 3)) (hc : cl[ci]? = some (C, T, N))
    (hG : tb.all goodWord = true) (hcw : Cond.code y bytes mL rt ∈ tb) (hini : Cond.initialized C ∈ tb) (hl : Cond.methodLink own ix y ∈ tb) (hi : Cond.instanceMethod y ∈ tb) (hse : Cond.selects C y y ∈ tb)
    (hy : y.cls = C ∧ y.cls ≠ "java/lang/invoke/MethodHandle" ∧ y.cls ≠ "java/lang/invoke/VarHandle" ∧ (parseMethodDescriptor y.desc).map (fun d => d.parameters.length) = some k) (hR : d' + 1 ≤ d ∧ mL ≤ 13) (hn : pc + 3 = n) : vm_Snd bf tb tbx strs nw shp nm cl tyl cc nL own ret d pc (vi_callV shp ci sp k n) := by
  subst hn
  refine ⟨vs_m1 fun K K' h lv st σ g => ?_, ?_⟩
  · split at g
    · split at g
      next o _ =>
        cases hb : Nat.beq o.1 ci && Nat.ble (vg_wd _) 8 with
        | false => rw [hb] at g; exact g.elim
        | true =>
          rw [hb] at g
          have g2 : (sp _ σ).1 ∧ vg_k K (pc + 3) lv _ (sp _ σ).2.1 (sp _ σ).2.2 := g
          show (sp _ σ).1 ∧ vg_k K' (pc + 3) lv _ (sp _ σ).2.1 (sp _ σ).2.2
          exact ⟨g2.1, vg_k_mono h g2.2⟩
      next => exact g
    · exact g
  intro p l e R s m args below meth c D tys ad A P ck cn Z C0 E0 lv st σ h H locs ls hl0 ho hs hP hS
  unfold vi_callV at h
  split at h
  next m0 as t hpop =>
    split at h
    next o ho0 =>
      cases hb : Nat.beq o.1 ci && Nat.ble (vg_wd t) 8 with
      | false => rw [hb] at h; exact h.elim
      | true =>
        rw [hb] at h
        simp only [Bool.and_eq_true] at hb
        have e : o.1 = ci := Nat.eq_of_beq_eq_true hb.1
        have hwd : vg_wd t ≤ 8 := Nat.le_of_ble_eq_true hb.2
        have h2 : (sp (.inr m0 :: as) σ).1 ∧ vg_k _ (pc + 3) lv t (sp (.inr m0 :: as) σ).2.1 (sp (.inr m0 :: as) σ).2.2 := h
        obtain ⟨hpre, hk⟩ := h2
        obtain ⟨hx, hcb, hml, hown, hts, hK, hty, hr, hlocks, hRR, hA, hDA, hclo, hnw⟩ := C0
        obtain ⟨e1, e2⟩ := vg_pop_eq _ _ _ _ _ hpop
        have hst : st = (Sum.inr m0 :: as : vgT).reverse ++ t := by rw [e1]; rfl
        have hav : ∀ v ∈ (Sum.inr m0 :: as : vgT), vg_ok nm v := fun v hv => hs v (by rw [hst]; exact List.mem_append_left _ (List.mem_reverse.mpr hv))
        have ht : ∀ v ∈ t, vg_ok nm v := fun v hv => hs v (by rw [hst]; exact List.mem_append_right _ hv)
        have hlen : as.length = k := by simp at e2; omega
        have hm0 : m0 ∈ nm := hav _ List.mem_cons_self
        obtain ⟨q0, hq0, hws⟩ := vg_ws_get (shp := shp) (ad := ad) (tys := tys) (σ := σ) hm0
        rw [ho0] at hws
        have hws2 : (vg_ws shp nm ad tys σ)[q0]? = some (ad m0, .inr (ci, vg_fs ad (σ m0) 0 o.2)) := by rw [hws]; show some (ad m0, Sum.inr (o.1, _)) = _; rw [e]
        have hstk : st.map (vg_cv ad) = (as.map (vg_cv ad)).reverse ++ .ref (ad m0) :: t.map (vg_cv ad) := by rw [hst]; simp [vg_cv]
        have cw : CallW R s args own C ix y bytes mL rt (.code y bytes mL rt :: tb) (vg_rm d') 0 0 k := ⟨vm_callB hts hG hcw (by rw [hy.1]; exact hini) hl hy.2 hRR hR, hts _ hi, hts _ hse⟩
        refine vm_callK (va_runV (As := as.map (vg_cv ad)) (b := ad m0) (rest := t.map (vg_cv ad)) ⟨hx, hcb, hml, hown, hts⟩ (hM l D tys ad H.size (.inr m0 :: as) σ hty hav hpre) cw ⟨fun a U g mk q => ?_, va_recv hK hP (ci := ci) (q0 := q0) hc hws2, fun U hU hW => ⟨?_, ?_, ?_, ?_, ?_, fun z hz => va_Nw.warmM hW (hnw z hz)⟩⟩ rfl (by rw [List.length_map]; exact hlen) hl0.1 hstk (lv_room (by rw [vg_wd_sum]; exact hwd)) hd ⟨E0.1.1, E0.1.2⟩) hS (vg_in_A (hDA σ) hA hS.1) (fun r σ1 H1 locs1 hp hok hP1 hS1 => ?_)
        · obtain ⟨q0, q1, qP, qK, qD, qN⟩ := q
          exact ⟨q0, q1, qP, va_K.moved (u := U) (U := U.calling g mk a) (Vm.Alike.refl U.vm) qK, qD, fun z hz => va_Nw.same (u := U) (U := U.calling g mk a) rfl rfl (qN z hz)⟩
        · rfl
        · rw [hU]
        · rw [hU]; exact hP
        · exact va_K.moved hW.alike hK
        · exact (hDA σ).weaken (fun _ _ _ _ => trivial)
        · obtain ⟨rfl, rfl⟩ := hp
          unfold vg_k at hk
          cases hre : (sp (.inr m0 :: as) σ).2.1 with
          | none => rw [hre] at hk; exact hk H1 locs1 ls hl0 ho ht hP1 hS1
          | some v => rw [hre] at hk; exact hk H1 locs1 ls hl0 ho (vg_okc (hok v hre) ht) hP1 hS1
    next => exact h.elim
  next => exact h.elim
theorem vt_callS {k ix : Nat} {y : MethodName} {bytes : ByteArray} {mL d' : Nat} {rt : Option FieldType} {sp : vgC} (hM : vg_MetF tb nw shp nm cl tyl y bytes mL rt d' sp) (hd : decode cc pc = .ok (.invokestatic ix, 3))
    (hG : tb.all goodWord = true) (hcw : Cond.code y bytes mL rt ∈ tb) (hini : Cond.initialized y.cls ∈ tb) (hl : Cond.methodLink own ix y ∈ tb) (hi : Cond.static y ∈ tb)
    (hy : y.cls ≠ "java/lang/invoke/MethodHandle" ∧ y.cls ≠ "java/lang/invoke/VarHandle" ∧ (parseMethodDescriptor y.desc).map (fun d => d.parameters.length) = some k) (hR : d' + 1 ≤ d ∧ mL ≤ 13) (hn : pc + 3 = n) : vm_Snd bf tb tbx strs nw shp nm cl tyl cc nL own ret d pc (vi_callS sp k n) := by
  subst hn
  refine ⟨vs_m1 fun K K' h lv st σ g => ?_, ?_⟩
  · split at g
    next q _ =>
      cases hb : Nat.ble (vg_wd q.2) 8 with
      | false => rw [hb] at g; exact g.elim
      | true =>
        rw [hb] at g
        have g2 : (sp q.1 σ).1 ∧ vg_k K (pc + 3) lv q.2 (sp q.1 σ).2.1 (sp q.1 σ).2.2 := g
        show (sp q.1 σ).1 ∧ vg_k K' (pc + 3) lv q.2 (sp q.1 σ).2.1 (sp q.1 σ).2.2
        exact ⟨g2.1, vg_k_mono h g2.2⟩
    next => exact g
  intro p l e R s m args below meth c D tys ad A P ck cn Z C0 E0 lv st σ h H locs ls hl0 ho hs hP hS
  unfold vi_callS at h
  split at h
  next q hpop =>
    cases hb : Nat.ble (vg_wd q.2) 8 with
    | false => rw [hb] at h; exact h.elim
    | true =>
      rw [hb] at h
      obtain ⟨as, t⟩ := q
      have hwd : vg_wd t ≤ 8 := Nat.le_of_ble_eq_true hb
      have h2 : (sp as σ).1 ∧ vg_k _ (pc + 3) lv t (sp as σ).2.1 (sp as σ).2.2 := h
      obtain ⟨hpre, hk⟩ := h2
      obtain ⟨hx, hcb, hml, hown, hts, hK, hty, hr, hlocks, hRR, hA, hDA, hclo, hnw⟩ := C0
      obtain ⟨e1, e2⟩ := vg_pop_eq _ _ _ _ _ hpop
      have hst : st = as.reverse ++ t := by rw [e1]; rfl
      have hav : ∀ v ∈ as, vg_ok nm v := fun v hv => hs v (by rw [hst]; exact List.mem_append_left _ (List.mem_reverse.mpr hv))
      have ht : ∀ v ∈ t, vg_ok nm v := fun v hv => hs v (by rw [hst]; exact List.mem_append_right _ hv)
      have hlen : as.length = k := by simp at e2; omega
      have hstk : st.map (vg_cv ad) = (as.map (vg_cv ad)).reverse ++ t.map (vg_cv ad) := by rw [hst]; simp
      refine vm_callK (va_runS (As := as.map (vg_cv ad)) (rest := t.map (vg_cv ad)) ⟨hx, hcb, hml, hown, hts⟩ (hM l D tys ad H.size as σ hty hav hpre) ⟨vm_callB hts hG hcw hini hl hy hRR hR, hts _ hi⟩ ⟨fun a U g mk q => ?_, fun U hU hW => ⟨rfl, ?_, ?_, ?_, ?_, fun z hz => va_Nw.warmM hW (hnw z hz)⟩⟩ rfl (by rw [List.length_map]; exact hlen) hl0.1 hstk (lv_room (by rw [vg_wd_sum]; exact hwd)) hd ⟨E0.1.1, E0.1.2⟩) hS (vg_in_A (hDA σ) hA hS.1) (fun r σ1 H1 locs1 hp hok hP1 hS1 => ?_)
      · obtain ⟨q0, q1, qP, qK, qD, qN⟩ := q
        exact ⟨q0, q1, qP, va_K.moved (u := U) (U := U.calling g mk a) (Vm.Alike.refl U.vm) qK, qD, fun z hz => va_Nw.same (u := U) (U := U.calling g mk a) rfl rfl (qN z hz)⟩
      · rw [hU]
      · rw [hU]; exact hP
      · exact va_K.moved hW.alike hK
      · exact (hDA σ).weaken (fun _ _ _ _ => trivial)
      · obtain ⟨rfl, rfl⟩ := hp
        unfold vg_k at hk
        cases hre : (sp as σ).2.1 with
        | none => rw [hre] at hk; exact hk H1 locs1 ls hl0 ho ht hP1 hS1
        | some v => rw [hre] at hk; exact hk H1 locs1 ls hl0 ho (vg_okc (hok v hre) ht) hP1 hS1
  next => exact h.elim
theorem vt_callSN {k ix : Nat} {host : String} {y : MethodName} {bytes : ByteArray} {mL d' : Nat} {rt : Option FieldType} {sp : vgC} (hM : vg_MetF tb nw shp nm cl tyl y bytes mL rt d' sp) (hd : decode cc pc = .ok (.invokestatic ix, 3))
    (hG : tb.all goodWord = true) (hcw : Cond.code y bytes mL rt ∈ tb) (hini : Cond.initialized y.cls ∈ tb) (hl : (own, ix, y, host) ∈ nw) (hi : Cond.static y ∈ tb)
    (hy : y.cls ≠ "java/lang/invoke/MethodHandle" ∧ y.cls ≠ "java/lang/invoke/VarHandle" ∧ (parseMethodDescriptor y.desc).map (fun d => d.parameters.length) = some k) (hR : d' + 1 ≤ d ∧ mL ≤ 13) (hn : pc + 3 = n) : vm_Snd bf tb tbx strs nw shp nm cl tyl cc nL own ret d pc (vi_callS sp k n) := by
  subst hn
  refine ⟨vs_m1 fun K K' h lv st σ g => ?_, ?_⟩
  · split at g
    next q _ =>
      cases hb : Nat.ble (vg_wd q.2) 8 with
      | false => rw [hb] at g; exact g.elim
      | true =>
        rw [hb] at g
        have g2 : (sp q.1 σ).1 ∧ vg_k K (pc + 3) lv q.2 (sp q.1 σ).2.1 (sp q.1 σ).2.2 := g
        show (sp q.1 σ).1 ∧ vg_k K' (pc + 3) lv q.2 (sp q.1 σ).2.1 (sp q.1 σ).2.2
        exact ⟨g2.1, vg_k_mono h g2.2⟩
    next => exact g
  intro p l e R s m args below meth c D tys ad A P ck cn Z C0 E0 lv st σ h H locs ls hl0 ho hs hP hS
  unfold vi_callS at h
  split at h
  next q hpop =>
    cases hb : Nat.ble (vg_wd q.2) 8 with
    | false => rw [hb] at h; exact h.elim
    | true =>
      rw [hb] at h
      obtain ⟨as, t⟩ := q
      have hwd : vg_wd t ≤ 8 := Nat.le_of_ble_eq_true hb
      have h2 : (sp as σ).1 ∧ vg_k _ (pc + 3) lv t (sp as σ).2.1 (sp as σ).2.2 := h
      obtain ⟨hpre, hk⟩ := h2
      obtain ⟨hx, hcb, hml, hown, hts, hK, hty, hr, hlocks, hRR, hA, hDA, hclo, hnw⟩ := C0
      have hg : ∀ w ∈ tb, goodWord w = true := fun w h => List.all_eq_true.mp hG w h
      obtain ⟨e1, e2⟩ := vg_pop_eq _ _ _ _ _ hpop
      have hst : st = as.reverse ++ t := by rw [e1]; rfl
      have hav : ∀ v ∈ as, vg_ok nm v := fun v hv => hs v (by rw [hst]; exact List.mem_append_left _ (List.mem_reverse.mpr hv))
      have ht : ∀ v ∈ t, vg_ok nm v := fun v hv => hs v (by rw [hst]; exact List.mem_append_right _ hv)
      have hlen : as.length = k := by simp at e2; omega
      have hstk : st.map (vg_cv ad) = (as.map (vg_cv ad)).reverse ++ t.map (vg_cv ad) := by rw [hst]; simp
      have cw : va_CN R s args own ix y host bytes mL rt (.code y bytes mL rt :: tb) (vg_rm d') 0 0 k := by
        refine va_cnB k hts (fun w hw => ?_) rfl rfl rfl (hnw _ hl) (hts _ hini) hy ⟨Nat.le_trans hR.1 hRR.1, ?_⟩
        · rcases List.mem_cons.mp hw with rfl | hw
          · exact ⟨hcw, good_of_word (hg _ hcw)⟩
          · exact ⟨hw, good_of_word (hg _ hw)⟩
        · show 8 + (mL + 11) + 32 * d' ≤ R.locals
          omega
      refine vm_callK (va_runSN (As := as.map (vg_cv ad)) (rest := t.map (vg_cv ad)) ⟨hx, hcb, hml, hown, hts⟩ (hM l D tys ad H.size as σ hty hav hpre) ⟨cw, hts _ hi, trivial⟩ ⟨fun a U g mk q => ?_, fun U hU hW => ⟨rfl, ?_, ?_, ?_, ?_, fun z hz => va_Nw.warmM hW (hnw z hz)⟩⟩ rfl (by rw [List.length_map]; exact hlen) hl0.1 hstk (lv_room (by rw [vg_wd_sum]; exact hwd)) hd ⟨E0.1.1, E0.1.2⟩) hS (vg_in_A (hDA σ) hA hS.1) (fun r σ1 H1 locs1 hp hok hP1 hS1 => ?_)
      · obtain ⟨q0, q1, qP, qK, qD, qN⟩ := q
        exact ⟨q0, q1, qP, va_K.moved (u := U) (U := U.calling g mk a) (Vm.Alike.refl U.vm) qK, qD, fun z hz => va_Nw.same (u := U) (U := U.calling g mk a) rfl rfl (qN z hz)⟩
      · rw [hU]
      · rw [hU]; exact hP
      · exact va_K.moved hW.alike hK
      · exact (hDA σ).weaken (fun _ _ _ _ => trivial)
      · obtain ⟨rfl, rfl⟩ := hp
        unfold vg_k at hk
        cases hre : (sp as σ).2.1 with
        | none => rw [hre] at hk; exact hk H1 locs1 ls hl0 ho ht hP1 hS1
        | some v => rw [hre] at hk; exact hk H1 locs1 ls hl0 ho (vg_okc (hok v hre) ht) hP1 hS1
  next => exact h.elim
theorem vt_max {ix : Nat} (hd : decode cc pc = .ok (.invokestatic ix, 3)) (h1 : Cond.methodLink own ix Lib.Math.max.name ∈ tb) (h2 : Cond.static Lib.Math.max.name ∈ tb) (h3 : Cond.initialized "java/lang/Math" ∈ tb) (h4 : Cond.code Lib.Math.max.name Lib.Math.max.code 2 (some .int) ∈ tb) (hdd : 1 ≤ d) (hn : pc + 3 = n) : vm_Snd bf tb tbx strs nw shp nm cl tyl cc nL own ret d pc (vi_max n) := by
  subst hn
  refine ⟨vs_m1 fun K K' h lv st σ g => ?_, ?_⟩
  · split at g
    next =>
      cases hb : Nat.ble (vg_wd _) 8 with
      | false => rw [hb] at g; exact g.elim
      | true => rw [hb] at g; exact h _ _ _ _ g
    next => exact g
  intro p l e R s m args below meth c D tys ad A P ck cn Z C0 E0 lv st σ h H locs ls hl ho hs hP hS
  have hts := C0.2.2.2.2.1
  unfold vi_max at h
  split at h
  next y x t =>
    cases hb : Nat.ble (vg_wd t) 8 with
    | false => rw [hb] at h; exact h.elim
    | true =>
      rw [hb] at h
      have hwd : vg_wd t ≤ 8 := Nat.le_of_ble_eq_true hb
      have hR := C0.2.2.2.2.2.2.2.2.2.1
      exact va_mmax C0.1 C0.2.1 (C0.2.2.1.trans hl.1.symm) C0.2.2.2.1 (hts _ h1) (hts _ h2) (hts _ h3) (hts _ h4) (Nat.le_trans hdd hR.1) (by rw [vg_wd_sum]; omega) E0.1.1 E0.1.2 hd (h H locs ls hl ho (vg_okc trivial (vg_okt (vg_okt hs))) hP hS)
  next => exact h.elim
theorem vt_min {ix : Nat} (hd : decode cc pc = .ok (.invokestatic ix, 3)) (h1 : Cond.methodLink own ix Lib.Math.min.name ∈ tb) (h2 : Cond.static Lib.Math.min.name ∈ tb) (h3 : Cond.initialized "java/lang/Math" ∈ tb) (h4 : Cond.code Lib.Math.min.name Lib.Math.min.code 2 (some .int) ∈ tb) (hdd : 1 ≤ d) (hn : pc + 3 = n) : vm_Snd bf tb tbx strs nw shp nm cl tyl cc nL own ret d pc (vi_min n) := by
  subst hn
  refine ⟨vs_m1 fun K K' h lv st σ g => ?_, ?_⟩
  · split at g
    next =>
      cases hb : Nat.ble (vg_wd _) 8 with
      | false => rw [hb] at g; exact g.elim
      | true => rw [hb] at g; exact h _ _ _ _ g
    next => exact g
  intro p l e R s m args below meth c D tys ad A P ck cn Z C0 E0 lv st σ h H locs ls hl ho hs hP hS
  have hts := C0.2.2.2.2.1
  unfold vi_min at h
  split at h
  next y x t =>
    cases hb : Nat.ble (vg_wd t) 8 with
    | false => rw [hb] at h; exact h.elim
    | true =>
      rw [hb] at h
      have hwd : vg_wd t ≤ 8 := Nat.le_of_ble_eq_true hb
      have hR := C0.2.2.2.2.2.2.2.2.2.1
      exact va_mmin C0.1 C0.2.1 (C0.2.2.1.trans hl.1.symm) C0.2.2.2.1 (hts _ h1) (hts _ h2) (hts _ h3) (hts _ h4) (Nat.le_trans hdd hR.1) (by rw [vg_wd_sum]; omega) E0.1.1 E0.1.2 hd (h H locs ls hl ho (vg_okc trivial (vg_okt (vg_okt hs))) hP hS)
  next => exact h.elim
theorem vt_abs {ix : Nat} (hd : decode cc pc = .ok (.invokestatic ix, 3)) (h1 : Cond.methodLink own ix Lib.Math.abs.name ∈ tb) (h2 : Cond.static Lib.Math.abs.name ∈ tb) (h3 : Cond.initialized "java/lang/Math" ∈ tb) (h4 : Cond.code Lib.Math.abs.name Lib.Math.abs.code 1 (some .int) ∈ tb) (hdd : 1 ≤ d) (hn : pc + 3 = n) : vm_Snd bf tb tbx strs nw shp nm cl tyl cc nL own ret d pc (vi_abs n) := by
  subst hn
  refine ⟨vs_m1 fun K K' h lv st σ g => ?_, ?_⟩
  · split at g
    next =>
      cases hb : Nat.ble (vg_wd _) 8 with
      | false => rw [hb] at g; exact g.elim
      | true => rw [hb] at g; exact h _ _ _ _ g
    next => exact g
  intro p l e R s m args below meth c D tys ad A P ck cn Z C0 E0 lv st σ h H locs ls hl ho hs hP hS
  have hts := C0.2.2.2.2.1
  unfold vi_abs at h
  split at h
  next x t =>
    cases hb : Nat.ble (vg_wd t) 8 with
    | false => rw [hb] at h; exact h.elim
    | true =>
      rw [hb] at h
      have hwd : vg_wd t ≤ 8 := Nat.le_of_ble_eq_true hb
      have hR := C0.2.2.2.2.2.2.2.2.2.1
      exact va_mabs C0.1 C0.2.1 (C0.2.2.1.trans hl.1.symm) C0.2.2.2.1 (hts _ h1) (hts _ h2) (hts _ h3) (hts _ h4) (Nat.le_trans hdd hR.1) (by rw [vg_wd_sum]; omega) E0.1.1 E0.1.2 hd (h H locs ls hl ho (vg_okc trivial (vg_okt hs)) hP hS)
  next => exact h.elim
end VT3
