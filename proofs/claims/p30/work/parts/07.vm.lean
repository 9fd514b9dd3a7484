/-! the small machine once more, for methods that may make cells ahead of a stretch (k, n: what was made) and may throw (bf); what the end owes is left open (Z) -/
def vm_xn (x : Nat) : String := match x with
  | 1 => "java/lang/IndexOutOfBoundsException"
  | 2 => "java/lang/IllegalArgumentException"
  | _ => "java/lang/IllegalStateException"
abbrev vm_th (x : Nat) : Option vgV := some (.inr (77, x, 0))
/-- a return's instruction, for what is returned -/
def vm_rk (cc : ByteArray) (ret : Option FieldType) (pc : Nat) (r : Option vgV) : Prop := match r with
  | some (.inl (.int x)) => (decode cc pc = .ok (.ireturn, 1) ∧ ret = some .int) ∨ (decode cc pc = .ok (.ireturn, 1) ∧ ret = some .boolean ∧ (x = 0 ∨ x = 1))
  | some (.inl (.long _)) => decode cc pc = .ok (.lreturn, 1) ∧ ret = some .long
  | none => decode cc pc = .ok (.return_, 1) ∧ ret = none
  | _ => False
def vm_pl (words : List Cond) (w : Cond) : Prop := w ∈ words
/-- 'throw new E(text)' at a place -/
def vm_nk (tb tbx : List Cond) (strs : List (String × Nat × String)) (own : String) (cc : ByteArray) (pc x : Nat) : Prop :=
  ∃ (text : String) (ik is ic : Nat), decode cc pc = .ok (.new ik, 3) ∧ decode cc (pc + 3) = .ok (.dup, 1) ∧
    ((decode cc (pc + 4) = .ok (.ldc is, 2) ∧ decode cc (pc + 6) = .ok (.invokespecial ic, 3) ∧ decode cc (pc + 9) = .ok (.athrow, 1)) ∨ (decode cc (pc + 4) = .ok (.ldc_w is, 3) ∧ decode cc (pc + 7) = .ok (.invokespecial ic, 3) ∧ decode cc (pc + 10) = .ok (.athrow, 1))) ∧
    (own, is, text) ∈ strs ∧ Cond.classLink own ik (vm_xn x) ∈ tb ∧ Cond.initialized (vm_xn x) ∈ tb ∧ (∀ w ∈ (vx_atS own ic (vm_xn x) ["java/lang/RuntimeException", "java/lang/Exception"]).filter goodWord, w ∈ tb) ∧ (∀ w ∈ (vx_atS own ic (vm_xn x) ["java/lang/RuntimeException", "java/lang/Exception"]).filter (fun w => !goodWord w), w ∈ tbx) ∧ Bundle.fit (vm_xn x) = true ∧
    (∀ w ∈ Cond.classLink own ik (vm_xn x) :: Cond.initialized (vm_xn x) :: vx_atS own ic (vm_xn x) ["java/lang/RuntimeException", "java/lang/Exception"], vx_ot w = true)
/-- what a thrower asks of its start -/
def vm_XF (tbx : List Cond) (strs : List (String × Nat × String)) (A : Nat → Prop) (U : State) (H : Heap) : Prop :=
  (∀ w ∈ tbx, va_Nw w U) ∧ vx_Zq Bundle.tN "UNASSIGNED_STACK" Bundle.steD A U H ∧ vx_Zq Bundle.tN "SUPPRESSED_SENTINEL" Bundle.listD A U H ∧ ∀ z ∈ strs, ∃ sa, vk_R z.1 z.2.1 z.2.2 sa U
/-- what stands fast in a method's walk -/
def vm_C (tb : List Cond) (nw : List (String × Nat × MethodName × String)) (shp : vgN → vgH) (nm : List vgN) (cl : List vw_C) (tyl : List FieldType) (cc : ByteArray) (nL : Nat) (own : String) (ret : Option FieldType) (d : Nat) (p : Program) (R : Room) (s : State) (m : MethodId) (args : Array Value) (meth : Method) (c : Code) (D : va_G) (tys : List (ClassId × FieldType)) (ad : vgN → Nat) (A : Nat → Prop) : Prop :=
  p.tables.exec = Jvm.exec ∧ c.code = cc ∧ c.maxLocals = nL ∧ s.vm.findClass own = some m.cls ∧ (∀ w ∈ tb, w.before args s = true) ∧ va_K D cl tys s ∧ tys.map (fun q => q.2) = tyl ∧ meth.sig.returnType = ret ∧ meth.locks = false ∧ (d ≤ R.frames ∧ 32 * d ≤ R.locals) ∧ (∀ q, s.heap.size ≤ q → A q) ∧ (∀ σ, va_D A (vg_ws shp nm ad tys σ)) ∧ vg_closed shp nm ∧ vg_nw nw s
/-- the machine, from here on -/
def vm_X (shp : vgN → vgH) (nm : List vgN) (cl : List vw_C) (nL : Nat) (p : Program) (l : Launch) (e : Env) (R : Room) (s : State) (m : MethodId) (args : Array Value) (below : List Frame) (meth : Method) (c : Code) (D : va_G) (tys : List (ClassId × FieldType)) (ad : vgN → Nat) (A : Nat → Prop) (k n : Nat) (Z : State → Prop) : vgK := fun pc lv st σ =>
  ∀ (H : Heap) (locs : List Loc) (ls : Array Slot), lv_has ls nL (vg_lm ad lv) → (∀ q ∈ lv, vg_ok nm q.2) → (∀ v ∈ st, vg_ok nm v) → va_P D cl (vg_ws shp nm ad tys σ) H → va_S A s.heap H locs →
    W p l e R s m args below meth c H locs k n Z (F0 m pc ls (st.map (vg_cv ad)))
/-- the end: a return; and of a method that may throw, a throw of its own, a throw that passes through -/
def vm_E (bf : Bool) (tb tbx : List Cond) (strs : List (String × Nat × String)) (shp : vgN → vgH) (nm : List vgN) (cl : List vw_C) (cc : ByteArray) (own : String) (ret : Option FieldType) (p : Program) (l : Launch) (e : Env) (R : Room) (s : State) (m : MethodId) (args : Array Value) (below : List Frame) (meth : Method) (c : Code) (D : va_G) (tys : List (ClassId × FieldType)) (ad : vgN → Nat) (A : Nat → Prop) (P : vgO) (k n : Nat) (Z : State → Prop) : Prop :=
  (k ≤ R.cells ∧ n ≤ R.slots) ∧ (∀ (r : Option vgV) (σ : vgS) (pc : Nat) (ls : Array Slot) (H : Heap) (locs : List Loc), P r σ → va_P D cl (vg_ws shp nm ad tys σ) H → va_S A s.heap H locs → vm_rk cc ret pc r → W p l e R s m args below meth c H locs k n Z (F0 m pc ls ((r.map (vg_cv ad)).toList))) ∧
  (bf = true → vm_XF tbx strs A s s.heap ∧ (l.stackTraces = false ∧ k + 1 ≤ R.cells ∧ n + 6 ≤ R.slots) ∧
    (∀ (x : Nat) (σ : vgS) (pc : Nat) (ls : Array Slot) (rest : List Value) (H : Heap) (locs : List Loc), P (vm_th x) σ → va_S A s.heap H locs → ls.size = c.maxLocals → (rest.map fun v => v.category).sum ≤ 8 → 6 ≤ R.frames → 192 ≤ R.locals → vm_nk tb tbx strs own cc pc x → W p l e R s m args below meth c H locs k n Z (F0 m pc ls rest)) ∧
    (∀ (x : Nat) (σ : vgS) (pc : Nat) (ls : Array Slot) (rest : List Value) (H : Heap) (locs : List Loc) (q : Addr) (ce : Cell), P (vm_th x) σ → va_S A s.heap H locs → H[q]? = some ce → ce.vm = .none → s.vm.findClass (vm_xn x) = some ce.cls → vx_W p l e R s m args below meth c H locs (k + 1) (n + 6) Z (F0 m pc ls rest) q))
/-- an instruction's row -/
def vm_Snd (bf : Bool) (tb tbx : List Cond) (strs : List (String × Nat × String)) (nw : List (String × Nat × MethodName × String)) (shp : vgN → vgH) (nm : List vgN) (cl : List vw_C) (tyl : List FieldType) (cc : ByteArray) (nL : Nat) (own : String) (ret : Option FieldType) (d : Nat) (pc : Nat) (F : vgF) : Prop :=
  vg_Mono F ∧ ∀ (p : Program) (l : Launch) (e : Env) (R : Room) (s : State) (m : MethodId) (args : Array Value) (below : List Frame) (meth : Method) (c : Code) (D : va_G) (tys : List (ClassId × FieldType)) (ad : vgN → Nat) (A : Nat → Prop) (P : vgO) (ck cn : Nat) (Z : State → Prop),
    vm_C tb nw shp nm cl tyl cc nL own ret d p R s m args meth c D tys ad A → vm_E bf tb tbx strs shp nm cl cc own ret p l e R s m args below meth c D tys ad A P ck cn Z → ∀ lv st σ, F P (vm_X shp nm cl nL p l e R s m args below meth c D tys ad A ck cn Z) lv st σ → vm_X shp nm cl nL p l e R s m args below meth c D tys ad A ck cn Z pc lv st σ
/-- the machine does it: a stretch, to its ends or to the places ex, from where it goes on otherwise -/
theorem vm_sound {bf : Bool} {tb tbx : List Cond} {strs : List (String × Nat × String)} {nw : List (String × Nat × MethodName × String)} {shp : vgN → vgH} {nm : List vgN} {cl : List vw_C} {tyl : List FieldType} {cc : ByteArray} {nL : Nat} {own : String} {ret : Option FieldType} {d : Nat} {ex code : List (Nat × vgF)} (hs : ∀ q ∈ code, vm_Snd bf tb tbx strs nw shp nm cl tyl cc nL own ret d q.1 q.2)
    {p : Program} {l : Launch} {e : Env} {R : Room} {s : State} {m : MethodId} {args : Array Value} {below : List Frame} {meth : Method} {c : Code} {D : va_G} {tys : List (ClassId × FieldType)} {ad : vgN → Nat} {A : Nat → Prop} {P : vgO} {ck cn : Nat} {Z : State → Prop}
    (C0 : vm_C tb nw shp nm cl tyl cc nL own ret d p R s m args meth c D tys ad A) (E0 : vm_E bf tb tbx strs shp nm cl cc own ret p l e R s m args below meth c D tys ad A P ck cn Z)
    (hx : ∀ q ∈ ex, ∀ lv st σ, q.2 P (vm_X shp nm cl nL p l e R s m args below meth c D tys ad A ck cn Z) lv st σ → vm_X shp nm cl nL p l e R s m args below meth c D tys ad A ck cn Z q.1 lv st σ)
    {pc : Nat} {lv : vgL} {st : vgT} {σ : vgS} (h : vg_Go (ex ++ code) P pc lv st σ) : vm_X shp nm cl nL p l e R s m args below meth c D tys ad A ck cn Z pc lv st σ := by
  refine h _ (fun pc lv st σ g => ?_) (fun pc lv lv' st σ hsub g H locs ls hl ho hs hP hS => g H locs ls ⟨hl.1, hl.2.1, fun q hq => ?_⟩ (fun q hq => ho q (hsub q hq)) hs hP hS)
  · cases hL : vg_look (ex ++ code) pc with
    | none => rw [hL] at g; exact g.elim
    | some F =>
      rw [hL] at g
      rcases List.mem_append.mp (vg_look_mem hL) with hm | hm
      · exact hx _ hm lv st σ g
      · exact (hs _ hm).2 p l e R s m args below meth c D tys ad A P ck cn Z C0 E0 lv st σ g
  · obtain ⟨q', hq', rfl⟩ := List.mem_map.mp hq
    exact hl.2.2 _ (List.mem_map.mpr ⟨q', hsub q' hq', rfl⟩)
/-- a place where a stretch ends -/
def vi_exit (E : vgL → vgT → vgS → Prop) : vgF := fun _ _ lv st σ => E lv st σ
theorem vm_exitM {E : vgL → vgT → vgS → Prop} : vg_Mono (vi_exit E) := fun _ _ _ _ _ _ _ h => h
theorem vg_cons {α : Type} {P : α → Prop} {a : α} {l : List α} (h : P a) (t : ∀ q ∈ l, P q) : ∀ q ∈ a :: l, P q := List.forall_mem_cons.mpr ⟨h, t⟩
