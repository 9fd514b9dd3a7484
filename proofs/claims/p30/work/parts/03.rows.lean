/-! the instructions: what each does to names and ints, and its row over the machine -/
def vi_no : vgF := fun _ _ _ _ _ => False
def vi_icst (v : Int32) (n : Nat) : vgF := fun _ K lv st σ => K n lv (.inl (.int v) :: st) σ
def vi_lcst (v : Int64) (n : Nat) : vgF := fun _ K lv st σ => K n lv (.inl (.long v) :: st) σ
def vi_iload (i n : Nat) : vgF := fun _ K lv st σ => match vg_look lv i with
  | some (.inl (.int x)) => K n lv (.inl (.int x) :: st) σ
  | _ => False
def vi_lload (i n : Nat) : vgF := fun _ K lv st σ => match vg_look lv i with
  | some (.inl (.long x)) => K n lv (.inl (.long x) :: st) σ
  | _ => False
def vi_aload (i n : Nat) : vgF := fun _ K lv st σ => match vg_look lv i with
  | some (.inr x) => K n lv (.inr x :: st) σ
  | _ => False
def vi_istore (i n : Nat) : vgF := fun _ K lv st σ => match st with
  | .inl (.int x) :: t => K n (vg_put lv i (.inl (.int x))) t σ
  | _ => False
def vi_lstore (i n : Nat) : vgF := fun _ K lv st σ => match st with
  | .inl (.long x) :: t => K n (vg_put2 lv i (.inl (.long x))) t σ
  | _ => False
def vi_astore (i n : Nat) : vgF := fun _ K lv st σ => match st with
  | .inr x :: t => K n (vg_put lv i (.inr x)) t σ
  | _ => False
def vi_iinc (i : Nat) (v : Int32) (n : Nat) : vgF := fun _ K lv st σ => match vg_look lv i with
  | some (.inl (.int x)) => K n (vg_put lv i (.inl (.int (x + v)))) st σ
  | _ => False
def vi_bin (f : Int32 → Int32 → Int32) (n : Nat) : vgF := fun _ K lv st σ => match st with
  | .inl (.int y) :: .inl (.int x) :: t => K n lv (.inl (.int (f x y)) :: t) σ
  | _ => False
def vi_div (f : Int32 → Int32 → Int32) (n : Nat) : vgF := fun _ K lv st σ => match st with
  | .inl (.int y) :: .inl (.int x) :: t => ¬ y = 0 ∧ K n lv (.inl (.int (f x y)) :: t) σ
  | _ => False
def vi_un (f : Int32 → Int32) (n : Nat) : vgF := fun _ K lv st σ => match st with
  | .inl (.int x) :: t => K n lv (.inl (.int (f x)) :: t) σ
  | _ => False
def vi_lbin (f : Int64 → Int64 → Int64) (n : Nat) : vgF := fun _ K lv st σ => match st with
  | .inl (.long y) :: .inl (.long x) :: t => K n lv (.inl (.long (f x y)) :: t) σ
  | _ => False
def vi_i2l (n : Nat) : vgF := fun _ K lv st σ => match st with
  | .inl (.int x) :: t => K n lv (.inl (.long x.toInt64) :: t) σ
  | _ => False
def vi_if (c : Int32 → Prop) (g n : Nat) : vgF := fun _ K lv st σ => match st with
  | .inl (.int x) :: t => (c x → K g lv t σ) ∧ (¬ c x → K n lv t σ)
  | _ => False
def vi_cmp (c : Int32 → Int32 → Prop) (g n : Nat) : vgF := fun _ K lv st σ => match st with
  | .inl (.int y) :: .inl (.int x) :: t => (c x y → K g lv t σ) ∧ (¬ c x y → K n lv t σ)
  | _ => False
def vi_goto (g : Nat) : vgF := fun _ K lv st σ => K g lv st σ
def vi_sw0 (x : Int32) (d : Prop) : List (Int32 × Prop) → Prop
  | [] => d
  | q :: r => (x = q.1 → q.2) ∧ (¬ x = q.1 → vi_sw0 x d r)
def vi_sw (cs : List (Int32 × Nat)) (d : Nat) : vgF := fun _ K lv st σ => match st with
  | .inl (.int x) :: t => vi_sw0 x (K d lv t σ) (cs.map (fun q => (q.1, K q.2 lv t σ)))
  | _ => False
def vi_dup (n : Nat) : vgF := fun _ K lv st σ => match st with
  | a :: t => vg_c2 a = false ∧ K n lv (a :: a :: t) σ
  | _ => False
def vi_pop (n : Nat) : vgF := fun _ K lv st σ => match st with
  | a :: t => vg_c2 a = false ∧ K n lv t σ
  | _ => False
def vi_dupx1 (n : Nat) : vgF := fun _ K lv st σ => match st with
  | a :: b :: t => (vg_c2 a = false ∧ vg_c2 b = false) ∧ K n lv (a :: b :: a :: t) σ
  | _ => False
def vi_dup2 (n : Nat) : vgF := fun _ K lv st σ => match st with
  | a :: b :: t => (vg_c2 a = false ∧ vg_c2 b = false) ∧ K n lv (a :: b :: a :: b :: t) σ
  | _ => False
def vg_nth : List (Option vgN) → Nat → Option (Option vgN)
  | [], _ => none
  | a :: _, 0 => some a
  | _ :: t, k + 1 => vg_nth t k
theorem vg_nth_eq : ∀ (l : List (Option vgN)) (k : Nat), vg_nth l k = l[k]?
  | [], k => by simp [vg_nth]
  | a :: t, 0 => by simp [vg_nth]
  | a :: t, k + 1 => by simp [vg_nth, vg_nth_eq t k]
def vi_get (shp : vgN → vgH) (ci k n : Nat) : vgF := fun _ K lv st σ => match st with
  | .inr m :: t => (match shp m with
    | .inl q => bif Nat.beq q.1 ci then (match vg_nth q.2 k with
      | some none => K n lv (.inl (.int (σ m k)) :: t) σ
      | some (some z) => K n lv (.inr z :: t) σ
      | none => False) else False
    | _ => False)
  | _ => False
def vi_put (shp : vgN → vgH) (ci k n : Nat) : vgF := fun _ K lv st σ => match st with
  | .inl (.int x) :: .inr m :: t => (match shp m with
    | .inl q => bif Nat.beq q.1 ci then (match vg_nth q.2 k with
      | some none => K n lv t (vg_st σ m k x)
      | _ => False) else False
    | _ => False)
  | _ => False
def vi_putZ (shp : vgN → vgH) (ci k n : Nat) : vgF := fun _ K lv st σ => match st with
  | .inl (.int x) :: .inr m :: t => (match shp m with
    | .inl q => bif Nat.beq q.1 ci then (match vg_nth q.2 k with
      | some none => (x = 0 ∨ x = 1) ∧ K n lv t (vg_st σ m k x)
      | _ => False) else False
    | _ => False)
  | _ => False
def vi_ald (shp : vgN → vgH) (t0 n : Nat) : vgF := fun _ K lv st σ => match st with
  | .inl (.int i) :: .inr m :: t => (match shp m with
    | .inr (.inl q) => bif Nat.beq q.1 t0 then (vp_in i q.2 ∧ K n lv (.inl (.int (σ m i.toNatClampNeg)) :: t) σ) else False
    | _ => False)
  | _ => False
def vi_ast (shp : vgN → vgH) (t0 n : Nat) : vgF := fun _ K lv st σ => match st with
  | .inl (.int x) :: .inl (.int i) :: .inr m :: t => (match shp m with
    | .inr (.inl q) => bif Nat.beq q.1 t0 then (vp_in i q.2 ∧ K n lv t (vg_st σ m i.toNatClampNeg x)) else False
    | _ => False)
  | _ => False
def vi_astZ (shp : vgN → vgH) (t0 n : Nat) : vgF := fun _ K lv st σ => match st with
  | .inl (.int x) :: .inl (.int i) :: .inr m :: t => (match shp m with
    | .inr (.inl q) => bif Nat.beq q.1 t0 then ((vp_in i q.2 ∧ (x = 0 ∨ x = 1)) ∧ K n lv t (vg_st σ m i.toNatClampNeg x)) else False
    | _ => False)
  | _ => False
def vi_aald (shp : vgN → vgH) (t0 n : Nat) : vgF := fun _ K lv st σ => match st with
  | .inl (.int i) :: .inr m :: t => (match shp m with
    | .inr (.inr q) => bif Nat.beq q.1 t0 then (vp_in i q.2.1 ∧ K n lv (.inr (q.2.2 i.toNatClampNeg) :: t) σ) else False
    | _ => False)
  | _ => False
/-- System.arraycopy of a whole row of ints -/
def vi_cpy (shp : vgN → vgH) (t0 n : Nat) : vgF := fun _ K lv st σ => match st with
  | .inl (.int len) :: .inl (.int dp) :: .inr d :: .inl (.int sp) :: .inr m :: t => (match shp m, shp d with
    | .inr (.inl q), .inr (.inl r) => bif Nat.beq q.1 t0 && Nat.beq r.1 t0 && Nat.ble (vg_wd t) 8 then ((sp = 0 ∧ dp = 0 ∧ ¬ len < 0 ∧ len.toNatClampNeg ≤ q.2 ∧ len.toNatClampNeg ≤ r.2) ∧ K n lv t (vg_cp σ m d len.toNatClampNeg)) else False
    | _, _ => False)
  | _ => False
def vg_pop : Nat → vgT → vgT → Option (vgT × vgT)
  | 0, acc, st => some (acc, st)
  | k + 1, acc, v :: st => vg_pop k (v :: acc) st
  | _ + 1, _, [] => none
abbrev vgC : Type := vgT → vgS → Prop × Option vgV × vgS
def vg_k (K : vgK) (n : Nat) (lv : vgL) (st : vgT) (r : Option vgV) (σ : vgS) : Prop := match r with
  | none => K n lv st σ
  | some v => K n lv (v :: st) σ
/-- a call of a static method by its contract -/
def vi_callS (sp : vgC) (k n : Nat) : vgF := fun _ K lv st σ => match vg_pop k [] st with
  | some q => bif Nat.ble (vg_wd q.2) 8 then (match sp q.1 σ with | (pr, r, σ1) => pr ∧ vg_k K n lv q.2 r σ1) else False
  | none => False
/-- a call of an object's method -/
def vi_callV (shp : vgN → vgH) (ci : Nat) (sp : vgC) (k n : Nat) : vgF := fun _ K lv st σ => match vg_pop (k + 1) [] st with
  | some (.inr m :: as, t) => (match shp m with
    | .inl o => bif Nat.beq o.1 ci && Nat.ble (vg_wd t) 8 then (match sp (.inr m :: as) σ with | (pr, r, σ1) => pr ∧ vg_k K n lv t r σ1) else False
    | _ => False)
  | _ => False
def vi_max (n : Nat) : vgF := fun _ K lv st σ => match st with
  | .inl (.int y) :: .inl (.int x) :: t => bif Nat.ble (vg_wd t) 8 then K n lv (.inl (.int (if x < y then y else x)) :: t) σ else False
  | _ => False
def vi_min (n : Nat) : vgF := fun _ K lv st σ => match st with
  | .inl (.int y) :: .inl (.int x) :: t => bif Nat.ble (vg_wd t) 8 then K n lv (.inl (.int (if y < x then y else x)) :: t) σ else False
  | _ => False
def vi_abs (n : Nat) : vgF := fun _ K lv st σ => match st with
  | .inl (.int x) :: t => bif Nat.ble (vg_wd t) 8 then K n lv (.inl (.int (if 0 ≤ x then x else 0 - x)) :: t) σ else False
  | _ => False
def vi_ret : vgF := fun P _ _ st σ => match st with
  | [.inl (.int x)] => P (some (.inl (.int x))) σ
  | _ => False
def vi_retZ : vgF := fun P _ _ st σ => match st with
  | [.inl (.int x)] => (x = 0 ∨ x = 1) ∧ P (some (.inl (.int x))) σ
  | _ => False
def vi_retL : vgF := fun P _ _ st σ => match st with
  | [.inl (.long x)] => P (some (.inl (.long x))) σ
  | _ => False
def vi_retV : vgF := fun P _ _ st σ => match st with
  | [] => P none σ
  | _ => False
section VS
variable {tb : List Cond} {nw : List (String × Nat × MethodName × String)} {shp : vgN → vgH} {nm : List vgN} {cl : List vw_C} {tyl : List FieldType} {cc : ByteArray} {nL : Nat} {own : String} {ret : Option FieldType} {d pc n : Nat}
theorem vg_okc {v : vgV} {t : vgT} (hv : vg_ok nm v) (h : ∀ w ∈ t, vg_ok nm w) : ∀ w ∈ v :: t, vg_ok nm w := fun w hw => (List.mem_cons.mp hw).elim (fun e => e ▸ hv) (h w)
theorem vg_okt {v : vgV} {t : vgT} (h : ∀ w ∈ v :: t, vg_ok nm w) : ∀ w ∈ t, vg_ok nm w := fun w hw => h w (List.mem_cons_of_mem _ hw)
theorem vg_okh {v : vgV} {t : vgT} (h : ∀ w ∈ v :: t, vg_ok nm w) : vg_ok nm v := h v List.mem_cons_self
theorem vg_okl {lv : vgL} {i : Nat} {v : vgV} (h : ∀ q ∈ lv, vg_ok nm q.2) (hv : vg_look lv i = some v) : vg_ok nm v := h (i, v) (vg_look_mem hv)
theorem vg_lms {ad : vgN → Nat} {lv : vgL} {ls : Array Slot} {nL i : Nat} (h : lv_has ls nL (vg_lm ad lv)) {v : vgV} (hv : vg_look lv i = some v) : i < nL := by
  have := vg_lm_at h hv
  rw [← h.1]
  exact (Array.getElem?_eq_some_iff.mp this).1
theorem vs_no : vg_Snd tb nw shp nm cl tyl cc nL own ret d pc vi_no := ⟨fun _ _ _ _ _ _ _ h => h, fun _ _ _ _ _ _ _ _ _ _ _ _ _ _ _ _ _ _ _ h => h.elim⟩
theorem vs_iconst {z : Int} {v : Int32} (hd : decode cc pc = .ok (.iconst z, 1)) (hv : Int32.ofInt z = v) (hn : pc + 1 = n) : vg_Snd tb nw shp nm cl tyl cc nL own ret d pc (vi_icst v n) := by
  subst hn
  refine ⟨fun P K K' h lv st σ g => h _ _ _ _ g, ?_⟩
  intro p l e R s m args below meth c D tys ad A P C0 lv st σ h H locs ls hl ho hs hP hS
  exact lv_iconst C0.1 C0.2.1 hd hv (h H locs ls hl ho (vg_okc trivial hs) hP hS)
theorem vs_bipush {z : Int} {v : Int32} (hd : decode cc pc = .ok (.bipush z, 2)) (hv : (Int8.ofInt z).toInt32 = v) (hn : pc + 2 = n) : vg_Snd tb nw shp nm cl tyl cc nL own ret d pc (vi_icst v n) := by
  subst hn
  refine ⟨fun P K K' h lv st σ g => h _ _ _ _ g, ?_⟩
  intro p l e R s m args below meth c D tys ad A P C0 lv st σ h H locs ls hl ho hs hP hS
  exact lv_bipush C0.1 C0.2.1 hd hv (h H locs ls hl ho (vg_okc trivial hs) hP hS)
theorem vs_sipush {z : Int} {v : Int32} (hd : decode cc pc = .ok (.sipush z, 3)) (hv : (Int16.ofInt z).toInt32 = v) (hn : pc + 3 = n) : vg_Snd tb nw shp nm cl tyl cc nL own ret d pc (vi_icst v n) := by
  subst hn
  refine ⟨fun P K K' h lv st σ g => h _ _ _ _ g, ?_⟩
  intro p l e R s m args below meth c D tys ad A P C0 lv st σ h H locs ls hl ho hs hP hS
  exact lv_sipush C0.1 C0.2.1 hd hv (h H locs ls hl ho (vg_okc trivial hs) hP hS)
theorem vs_ldc {ix : Nat} {v : Int32} (hd : decode cc pc = .ok (.ldc ix, 2)) (hw : Cond.constant own ix v ∈ tb) (hn : pc + 2 = n) : vg_Snd tb nw shp nm cl tyl cc nL own ret d pc (vi_icst v n) := by
  subst hn
  refine ⟨fun P K K' h lv st σ g => h _ _ _ _ g, ?_⟩
  intro p l e R s m args below meth c D tys ad A P C0 lv st σ h H locs ls hl ho hs hP hS
  exact lv_ldc C0.1 C0.2.1 C0.2.2.2.1 (C0.2.2.2.2.1 _ hw) hd (h H locs ls hl ho (vg_okc trivial hs) hP hS)
theorem vs_ldcw {ix : Nat} {v : Int32} (hd : decode cc pc = .ok (.ldc_w ix, 3)) (hw : Cond.constant own ix v ∈ tb) (hn : pc + 3 = n) : vg_Snd tb nw shp nm cl tyl cc nL own ret d pc (vi_icst v n) := by
  subst hn
  refine ⟨fun P K K' h lv st σ g => h _ _ _ _ g, ?_⟩
  intro p l e R s m args below meth c D tys ad A P C0 lv st σ h H locs ls hl ho hs hP hS
  exact lv_ldcw C0.1 C0.2.1 C0.2.2.2.1 (C0.2.2.2.2.1 _ hw) hd (h H locs ls hl ho (vg_okc trivial hs) hP hS)
theorem vs_ldc2 {ix : Nat} {v : Int64} (hd : decode cc pc = .ok (.ldc2_w ix, 3)) (hw : Cond.constantLong own ix v ∈ tb) (hn : pc + 3 = n) : vg_Snd tb nw shp nm cl tyl cc nL own ret d pc (vi_lcst v n) := by
  subst hn
  refine ⟨fun P K K' h lv st σ g => h _ _ _ _ g, ?_⟩
  intro p l e R s m args below meth c D tys ad A P C0 lv st σ h H locs ls hl ho hs hP hS
  exact lv_ldc2 C0.1 C0.2.1 C0.2.2.2.1 (C0.2.2.2.2.1 _ hw) hd (h H locs ls hl ho (vg_okc trivial hs) hP hS)
theorem vs_m1 {F : (vgK → vgL → vgT → vgS → Prop)} (h : ∀ (K K' : vgK), (∀ pc lv st σ, K pc lv st σ → K' pc lv st σ) → ∀ lv st σ, F K lv st σ → F K' lv st σ) : vg_Mono (fun _ => F) := fun _ K K' => h K K'
theorem vs_iload_n {k : Fin 4} {i : Nat} (hd : decode cc pc = .ok (.iload_n k, 1)) (hi : (k : Nat) = i) (hn : pc + 1 = n) : vg_Snd tb nw shp nm cl tyl cc nL own ret d pc (vi_iload i n) := by
  subst hn
  refine ⟨vs_m1 fun K K' h lv st σ g => ?_, ?_⟩
  · split at g
    · exact h _ _ _ _ g
    · exact g
  intro p l e R s m args below meth c D tys ad A P C0 lv st σ h H locs ls hl ho hs hP hS
  unfold vi_iload at h
  split at h
  next x hx => exact lv_iload_n C0.1 C0.2.1 hd hi (vg_lm_at hl hx) (h H locs ls hl ho (vg_okc trivial hs) hP hS)
  next => exact h.elim
theorem vs_iload {i : Nat} (hd : decode cc pc = .ok (.iload i, 2)) (hn : pc + 2 = n) : vg_Snd tb nw shp nm cl tyl cc nL own ret d pc (vi_iload i n) := by
  subst hn
  refine ⟨vs_m1 fun K K' h lv st σ g => ?_, ?_⟩
  · split at g
    · exact h _ _ _ _ g
    · exact g
  intro p l e R s m args below meth c D tys ad A P C0 lv st σ h H locs ls hl ho hs hP hS
  unfold vi_iload at h
  split at h
  next x hx => exact lv_iload C0.1 C0.2.1 hd (vg_lm_at hl hx) (h H locs ls hl ho (vg_okc trivial hs) hP hS)
  next => exact h.elim
theorem vs_lload_n {k : Fin 4} {i : Nat} (hd : decode cc pc = .ok (.lload_n k, 1)) (hi : (k : Nat) = i) (hn : pc + 1 = n) : vg_Snd tb nw shp nm cl tyl cc nL own ret d pc (vi_lload i n) := by
  subst hn
  refine ⟨vs_m1 fun K K' h lv st σ g => ?_, ?_⟩
  · split at g
    · exact h _ _ _ _ g
    · exact g
  intro p l e R s m args below meth c D tys ad A P C0 lv st σ h H locs ls hl ho hs hP hS
  unfold vi_lload at h
  split at h
  next x hx => exact lv_lload_n C0.1 C0.2.1 hd hi (vg_lm_at hl hx) (h H locs ls hl ho (vg_okc trivial hs) hP hS)
  next => exact h.elim
theorem vs_lload {i : Nat} (hd : decode cc pc = .ok (.lload i, 2)) (hn : pc + 2 = n) : vg_Snd tb nw shp nm cl tyl cc nL own ret d pc (vi_lload i n) := by
  subst hn
  refine ⟨vs_m1 fun K K' h lv st σ g => ?_, ?_⟩
  · split at g
    · exact h _ _ _ _ g
    · exact g
  intro p l e R s m args below meth c D tys ad A P C0 lv st σ h H locs ls hl ho hs hP hS
  unfold vi_lload at h
  split at h
  next x hx => exact lv_lload C0.1 C0.2.1 hd (vg_lm_at hl hx) (h H locs ls hl ho (vg_okc trivial hs) hP hS)
  next => exact h.elim
theorem vs_aload_n {k : Fin 4} {i : Nat} (hd : decode cc pc = .ok (.aload_n k, 1)) (hi : (k : Nat) = i) (hn : pc + 1 = n) : vg_Snd tb nw shp nm cl tyl cc nL own ret d pc (vi_aload i n) := by
  subst hn
  refine ⟨vs_m1 fun K K' h lv st σ g => ?_, ?_⟩
  · split at g
    · exact h _ _ _ _ g
    · exact g
  intro p l e R s m args below meth c D tys ad A P C0 lv st σ h H locs ls hl ho hs hP hS
  unfold vi_aload at h
  split at h
  next x hx => exact lv_aload_n C0.1 C0.2.1 hd hi (vg_lm_at hl hx) (h H locs ls hl ho (vg_okc (vg_okl ho hx) hs) hP hS)
  next => exact h.elim
theorem vs_aload {i : Nat} (hd : decode cc pc = .ok (.aload i, 2)) (hn : pc + 2 = n) : vg_Snd tb nw shp nm cl tyl cc nL own ret d pc (vi_aload i n) := by
  subst hn
  refine ⟨vs_m1 fun K K' h lv st σ g => ?_, ?_⟩
  · split at g
    · exact h _ _ _ _ g
    · exact g
  intro p l e R s m args below meth c D tys ad A P C0 lv st σ h H locs ls hl ho hs hP hS
  unfold vi_aload at h
  split at h
  next x hx => exact lv_aload C0.1 C0.2.1 hd (vg_lm_at hl hx) (h H locs ls hl ho (vg_okc (vg_okl ho hx) hs) hP hS)
  next => exact h.elim
theorem vs_istore_n {k : Fin 4} {i : Nat} (hd : decode cc pc = .ok (.istore_n k, 1)) (hi : (k : Nat) = i) (hL : i < nL) (hn : pc + 1 = n) : vg_Snd tb nw shp nm cl tyl cc nL own ret d pc (vi_istore i n) := by
  subst hn
  refine ⟨vs_m1 fun K K' h lv st σ g => ?_, ?_⟩
  · split at g
    · exact h _ _ _ _ g
    · exact g
  intro p l e R s m args below meth c D tys ad A P C0 lv st σ h H locs ls hl ho hs hP hS
  unfold vi_istore at h
  split at h
  next x t => exact lv_istore_n C0.1 C0.2.1 hd hi hl hL (vg_lm_put ad lv i (.inl (.int x))) (fun ls' hl' => h H locs ls' hl' (vg_ok_put ho trivial) (vg_okt hs) hP hS)
  next => exact h.elim
theorem vs_istore {i : Nat} (hd : decode cc pc = .ok (.istore i, 2)) (hL : i < nL) (hn : pc + 2 = n) : vg_Snd tb nw shp nm cl tyl cc nL own ret d pc (vi_istore i n) := by
  subst hn
  refine ⟨vs_m1 fun K K' h lv st σ g => ?_, ?_⟩
  · split at g
    · exact h _ _ _ _ g
    · exact g
  intro p l e R s m args below meth c D tys ad A P C0 lv st σ h H locs ls hl ho hs hP hS
  unfold vi_istore at h
  split at h
  next x t => exact lv_istore C0.1 C0.2.1 hd hl hL (vg_lm_put ad lv i (.inl (.int x))) (fun ls' hl' => h H locs ls' hl' (vg_ok_put ho trivial) (vg_okt hs) hP hS)
  next => exact h.elim
theorem vs_lstore_n {k : Fin 4} {i : Nat} (hd : decode cc pc = .ok (.lstore_n k, 1)) (hi : (k : Nat) = i) (hL : i + 1 < nL) (hn : pc + 1 = n) : vg_Snd tb nw shp nm cl tyl cc nL own ret d pc (vi_lstore i n) := by
  subst hn
  refine ⟨vs_m1 fun K K' h lv st σ g => ?_, ?_⟩
  · split at g
    · exact h _ _ _ _ g
    · exact g
  intro p l e R s m args below meth c D tys ad A P C0 lv st σ h H locs ls hl ho hs hP hS
  unfold vi_lstore at h
  split at h
  next x t => exact lv_lstore_n C0.1 C0.2.1 hd hi hl hL (vg_lm_put2 ad lv i (.inl (.long x))) (fun ls' hl' => h H locs ls' hl' (vg_ok_put2 ho trivial) (vg_okt hs) hP hS)
  next => exact h.elim
theorem vs_lstore {i : Nat} (hd : decode cc pc = .ok (.lstore i, 2)) (hL : i + 1 < nL) (hn : pc + 2 = n) : vg_Snd tb nw shp nm cl tyl cc nL own ret d pc (vi_lstore i n) := by
  subst hn
  refine ⟨vs_m1 fun K K' h lv st σ g => ?_, ?_⟩
  · split at g
    · exact h _ _ _ _ g
    · exact g
  intro p l e R s m args below meth c D tys ad A P C0 lv st σ h H locs ls hl ho hs hP hS
  unfold vi_lstore at h
  split at h
  next x t => exact lv_lstore C0.1 C0.2.1 hd hl hL (vg_lm_put2 ad lv i (.inl (.long x))) (fun ls' hl' => h H locs ls' hl' (vg_ok_put2 ho trivial) (vg_okt hs) hP hS)
  next => exact h.elim
theorem vs_astore_n {k : Fin 4} {i : Nat} (hd : decode cc pc = .ok (.astore_n k, 1)) (hi : (k : Nat) = i) (hL : i < nL) (hn : pc + 1 = n) : vg_Snd tb nw shp nm cl tyl cc nL own ret d pc (vi_astore i n) := by
  subst hn
  refine ⟨vs_m1 fun K K' h lv st σ g => ?_, ?_⟩
  · split at g
    · exact h _ _ _ _ g
    · exact g
  intro p l e R s m args below meth c D tys ad A P C0 lv st σ h H locs ls hl ho hs hP hS
  unfold vi_astore at h
  split at h
  next x t => exact lv_astore_n C0.1 C0.2.1 hd hi hl hL (vg_lm_put ad lv i (.inr x)) (fun ls' hl' => h H locs ls' hl' (vg_ok_put ho (vg_okh hs)) (vg_okt hs) hP hS)
  next => exact h.elim
theorem vs_astore {i : Nat} (hd : decode cc pc = .ok (.astore i, 2)) (hL : i < nL) (hn : pc + 2 = n) : vg_Snd tb nw shp nm cl tyl cc nL own ret d pc (vi_astore i n) := by
  subst hn
  refine ⟨vs_m1 fun K K' h lv st σ g => ?_, ?_⟩
  · split at g
    · exact h _ _ _ _ g
    · exact g
  intro p l e R s m args below meth c D tys ad A P C0 lv st σ h H locs ls hl ho hs hP hS
  unfold vi_astore at h
  split at h
  next x t => exact lv_astore C0.1 C0.2.1 hd hl hL (vg_lm_put ad lv i (.inr x)) (fun ls' hl' => h H locs ls' hl' (vg_ok_put ho (vg_okh hs)) (vg_okt hs) hP hS)
  next => exact h.elim
theorem vs_iinc {i : Nat} {z : Int} {v : Int32} (hd : decode cc pc = .ok (.iinc i z, 3)) (hv : Int32.ofInt z = v) (hn : pc + 3 = n) : vg_Snd tb nw shp nm cl tyl cc nL own ret d pc (vi_iinc i v n) := by
  subst hn
  refine ⟨vs_m1 fun K K' h lv st σ g => ?_, ?_⟩
  · split at g
    · exact h _ _ _ _ g
    · exact g
  intro p l e R s m args below meth c D tys ad A P C0 lv st σ h H locs ls hl ho hs hP hS
  unfold vi_iinc at h
  split at h
  next x hx =>
    obtain ⟨k, hk⟩ := List.getElem?_of_mem (vg_look_mem hx)
    exact lv_iinc (k := k) C0.1 C0.2.1 hd hl (by unfold vg_lm; rw [List.getElem?_map, hk]; rfl) (by rw [hv]) (vg_lms hl hx) (vg_lm_put ad lv i (.inl (.int (x + v)))) (fun ls' hl' => h H locs ls' hl' (vg_ok_put ho trivial) hs hP hS)
  next => exact h.elim
theorem vs_iadd (hd : decode cc pc = .ok (.iadd, 1)) (hn : pc + 1 = n) : vg_Snd tb nw shp nm cl tyl cc nL own ret d pc (vi_bin (fun x y => x + y) n) := by
  subst hn
  refine ⟨vs_m1 fun K K' h lv st σ g => ?_, ?_⟩
  · split at g
    · exact h _ _ _ _ g
    · exact g
  intro p l e R s m args below meth c D tys ad A P C0 lv st σ h H locs ls hl ho hs hP hS
  unfold vi_bin at h
  split at h
  next y x t => exact lv_iadd C0.1 C0.2.1 hd (h H locs ls hl ho (vg_okc trivial (vg_okt (vg_okt hs))) hP hS)
  next => exact h.elim
theorem vs_isub (hd : decode cc pc = .ok (.isub, 1)) (hn : pc + 1 = n) : vg_Snd tb nw shp nm cl tyl cc nL own ret d pc (vi_bin (fun x y => x - y) n) := by
  subst hn
  refine ⟨vs_m1 fun K K' h lv st σ g => ?_, ?_⟩
  · split at g
    · exact h _ _ _ _ g
    · exact g
  intro p l e R s m args below meth c D tys ad A P C0 lv st σ h H locs ls hl ho hs hP hS
  unfold vi_bin at h
  split at h
  next y x t => exact lv_isub C0.1 C0.2.1 hd (h H locs ls hl ho (vg_okc trivial (vg_okt (vg_okt hs))) hP hS)
  next => exact h.elim
theorem vs_imul (hd : decode cc pc = .ok (.imul, 1)) (hn : pc + 1 = n) : vg_Snd tb nw shp nm cl tyl cc nL own ret d pc (vi_bin (fun x y => x * y) n) := by
  subst hn
  refine ⟨vs_m1 fun K K' h lv st σ g => ?_, ?_⟩
  · split at g
    · exact h _ _ _ _ g
    · exact g
  intro p l e R s m args below meth c D tys ad A P C0 lv st σ h H locs ls hl ho hs hP hS
  unfold vi_bin at h
  split at h
  next y x t => exact lv_imul C0.1 C0.2.1 hd (h H locs ls hl ho (vg_okc trivial (vg_okt (vg_okt hs))) hP hS)
  next => exact h.elim
theorem vs_iand (hd : decode cc pc = .ok (.iand, 1)) (hn : pc + 1 = n) : vg_Snd tb nw shp nm cl tyl cc nL own ret d pc (vi_bin (fun x y => x &&& y) n) := by
  subst hn
  refine ⟨vs_m1 fun K K' h lv st σ g => ?_, ?_⟩
  · split at g
    · exact h _ _ _ _ g
    · exact g
  intro p l e R s m args below meth c D tys ad A P C0 lv st σ h H locs ls hl ho hs hP hS
  unfold vi_bin at h
  split at h
  next y x t => exact lv_iand C0.1 C0.2.1 hd (h H locs ls hl ho (vg_okc trivial (vg_okt (vg_okt hs))) hP hS)
  next => exact h.elim
theorem vs_ior (hd : decode cc pc = .ok (.ior, 1)) (hn : pc + 1 = n) : vg_Snd tb nw shp nm cl tyl cc nL own ret d pc (vi_bin (fun x y => x ||| y) n) := by
  subst hn
  refine ⟨vs_m1 fun K K' h lv st σ g => ?_, ?_⟩
  · split at g
    · exact h _ _ _ _ g
    · exact g
  intro p l e R s m args below meth c D tys ad A P C0 lv st σ h H locs ls hl ho hs hP hS
  unfold vi_bin at h
  split at h
  next y x t => exact lv_ior C0.1 C0.2.1 hd (h H locs ls hl ho (vg_okc trivial (vg_okt (vg_okt hs))) hP hS)
  next => exact h.elim
theorem vs_ixor (hd : decode cc pc = .ok (.ixor, 1)) (hn : pc + 1 = n) : vg_Snd tb nw shp nm cl tyl cc nL own ret d pc (vi_bin (fun x y => x ^^^ y) n) := by
  subst hn
  refine ⟨vs_m1 fun K K' h lv st σ g => ?_, ?_⟩
  · split at g
    · exact h _ _ _ _ g
    · exact g
  intro p l e R s m args below meth c D tys ad A P C0 lv st σ h H locs ls hl ho hs hP hS
  unfold vi_bin at h
  split at h
  next y x t => exact lv_ixor C0.1 C0.2.1 hd (h H locs ls hl ho (vg_okc trivial (vg_okt (vg_okt hs))) hP hS)
  next => exact h.elim
theorem vs_ishl (hd : decode cc pc = .ok (.ishl, 1)) (hn : pc + 1 = n) : vg_Snd tb nw shp nm cl tyl cc nL own ret d pc (vi_bin (fun x y => x <<< (y &&& 31)) n) := by
  subst hn
  refine ⟨vs_m1 fun K K' h lv st σ g => ?_, ?_⟩
  · split at g
    · exact h _ _ _ _ g
    · exact g
  intro p l e R s m args below meth c D tys ad A P C0 lv st σ h H locs ls hl ho hs hP hS
  unfold vi_bin at h
  split at h
  next y x t => exact lv_ishl C0.1 C0.2.1 hd (h H locs ls hl ho (vg_okc trivial (vg_okt (vg_okt hs))) hP hS)
  next => exact h.elim
theorem vs_ishr (hd : decode cc pc = .ok (.ishr, 1)) (hn : pc + 1 = n) : vg_Snd tb nw shp nm cl tyl cc nL own ret d pc (vi_bin (fun x y => x >>> (y &&& 31)) n) := by
  subst hn
  refine ⟨vs_m1 fun K K' h lv st σ g => ?_, ?_⟩
  · split at g
    · exact h _ _ _ _ g
    · exact g
  intro p l e R s m args below meth c D tys ad A P C0 lv st σ h H locs ls hl ho hs hP hS
  unfold vi_bin at h
  split at h
  next y x t => exact lv_ishr C0.1 C0.2.1 hd (h H locs ls hl ho (vg_okc trivial (vg_okt (vg_okt hs))) hP hS)
  next => exact h.elim
theorem vs_idiv (hd : decode cc pc = .ok (.idiv, 1)) (hn : pc + 1 = n) : vg_Snd tb nw shp nm cl tyl cc nL own ret d pc (vi_div (fun x y => x / y) n) := by
  subst hn
  refine ⟨vs_m1 fun K K' h lv st σ g => ?_, ?_⟩
  · split at g
    · exact ⟨g.1, h _ _ _ _ g.2⟩
    · exact g
  intro p l e R s m args below meth c D tys ad A P C0 lv st σ h H locs ls hl ho hs hP hS
  unfold vi_div at h
  split at h
  next y x t => exact lv_idiv C0.1 C0.2.1 hd h.1 (h.2 H locs ls hl ho (vg_okc trivial (vg_okt (vg_okt hs))) hP hS)
  next => exact h.elim
theorem vs_irem (hd : decode cc pc = .ok (.irem, 1)) (hn : pc + 1 = n) : vg_Snd tb nw shp nm cl tyl cc nL own ret d pc (vi_div (fun x y => x - x / y * y) n) := by
  subst hn
  refine ⟨vs_m1 fun K K' h lv st σ g => ?_, ?_⟩
  · split at g
    · exact ⟨g.1, h _ _ _ _ g.2⟩
    · exact g
  intro p l e R s m args below meth c D tys ad A P C0 lv st σ h H locs ls hl ho hs hP hS
  unfold vi_div at h
  split at h
  next y x t => exact lv_irem C0.1 C0.2.1 hd h.1 (h.2 H locs ls hl ho (vg_okc trivial (vg_okt (vg_okt hs))) hP hS)
  next => exact h.elim
theorem vs_ladd (hd : decode cc pc = .ok (.ladd, 1)) (hn : pc + 1 = n) : vg_Snd tb nw shp nm cl tyl cc nL own ret d pc (vi_lbin (fun x y => x + y) n) := by
  subst hn
  refine ⟨vs_m1 fun K K' h lv st σ g => ?_, ?_⟩
  · split at g
    · exact h _ _ _ _ g
    · exact g
  intro p l e R s m args below meth c D tys ad A P C0 lv st σ h H locs ls hl ho hs hP hS
  unfold vi_lbin at h
  split at h
  next y x t => exact lv_ladd C0.1 C0.2.1 hd (h H locs ls hl ho (vg_okc trivial (vg_okt (vg_okt hs))) hP hS)
  next => exact h.elim
theorem vs_lmul (hd : decode cc pc = .ok (.lmul, 1)) (hn : pc + 1 = n) : vg_Snd tb nw shp nm cl tyl cc nL own ret d pc (vi_lbin (fun x y => x * y) n) := by
  subst hn
  refine ⟨vs_m1 fun K K' h lv st σ g => ?_, ?_⟩
  · split at g
    · exact h _ _ _ _ g
    · exact g
  intro p l e R s m args below meth c D tys ad A P C0 lv st σ h H locs ls hl ho hs hP hS
  unfold vi_lbin at h
  split at h
  next y x t => exact lv_lmul C0.1 C0.2.1 hd (h H locs ls hl ho (vg_okc trivial (vg_okt (vg_okt hs))) hP hS)
  next => exact h.elim
theorem vs_i2l (hd : decode cc pc = .ok (.i2l, 1)) (hn : pc + 1 = n) : vg_Snd tb nw shp nm cl tyl cc nL own ret d pc (vi_i2l n) := by
  subst hn
  refine ⟨vs_m1 fun K K' h lv st σ g => ?_, ?_⟩
  · split at g
    · exact h _ _ _ _ g
    · exact g
  intro p l e R s m args below meth c D tys ad A P C0 lv st σ h H locs ls hl ho hs hP hS
  unfold vi_i2l at h
  split at h
  next x t => exact lv_i2l C0.1 C0.2.1 hd rfl (h H locs ls hl ho (vg_okc trivial (vg_okt hs)) hP hS)
  next => exact h.elim
theorem vs_if_eq {off : Int} {g : Nat} (hd : decode cc pc = .ok (.ifCond .eq off, 3)) (ht : (pc : Int) + off = (g : Int)) (hn : pc + 3 = n) : vg_Snd tb nw shp nm cl tyl cc nL own ret d pc (vi_if (fun x => x = 0) g n) := by
  subst hn
  refine ⟨vs_m1 fun K K' h lv st σ g => ?_, ?_⟩
  · split at g
    · exact ⟨fun q => h _ _ _ _ (g.1 q), fun q => h _ _ _ _ (g.2 q)⟩
    · exact g
  intro p l e R s m args below meth c D tys ad A P C0 lv st σ h H locs ls hl ho hs hP hS
  unfold vi_if at h
  split at h
  next x t => exact lv_if_eq C0.1 C0.2.1 hd ht (fun q => h.1 q H locs ls hl ho (vg_okt hs) hP hS) (fun q => h.2 q H locs ls hl ho (vg_okt hs) hP hS)
  next => exact h.elim
theorem vs_if_ne {off : Int} {g : Nat} (hd : decode cc pc = .ok (.ifCond .ne off, 3)) (ht : (pc : Int) + off = (g : Int)) (hn : pc + 3 = n) : vg_Snd tb nw shp nm cl tyl cc nL own ret d pc (vi_if (fun x => x = 0) n g) := by
  subst hn
  refine ⟨vs_m1 fun K K' h lv st σ g => ?_, ?_⟩
  · split at g
    · exact ⟨fun q => h _ _ _ _ (g.1 q), fun q => h _ _ _ _ (g.2 q)⟩
    · exact g
  intro p l e R s m args below meth c D tys ad A P C0 lv st σ h H locs ls hl ho hs hP hS
  unfold vi_if at h
  split at h
  next x t => exact lv_if_ne C0.1 C0.2.1 hd ht (fun q => h.2 q H locs ls hl ho (vg_okt hs) hP hS) (fun q => h.1 q H locs ls hl ho (vg_okt hs) hP hS)
  next => exact h.elim
theorem vs_if_lt {off : Int} {g : Nat} (hd : decode cc pc = .ok (.ifCond .lt off, 3)) (ht : (pc : Int) + off = (g : Int)) (hn : pc + 3 = n) : vg_Snd tb nw shp nm cl tyl cc nL own ret d pc (vi_if (fun x => x < 0) g n) := by
  subst hn
  refine ⟨vs_m1 fun K K' h lv st σ g => ?_, ?_⟩
  · split at g
    · exact ⟨fun q => h _ _ _ _ (g.1 q), fun q => h _ _ _ _ (g.2 q)⟩
    · exact g
  intro p l e R s m args below meth c D tys ad A P C0 lv st σ h H locs ls hl ho hs hP hS
  unfold vi_if at h
  split at h
  next x t => exact lv_if_lt C0.1 C0.2.1 hd ht (fun q => h.1 q H locs ls hl ho (vg_okt hs) hP hS) (fun q => h.2 q H locs ls hl ho (vg_okt hs) hP hS)
  next => exact h.elim
theorem vs_if_ge {off : Int} {g : Nat} (hd : decode cc pc = .ok (.ifCond .ge off, 3)) (ht : (pc : Int) + off = (g : Int)) (hn : pc + 3 = n) : vg_Snd tb nw shp nm cl tyl cc nL own ret d pc (vi_if (fun x => 0 ≤ x) g n) := by
  subst hn
  refine ⟨vs_m1 fun K K' h lv st σ g => ?_, ?_⟩
  · split at g
    · exact ⟨fun q => h _ _ _ _ (g.1 q), fun q => h _ _ _ _ (g.2 q)⟩
    · exact g
  intro p l e R s m args below meth c D tys ad A P C0 lv st σ h H locs ls hl ho hs hP hS
  unfold vi_if at h
  split at h
  next x t => exact lv_if_ge C0.1 C0.2.1 hd ht (fun q => h.1 q H locs ls hl ho (vg_okt hs) hP hS) (fun q => h.2 q H locs ls hl ho (vg_okt hs) hP hS)
  next => exact h.elim
theorem vs_if_gt {off : Int} {g : Nat} (hd : decode cc pc = .ok (.ifCond .gt off, 3)) (ht : (pc : Int) + off = (g : Int)) (hn : pc + 3 = n) : vg_Snd tb nw shp nm cl tyl cc nL own ret d pc (vi_if (fun x => 0 < x) g n) := by
  subst hn
  refine ⟨vs_m1 fun K K' h lv st σ g => ?_, ?_⟩
  · split at g
    · exact ⟨fun q => h _ _ _ _ (g.1 q), fun q => h _ _ _ _ (g.2 q)⟩
    · exact g
  intro p l e R s m args below meth c D tys ad A P C0 lv st σ h H locs ls hl ho hs hP hS
  unfold vi_if at h
  split at h
  next x t => exact lv_if_gt C0.1 C0.2.1 hd ht (fun q => h.1 q H locs ls hl ho (vg_okt hs) hP hS) (fun q => h.2 q H locs ls hl ho (vg_okt hs) hP hS)
  next => exact h.elim
theorem vs_if_le {off : Int} {g : Nat} (hd : decode cc pc = .ok (.ifCond .le off, 3)) (ht : (pc : Int) + off = (g : Int)) (hn : pc + 3 = n) : vg_Snd tb nw shp nm cl tyl cc nL own ret d pc (vi_if (fun x => x ≤ 0) g n) := by
  subst hn
  refine ⟨vs_m1 fun K K' h lv st σ g => ?_, ?_⟩
  · split at g
    · exact ⟨fun q => h _ _ _ _ (g.1 q), fun q => h _ _ _ _ (g.2 q)⟩
    · exact g
  intro p l e R s m args below meth c D tys ad A P C0 lv st σ h H locs ls hl ho hs hP hS
  unfold vi_if at h
  split at h
  next x t => exact lv_if_le C0.1 C0.2.1 hd ht (fun q => h.1 q H locs ls hl ho (vg_okt hs) hP hS) (fun q => h.2 q H locs ls hl ho (vg_okt hs) hP hS)
  next => exact h.elim
theorem vs_cmp_eq {off : Int} {g : Nat} (hd : decode cc pc = .ok (.if_icmp .eq off, 3)) (ht : (pc : Int) + off = (g : Int)) (hn : pc + 3 = n) : vg_Snd tb nw shp nm cl tyl cc nL own ret d pc (vi_cmp (fun x y => x = y) g n) := by
  subst hn
  refine ⟨vs_m1 fun K K' h lv st σ g => ?_, ?_⟩
  · split at g
    · exact ⟨fun q => h _ _ _ _ (g.1 q), fun q => h _ _ _ _ (g.2 q)⟩
    · exact g
  intro p l e R s m args below meth c D tys ad A P C0 lv st σ h H locs ls hl ho hs hP hS
  unfold vi_cmp at h
  split at h
  next y x t => exact lv_icmp_eq C0.1 C0.2.1 hd ht (fun q => h.1 q H locs ls hl ho (vg_okt (vg_okt hs)) hP hS) (fun q => h.2 q H locs ls hl ho (vg_okt (vg_okt hs)) hP hS)
  next => exact h.elim
theorem vs_cmp_ne {off : Int} {g : Nat} (hd : decode cc pc = .ok (.if_icmp .ne off, 3)) (ht : (pc : Int) + off = (g : Int)) (hn : pc + 3 = n) : vg_Snd tb nw shp nm cl tyl cc nL own ret d pc (vi_cmp (fun x y => x = y) n g) := by
  subst hn
  refine ⟨vs_m1 fun K K' h lv st σ g => ?_, ?_⟩
  · split at g
    · exact ⟨fun q => h _ _ _ _ (g.1 q), fun q => h _ _ _ _ (g.2 q)⟩
    · exact g
  intro p l e R s m args below meth c D tys ad A P C0 lv st σ h H locs ls hl ho hs hP hS
  unfold vi_cmp at h
  split at h
  next y x t => exact lv_icmp_ne C0.1 C0.2.1 hd ht (fun q => h.2 q H locs ls hl ho (vg_okt (vg_okt hs)) hP hS) (fun q => h.1 q H locs ls hl ho (vg_okt (vg_okt hs)) hP hS)
  next => exact h.elim
theorem vs_cmp_lt {off : Int} {g : Nat} (hd : decode cc pc = .ok (.if_icmp .lt off, 3)) (ht : (pc : Int) + off = (g : Int)) (hn : pc + 3 = n) : vg_Snd tb nw shp nm cl tyl cc nL own ret d pc (vi_cmp (fun x y => x < y) g n) := by
  subst hn
  refine ⟨vs_m1 fun K K' h lv st σ g => ?_, ?_⟩
  · split at g
    · exact ⟨fun q => h _ _ _ _ (g.1 q), fun q => h _ _ _ _ (g.2 q)⟩
    · exact g
  intro p l e R s m args below meth c D tys ad A P C0 lv st σ h H locs ls hl ho hs hP hS
  unfold vi_cmp at h
  split at h
  next y x t => exact lv_icmp_lt C0.1 C0.2.1 hd ht (fun q => h.1 q H locs ls hl ho (vg_okt (vg_okt hs)) hP hS) (fun q => h.2 q H locs ls hl ho (vg_okt (vg_okt hs)) hP hS)
  next => exact h.elim
theorem vs_cmp_ge {off : Int} {g : Nat} (hd : decode cc pc = .ok (.if_icmp .ge off, 3)) (ht : (pc : Int) + off = (g : Int)) (hn : pc + 3 = n) : vg_Snd tb nw shp nm cl tyl cc nL own ret d pc (vi_cmp (fun x y => y ≤ x) g n) := by
  subst hn
  refine ⟨vs_m1 fun K K' h lv st σ g => ?_, ?_⟩
  · split at g
    · exact ⟨fun q => h _ _ _ _ (g.1 q), fun q => h _ _ _ _ (g.2 q)⟩
    · exact g
  intro p l e R s m args below meth c D tys ad A P C0 lv st σ h H locs ls hl ho hs hP hS
  unfold vi_cmp at h
  split at h
  next y x t => exact lv_icmp_ge C0.1 C0.2.1 hd ht (fun q => h.1 q H locs ls hl ho (vg_okt (vg_okt hs)) hP hS) (fun q => h.2 q H locs ls hl ho (vg_okt (vg_okt hs)) hP hS)
  next => exact h.elim
theorem vs_cmp_gt {off : Int} {g : Nat} (hd : decode cc pc = .ok (.if_icmp .gt off, 3)) (ht : (pc : Int) + off = (g : Int)) (hn : pc + 3 = n) : vg_Snd tb nw shp nm cl tyl cc nL own ret d pc (vi_cmp (fun x y => y < x) g n) := by
  subst hn
  refine ⟨vs_m1 fun K K' h lv st σ g => ?_, ?_⟩
  · split at g
    · exact ⟨fun q => h _ _ _ _ (g.1 q), fun q => h _ _ _ _ (g.2 q)⟩
    · exact g
  intro p l e R s m args below meth c D tys ad A P C0 lv st σ h H locs ls hl ho hs hP hS
  unfold vi_cmp at h
  split at h
  next y x t => exact lv_icmp_gt C0.1 C0.2.1 hd ht (fun q => h.1 q H locs ls hl ho (vg_okt (vg_okt hs)) hP hS) (fun q => h.2 q H locs ls hl ho (vg_okt (vg_okt hs)) hP hS)
  next => exact h.elim
theorem vs_cmp_le {off : Int} {g : Nat} (hd : decode cc pc = .ok (.if_icmp .le off, 3)) (ht : (pc : Int) + off = (g : Int)) (hn : pc + 3 = n) : vg_Snd tb nw shp nm cl tyl cc nL own ret d pc (vi_cmp (fun x y => x ≤ y) g n) := by
  subst hn
  refine ⟨vs_m1 fun K K' h lv st σ g => ?_, ?_⟩
  · split at g
    · exact ⟨fun q => h _ _ _ _ (g.1 q), fun q => h _ _ _ _ (g.2 q)⟩
    · exact g
  intro p l e R s m args below meth c D tys ad A P C0 lv st σ h H locs ls hl ho hs hP hS
  unfold vi_cmp at h
  split at h
  next y x t => exact lv_icmp_le C0.1 C0.2.1 hd ht (fun q => h.1 q H locs ls hl ho (vg_okt (vg_okt hs)) hP hS) (fun q => h.2 q H locs ls hl ho (vg_okt (vg_okt hs)) hP hS)
  next => exact h.elim
theorem vs_goto {off : Int} {g : Nat} (hd : decode cc pc = .ok (.goto off, 3)) (ht : (pc : Int) + off = (g : Int)) : vg_Snd tb nw shp nm cl tyl cc nL own ret d pc (vi_goto g) := by
  refine ⟨vs_m1 fun K K' h lv st σ g => h _ _ _ _ g, ?_⟩
  intro p l e R s m args below meth c D tys ad A P C0 lv st σ h H locs ls hl ho hs hP hS
  exact lv_goto C0.1 C0.2.1 hd ht (h H locs ls hl ho hs hP hS)
theorem vi_sw0_mono {x : Int32} {d d' : Prop} (hd : d → d') {α : Type} {f f' : α → Prop} (hf : ∀ a, f a → f' a) : ∀ (l : List (Int32 × α)), vi_sw0 x d (l.map (fun q => (q.1, f q.2))) → vi_sw0 x d' (l.map (fun q => (q.1, f' q.2)))
  | [], h => hd h
  | q :: r, h => ⟨fun z => hf _ (h.1 z), fun z => vi_sw0_mono hd hf r (h.2 z)⟩
theorem vs_tsw0 {x : Int32} {dP : Prop} {α : Type} {f : α → Prop} : ∀ (cs : List (Int32 × α)), vi_sw0 x dP (cs.map (fun q => (q.1, f q.2))) → (∃ (i : Nat) (q : Int32 × α), cs[i]? = some q ∧ x = q.1 ∧ f q.2) ∨ ((∀ (i : Nat) (q : Int32 × α), cs[i]? = some q → ¬ x = q.1) ∧ dP)
  | [], h => Or.inr ⟨fun i q hq => by simp at hq, h⟩
  | q :: r, h => by
    by_cases hx : x = q.1
    · exact Or.inl ⟨0, q, rfl, hx, h.1 hx⟩
    · rcases vs_tsw0 r (h.2 hx) with ⟨i, a, h1, h2, h3⟩ | ⟨h1, h2⟩
      · exact Or.inl ⟨i + 1, a, h1, h2, h3⟩
      · refine Or.inr ⟨fun i a ha => ?_, h2⟩
        cases i with
        | zero => cases ha; exact hx
        | succ i => exact h1 i a ha
/-- a tableswitch from 0: its targets in a row -/
theorem vs_tsw {dflt hi : Int} {offs : Array Int} {len g : Nat} {cs : List (Int32 × Nat)} (hd : decode cc pc = .ok (.tableswitch dflt 0 hi offs, len)) (hg : (pc : Int) + dflt = (g : Int)) (hh : hi + 1 = (cs.length : Int))
    (hc : ∀ i : Nat, i < cs.length → ∃ q off, cs[i]? = some q ∧ offs[i]? = some off ∧ q.1.toInt = (i : Int) ∧ (pc : Int) + off = (q.2 : Int)) : vg_Snd tb nw shp nm cl tyl cc nL own ret d pc (vi_sw cs g) := by
  refine ⟨vs_m1 fun K K' h lv st σ g => ?_, ?_⟩
  · split at g
    · exact vi_sw0_mono (h _ _ _ _) (f := fun q => K q lv _ σ) (f' := fun q => K' q lv _ σ) (fun q => h _ _ _ _) cs g
    · exact g
  intro p l e R s m args below meth c D tys ad A P C0 lv st σ h H locs ls hl ho hs hP hS
  unfold vi_sw at h
  split at h
  next x t =>
    rcases vs_tsw0 (f := fun q => vg_X shp nm cl nL p l e R s m args below meth c D tys ad A P q lv t σ) cs h with ⟨i, q, h1, h2, h3⟩ | ⟨h1, h2⟩
    · have hi := (List.getElem?_eq_some_iff.mp h1).1
      obtain ⟨q', off, e1, e2, e3, e4⟩ := hc i hi
      cases e1.symm.trans h1
      refine lv_tableIn C0.1 C0.2.1 hd (by rw [h2, e3]; omega) (by rw [h2, e3]; omega) (off := off) ?_ e4 (h3 H locs ls hl ho (vg_okt hs) hP hS)
      rw [h2, e3, Int.sub_zero, Int.toNat_natCast]
      exact e2
    · refine lv_tableOut C0.1 C0.2.1 hd ?_ hg (h2 H locs ls hl ho (vg_okt hs) hP hS)
      rcases Int.lt_or_le x.toInt 0 with z | z
      · exact Or.inl z
      · refine Or.inr (Int.not_le.mp fun y => ?_)
        have hi : x.toInt.toNat < cs.length := by omega
        obtain ⟨q', off, e1, e2, e3, e4⟩ := hc _ hi
        exact h1 _ q' e1 (Int32.toInt_inj.mp (by rw [e3]; omega))
  next => exact h.elim
theorem vg_cat1 {ad : vgN → Nat} {v : vgV} (h : vg_c2 v = false) : (vg_cv ad v).category = 1 := by
  cases v with
  | inl v => cases v <;> first | rfl | cases h
  | inr n => rfl
theorem vg_wd_sum (ad : vgN → Nat) : ∀ t : vgT, ((t.map (vg_cv ad)).map fun v => v.category).sum = vg_wd t
  | [] => rfl
  | v :: t => by
    have ih := vg_wd_sum ad t
    have h := vg_c2_eq ad v
    show (vg_cv ad v).category + ((t.map (vg_cv ad)).map fun v => v.category).sum = (if vg_c2 v then 2 else 1) + vg_wd t
    rw [ih]
    cases hc : vg_c2 v with
    | true => rw [hc] at h; simp [beq_iff_eq.mp h]
    | false => simp [vg_cat1 hc]
theorem vs_dup (hd : decode cc pc = .ok (.dup, 1)) (hn : pc + 1 = n) : vg_Snd tb nw shp nm cl tyl cc nL own ret d pc (vi_dup n) := by
  subst hn
  refine ⟨vs_m1 fun K K' h lv st σ g => ?_, ?_⟩
  · split at g
    · exact ⟨g.1, h _ _ _ _ g.2⟩
    · exact g
  intro p l e R s m args below meth c D tys ad A P C0 lv st σ h H locs ls hl ho hs hP hS
  unfold vi_dup at h
  split at h
  next a t => exact lv_dup C0.1 C0.2.1 hd (vg_cat1 h.1) (h.2 H locs ls hl ho (vg_okc (vg_okh hs) hs) hP hS)
  next => exact h.elim
theorem vs_pop (hd : decode cc pc = .ok (.pop, 1)) (hn : pc + 1 = n) : vg_Snd tb nw shp nm cl tyl cc nL own ret d pc (vi_pop n) := by
  subst hn
  refine ⟨vs_m1 fun K K' h lv st σ g => ?_, ?_⟩
  · split at g
    · exact ⟨g.1, h _ _ _ _ g.2⟩
    · exact g
  intro p l e R s m args below meth c D tys ad A P C0 lv st σ h H locs ls hl ho hs hP hS
  unfold vi_pop at h
  split at h
  next a t => exact lv_pop C0.1 C0.2.1 hd (vg_cat1 h.1) (h.2 H locs ls hl ho (vg_okt hs) hP hS)
  next => exact h.elim
theorem vs_dup_x1 (hd : decode cc pc = .ok (.dup_x1, 1)) (hn : pc + 1 = n) : vg_Snd tb nw shp nm cl tyl cc nL own ret d pc (vi_dupx1 n) := by
  subst hn
  refine ⟨vs_m1 fun K K' h lv st σ g => ?_, ?_⟩
  · split at g
    · exact ⟨g.1, h _ _ _ _ g.2⟩
    · exact g
  intro p l e R s m args below meth c D tys ad A P C0 lv st σ h H locs ls hl ho hs hP hS
  unfold vi_dupx1 at h
  split at h
  next a b t => exact lv_dup_x1 C0.1 C0.2.1 hd (vg_cat1 h.1.1) (vg_cat1 h.1.2) (h.2 H locs ls hl ho (vg_okc (vg_okh hs) (vg_okc (vg_okh (vg_okt hs)) (vg_okc (vg_okh hs) (vg_okt (vg_okt hs))))) hP hS)
  next => exact h.elim
theorem vs_dup2 (hd : decode cc pc = .ok (.dup2, 1)) (hn : pc + 1 = n) : vg_Snd tb nw shp nm cl tyl cc nL own ret d pc (vi_dup2 n) := by
  subst hn
  refine ⟨vs_m1 fun K K' h lv st σ g => ?_, ?_⟩
  · split at g
    · exact ⟨g.1, h _ _ _ _ g.2⟩
    · exact g
  intro p l e R s m args below meth c D tys ad A P C0 lv st σ h H locs ls hl ho hs hP hS
  unfold vi_dup2 at h
  split at h
  next a b t => exact lv_dup2_11 C0.1 C0.2.1 hd (vg_cat1 h.1.1) (vg_cat1 h.1.2) (h.2 H locs ls hl ho (vg_okc (vg_okh hs) (vg_okc (vg_okh (vg_okt hs)) hs)) hP hS)
  next => exact h.elim
theorem vs_ireturn (hd : decode cc pc = .ok (.ireturn, 1)) (hr : ret = some .int) : vg_Snd tb nw shp nm cl tyl cc nL own ret d pc vi_ret := by
  refine ⟨fun P K K' h lv st σ g => g, ?_⟩
  intro p l e R s m args below meth c D tys ad A P C0 lv st σ h H locs ls hl ho hs hP hS
  unfold vi_ret at h
  split at h
  next x => exact W.iret (v := x) C0.1 C0.2.1 (C0.2.2.2.2.2.2.2.1.trans hr) (fun t ht hW => ⟨⟨some (.inl (.int x)), σ, rfl, h, fun v hv => by cases hv; exact trivial, by rw [ht]; exact hP⟩, hS.F ht⟩) hS.2.2 hd C0.2.2.2.2.2.2.2.2.1
  next => exact h.elim
theorem vs_zreturn (hd : decode cc pc = .ok (.ireturn, 1)) (hr : ret = some .boolean) : vg_Snd tb nw shp nm cl tyl cc nL own ret d pc vi_retZ := by
  refine ⟨fun P K K' h lv st σ g => g, ?_⟩
  intro p l e R s m args below meth c D tys ad A P C0 lv st σ h H locs ls hl ho hs hP hS
  unfold vi_retZ at h
  split at h
  next x => exact W.zret (v := x) C0.1 C0.2.1 (C0.2.2.2.2.2.2.2.1.trans hr) (by rcases h.1 with rfl | rfl <;> rfl) (fun t ht hW => ⟨⟨some (.inl (.int x)), σ, rfl, h.2, fun v hv => by cases hv; exact trivial, by rw [ht]; exact hP⟩, hS.F ht⟩) hS.2.2 hd C0.2.2.2.2.2.2.2.2.1
  next => exact h.elim
theorem vs_lreturn (hd : decode cc pc = .ok (.lreturn, 1)) (hr : ret = some .long) : vg_Snd tb nw shp nm cl tyl cc nL own ret d pc vi_retL := by
  refine ⟨fun P K K' h lv st σ g => g, ?_⟩
  intro p l e R s m args below meth c D tys ad A P C0 lv st σ h H locs ls hl ho hs hP hS
  unfold vi_retL at h
  split at h
  next x => exact W.lret (v := x) C0.1 C0.2.1 (C0.2.2.2.2.2.2.2.1.trans hr) (fun t ht hW => ⟨⟨some (.inl (.long x)), σ, rfl, h, fun v hv => by cases hv; exact trivial, by rw [ht]; exact hP⟩, hS.F ht⟩) hS.2.2 hd C0.2.2.2.2.2.2.2.2.1
  next => exact h.elim
theorem vs_return (hd : decode cc pc = .ok (.return_, 1)) (hr : ret = none) : vg_Snd tb nw shp nm cl tyl cc nL own ret d pc vi_retV := by
  refine ⟨fun P K K' h lv st σ g => g, ?_⟩
  intro p l e R s m args below meth c D tys ad A P C0 lv st σ h H locs ls hl ho hs hP hS
  unfold vi_retV at h
  split at h
  next => exact W.vret C0.1 C0.2.1 (C0.2.2.2.2.2.2.2.1.trans hr) (fun t ht hW => ⟨⟨none, σ, rfl, h, fun v hv => (by cases hv), by rw [ht]; exact hP⟩, hS.F ht⟩) hS.2.2 hd C0.2.2.2.2.2.2.2.2.1
  next => exact h.elim
end VS
