/-! the machine vh: instructions that touch no cell (laid by program out of those of vg) -/
def hi_no : vhF := fun _ _ _ _ _ => False
def hi_icst (v : Int32) (n : Nat) : vhF := fun _ K lv st σ => K n lv (.inl (.int v) :: st) σ
def hi_lcst (v : Int64) (n : Nat) : vhF := fun _ K lv st σ => K n lv (.inl (.long v) :: st) σ
def hi_iload (i n : Nat) : vhF := fun _ K lv st σ => match vg_look lv i with
  | some (.inl (.int x)) => K n lv (.inl (.int x) :: st) σ
  | _ => False
def hi_lload (i n : Nat) : vhF := fun _ K lv st σ => match vg_look lv i with
  | some (.inl (.long x)) => K n lv (.inl (.long x) :: st) σ
  | _ => False
def hi_aload (i n : Nat) : vhF := fun _ K lv st σ => match vg_look lv i with
  | some (.inr x) => K n lv (.inr x :: st) σ
  | _ => False
def hi_istore (i n : Nat) : vhF := fun _ K lv st σ => match st with
  | .inl (.int x) :: t => K n (vg_put lv i (.inl (.int x))) t σ
  | _ => False
def hi_lstore (i n : Nat) : vhF := fun _ K lv st σ => match st with
  | .inl (.long x) :: t => K n (vg_put2 lv i (.inl (.long x))) t σ
  | _ => False
def hi_astore (i n : Nat) : vhF := fun _ K lv st σ => match st with
  | .inr x :: t => K n (vg_put lv i (.inr x)) t σ
  | _ => False
def hi_iinc (i : Nat) (v : Int32) (n : Nat) : vhF := fun _ K lv st σ => match vg_look lv i with
  | some (.inl (.int x)) => K n (vg_put lv i (.inl (.int (x + v)))) st σ
  | _ => False
def hi_bin (f : Int32 → Int32 → Int32) (n : Nat) : vhF := fun _ K lv st σ => match st with
  | .inl (.int y) :: .inl (.int x) :: t => K n lv (.inl (.int (f x y)) :: t) σ
  | _ => False
def hi_div (f : Int32 → Int32 → Int32) (n : Nat) : vhF := fun _ K lv st σ => match st with
  | .inl (.int y) :: .inl (.int x) :: t => ¬ y = 0 ∧ K n lv (.inl (.int (f x y)) :: t) σ
  | _ => False
def hi_un (f : Int32 → Int32) (n : Nat) : vhF := fun _ K lv st σ => match st with
  | .inl (.int x) :: t => K n lv (.inl (.int (f x)) :: t) σ
  | _ => False
def hi_lbin (f : Int64 → Int64 → Int64) (n : Nat) : vhF := fun _ K lv st σ => match st with
  | .inl (.long y) :: .inl (.long x) :: t => K n lv (.inl (.long (f x y)) :: t) σ
  | _ => False
def hi_i2l (n : Nat) : vhF := fun _ K lv st σ => match st with
  | .inl (.int x) :: t => K n lv (.inl (.long x.toInt64) :: t) σ
  | _ => False
def hi_if (c : Int32 → Prop) (g n : Nat) : vhF := fun _ K lv st σ => match st with
  | .inl (.int x) :: t => (c x → K g lv t σ) ∧ (¬ c x → K n lv t σ)
  | _ => False
def hi_cmp (c : Int32 → Int32 → Prop) (g n : Nat) : vhF := fun _ K lv st σ => match st with
  | .inl (.int y) :: .inl (.int x) :: t => (c x y → K g lv t σ) ∧ (¬ c x y → K n lv t σ)
  | _ => False
def hi_goto (g : Nat) : vhF := fun _ K lv st σ => K g lv st σ
def hi_dup (n : Nat) : vhF := fun _ K lv st σ => match st with
  | a :: t => vg_c2 a = false ∧ K n lv (a :: a :: t) σ
  | _ => False
def hi_pop (n : Nat) : vhF := fun _ K lv st σ => match st with
  | a :: t => vg_c2 a = false ∧ K n lv t σ
  | _ => False
def hi_dupx1 (n : Nat) : vhF := fun _ K lv st σ => match st with
  | a :: b :: t => (vg_c2 a = false ∧ vg_c2 b = false) ∧ K n lv (a :: b :: a :: t) σ
  | _ => False
def hi_dup2 (n : Nat) : vhF := fun _ K lv st σ => match st with
  | a :: b :: t => (vg_c2 a = false ∧ vg_c2 b = false) ∧ K n lv (a :: b :: a :: b :: t) σ
  | _ => False
def hi_ret : vhF := fun P _ _ st σ => match st with
  | [.inl (.int x)] => P (some (.inl (.int x))) σ
  | _ => False
def hi_retL : vhF := fun P _ _ st σ => match st with
  | [.inl (.long x)] => P (some (.inl (.long x))) σ
  | _ => False
def hi_retV : vhF := fun P _ _ st σ => match st with
  | [] => P none σ
  | _ => False

section HT
variable {tb : List Cond} {nw : vhW} {cl : List vw_C} {tyl : List FieldType} {cc : ByteArray} {nL : Nat} {own : String} {ret : Option FieldType} {d Rc Rs : Nat} {ini : Bool} {pc n : Nat}
theorem hs_m1 {F : (vhK → vgL → vgT → vhT → Prop)} (h : ∀ (K K' : vhK), (∀ pc lv st σ, K pc lv st σ → K' pc lv st σ) → ∀ lv st σ, F K lv st σ → F K' lv st σ) : vh_Mono (fun _ => F) := fun _ K K' => h K K'
theorem ht_iconst {z : Int} {v : Int32} (hd : decode cc pc = .ok (.iconst z, 1)) (hv : Int32.ofInt z = v) (hn : pc + 1 = n) : vh_Snd tb nw cl tyl cc nL own ret d Rc Rs ini pc (hi_icst v n) := by
  subst hn
  refine ⟨fun P K K' h lv st σ g => h _ _ _ _ g, ?_⟩
  intro p l e R s m args below meth c D tys n0 ad0 A P Z C0 E0 lv st σ h ad H locs ls hag hl ho hs hwf hP hD hS
  exact lv_iconst C0.1 C0.2.1 hd hv (h ad H locs ls hag hl ho (vg_okc trivial hs) hwf hP hD hS)
theorem ht_bipush {z : Int} {v : Int32} (hd : decode cc pc = .ok (.bipush z, 2)) (hv : (Int8.ofInt z).toInt32 = v) (hn : pc + 2 = n) : vh_Snd tb nw cl tyl cc nL own ret d Rc Rs ini pc (hi_icst v n) := by
  subst hn
  refine ⟨fun P K K' h lv st σ g => h _ _ _ _ g, ?_⟩
  intro p l e R s m args below meth c D tys n0 ad0 A P Z C0 E0 lv st σ h ad H locs ls hag hl ho hs hwf hP hD hS
  exact lv_bipush C0.1 C0.2.1 hd hv (h ad H locs ls hag hl ho (vg_okc trivial hs) hwf hP hD hS)
theorem ht_sipush {z : Int} {v : Int32} (hd : decode cc pc = .ok (.sipush z, 3)) (hv : (Int16.ofInt z).toInt32 = v) (hn : pc + 3 = n) : vh_Snd tb nw cl tyl cc nL own ret d Rc Rs ini pc (hi_icst v n) := by
  subst hn
  refine ⟨fun P K K' h lv st σ g => h _ _ _ _ g, ?_⟩
  intro p l e R s m args below meth c D tys n0 ad0 A P Z C0 E0 lv st σ h ad H locs ls hag hl ho hs hwf hP hD hS
  exact lv_sipush C0.1 C0.2.1 hd hv (h ad H locs ls hag hl ho (vg_okc trivial hs) hwf hP hD hS)
theorem ht_ldc {ix : Nat} {v : Int32} (hd : decode cc pc = .ok (.ldc ix, 2)) (hw : Cond.constant own ix v ∈ tb) (hn : pc + 2 = n) : vh_Snd tb nw cl tyl cc nL own ret d Rc Rs ini pc (hi_icst v n) := by
  subst hn
  refine ⟨fun P K K' h lv st σ g => h _ _ _ _ g, ?_⟩
  intro p l e R s m args below meth c D tys n0 ad0 A P Z C0 E0 lv st σ h ad H locs ls hag hl ho hs hwf hP hD hS
  exact lv_ldc C0.1 C0.2.1 C0.2.2.2.1 (C0.2.2.2.2.1 _ hw) hd (h ad H locs ls hag hl ho (vg_okc trivial hs) hwf hP hD hS)
theorem ht_ldcw {ix : Nat} {v : Int32} (hd : decode cc pc = .ok (.ldc_w ix, 3)) (hw : Cond.constant own ix v ∈ tb) (hn : pc + 3 = n) : vh_Snd tb nw cl tyl cc nL own ret d Rc Rs ini pc (hi_icst v n) := by
  subst hn
  refine ⟨fun P K K' h lv st σ g => h _ _ _ _ g, ?_⟩
  intro p l e R s m args below meth c D tys n0 ad0 A P Z C0 E0 lv st σ h ad H locs ls hag hl ho hs hwf hP hD hS
  exact lv_ldcw C0.1 C0.2.1 C0.2.2.2.1 (C0.2.2.2.2.1 _ hw) hd (h ad H locs ls hag hl ho (vg_okc trivial hs) hwf hP hD hS)
theorem ht_ldc2 {ix : Nat} {v : Int64} (hd : decode cc pc = .ok (.ldc2_w ix, 3)) (hw : Cond.constantLong own ix v ∈ tb) (hn : pc + 3 = n) : vh_Snd tb nw cl tyl cc nL own ret d Rc Rs ini pc (hi_lcst v n) := by
  subst hn
  refine ⟨fun P K K' h lv st σ g => h _ _ _ _ g, ?_⟩
  intro p l e R s m args below meth c D tys n0 ad0 A P Z C0 E0 lv st σ h ad H locs ls hag hl ho hs hwf hP hD hS
  exact lv_ldc2 C0.1 C0.2.1 C0.2.2.2.1 (C0.2.2.2.2.1 _ hw) hd (h ad H locs ls hag hl ho (vg_okc trivial hs) hwf hP hD hS)
theorem ht_iload_n {k : Fin 4} {i : Nat} (hd : decode cc pc = .ok (.iload_n k, 1)) (hi : (k : Nat) = i) (hn : pc + 1 = n) : vh_Snd tb nw cl tyl cc nL own ret d Rc Rs ini pc (hi_iload i n) := by
  subst hn
  refine ⟨hs_m1 fun K K' h lv st σ g => ?_, ?_⟩
  · split at g
    · exact h _ _ _ _ g
    · exact g
  intro p l e R s m args below meth c D tys n0 ad0 A P Z C0 E0 lv st σ h ad H locs ls hag hl ho hs hwf hP hD hS
  unfold hi_iload at h
  split at h
  next x hx => exact lv_iload_n C0.1 C0.2.1 hd hi (vg_lm_at hl hx) (h ad H locs ls hag hl ho (vg_okc trivial hs) hwf hP hD hS)
  next => exact h.elim
theorem ht_iload {i : Nat} (hd : decode cc pc = .ok (.iload i, 2)) (hn : pc + 2 = n) : vh_Snd tb nw cl tyl cc nL own ret d Rc Rs ini pc (hi_iload i n) := by
  subst hn
  refine ⟨hs_m1 fun K K' h lv st σ g => ?_, ?_⟩
  · split at g
    · exact h _ _ _ _ g
    · exact g
  intro p l e R s m args below meth c D tys n0 ad0 A P Z C0 E0 lv st σ h ad H locs ls hag hl ho hs hwf hP hD hS
  unfold hi_iload at h
  split at h
  next x hx => exact lv_iload C0.1 C0.2.1 hd (vg_lm_at hl hx) (h ad H locs ls hag hl ho (vg_okc trivial hs) hwf hP hD hS)
  next => exact h.elim
theorem ht_lload_n {k : Fin 4} {i : Nat} (hd : decode cc pc = .ok (.lload_n k, 1)) (hi : (k : Nat) = i) (hn : pc + 1 = n) : vh_Snd tb nw cl tyl cc nL own ret d Rc Rs ini pc (hi_lload i n) := by
  subst hn
  refine ⟨hs_m1 fun K K' h lv st σ g => ?_, ?_⟩
  · split at g
    · exact h _ _ _ _ g
    · exact g
  intro p l e R s m args below meth c D tys n0 ad0 A P Z C0 E0 lv st σ h ad H locs ls hag hl ho hs hwf hP hD hS
  unfold hi_lload at h
  split at h
  next x hx => exact lv_lload_n C0.1 C0.2.1 hd hi (vg_lm_at hl hx) (h ad H locs ls hag hl ho (vg_okc trivial hs) hwf hP hD hS)
  next => exact h.elim
theorem ht_lload {i : Nat} (hd : decode cc pc = .ok (.lload i, 2)) (hn : pc + 2 = n) : vh_Snd tb nw cl tyl cc nL own ret d Rc Rs ini pc (hi_lload i n) := by
  subst hn
  refine ⟨hs_m1 fun K K' h lv st σ g => ?_, ?_⟩
  · split at g
    · exact h _ _ _ _ g
    · exact g
  intro p l e R s m args below meth c D tys n0 ad0 A P Z C0 E0 lv st σ h ad H locs ls hag hl ho hs hwf hP hD hS
  unfold hi_lload at h
  split at h
  next x hx => exact lv_lload C0.1 C0.2.1 hd (vg_lm_at hl hx) (h ad H locs ls hag hl ho (vg_okc trivial hs) hwf hP hD hS)
  next => exact h.elim
theorem ht_aload_n {k : Fin 4} {i : Nat} (hd : decode cc pc = .ok (.aload_n k, 1)) (hi : (k : Nat) = i) (hn : pc + 1 = n) : vh_Snd tb nw cl tyl cc nL own ret d Rc Rs ini pc (hi_aload i n) := by
  subst hn
  refine ⟨hs_m1 fun K K' h lv st σ g => ?_, ?_⟩
  · split at g
    · exact h _ _ _ _ g
    · exact g
  intro p l e R s m args below meth c D tys n0 ad0 A P Z C0 E0 lv st σ h ad H locs ls hag hl ho hs hwf hP hD hS
  unfold hi_aload at h
  split at h
  next x hx => exact lv_aload_n C0.1 C0.2.1 hd hi (vg_lm_at hl hx) (h ad H locs ls hag hl ho (vg_okc (vg_okl ho hx) hs) hwf hP hD hS)
  next => exact h.elim
theorem ht_aload {i : Nat} (hd : decode cc pc = .ok (.aload i, 2)) (hn : pc + 2 = n) : vh_Snd tb nw cl tyl cc nL own ret d Rc Rs ini pc (hi_aload i n) := by
  subst hn
  refine ⟨hs_m1 fun K K' h lv st σ g => ?_, ?_⟩
  · split at g
    · exact h _ _ _ _ g
    · exact g
  intro p l e R s m args below meth c D tys n0 ad0 A P Z C0 E0 lv st σ h ad H locs ls hag hl ho hs hwf hP hD hS
  unfold hi_aload at h
  split at h
  next x hx => exact lv_aload C0.1 C0.2.1 hd (vg_lm_at hl hx) (h ad H locs ls hag hl ho (vg_okc (vg_okl ho hx) hs) hwf hP hD hS)
  next => exact h.elim
theorem ht_istore_n {k : Fin 4} {i : Nat} (hd : decode cc pc = .ok (.istore_n k, 1)) (hi : (k : Nat) = i) (hL : i < nL) (hn : pc + 1 = n) : vh_Snd tb nw cl tyl cc nL own ret d Rc Rs ini pc (hi_istore i n) := by
  subst hn
  refine ⟨hs_m1 fun K K' h lv st σ g => ?_, ?_⟩
  · split at g
    · exact h _ _ _ _ g
    · exact g
  intro p l e R s m args below meth c D tys n0 ad0 A P Z C0 E0 lv st σ h ad H locs ls hag hl ho hs hwf hP hD hS
  unfold hi_istore at h
  split at h
  next x t => exact lv_istore_n C0.1 C0.2.1 hd hi hl hL (vg_lm_put ad lv i (.inl (.int x))) (fun ls' hl' => h ad H locs ls' hag hl' (vg_ok_put ho trivial) (vg_okt hs) hwf hP hD hS)
  next => exact h.elim
theorem ht_istore {i : Nat} (hd : decode cc pc = .ok (.istore i, 2)) (hL : i < nL) (hn : pc + 2 = n) : vh_Snd tb nw cl tyl cc nL own ret d Rc Rs ini pc (hi_istore i n) := by
  subst hn
  refine ⟨hs_m1 fun K K' h lv st σ g => ?_, ?_⟩
  · split at g
    · exact h _ _ _ _ g
    · exact g
  intro p l e R s m args below meth c D tys n0 ad0 A P Z C0 E0 lv st σ h ad H locs ls hag hl ho hs hwf hP hD hS
  unfold hi_istore at h
  split at h
  next x t => exact lv_istore C0.1 C0.2.1 hd hl hL (vg_lm_put ad lv i (.inl (.int x))) (fun ls' hl' => h ad H locs ls' hag hl' (vg_ok_put ho trivial) (vg_okt hs) hwf hP hD hS)
  next => exact h.elim
theorem ht_lstore_n {k : Fin 4} {i : Nat} (hd : decode cc pc = .ok (.lstore_n k, 1)) (hi : (k : Nat) = i) (hL : i + 1 < nL) (hn : pc + 1 = n) : vh_Snd tb nw cl tyl cc nL own ret d Rc Rs ini pc (hi_lstore i n) := by
  subst hn
  refine ⟨hs_m1 fun K K' h lv st σ g => ?_, ?_⟩
  · split at g
    · exact h _ _ _ _ g
    · exact g
  intro p l e R s m args below meth c D tys n0 ad0 A P Z C0 E0 lv st σ h ad H locs ls hag hl ho hs hwf hP hD hS
  unfold hi_lstore at h
  split at h
  next x t => exact lv_lstore_n C0.1 C0.2.1 hd hi hl hL (vg_lm_put2 ad lv i (.inl (.long x))) (fun ls' hl' => h ad H locs ls' hag hl' (vg_ok_put2 ho trivial) (vg_okt hs) hwf hP hD hS)
  next => exact h.elim
theorem ht_lstore {i : Nat} (hd : decode cc pc = .ok (.lstore i, 2)) (hL : i + 1 < nL) (hn : pc + 2 = n) : vh_Snd tb nw cl tyl cc nL own ret d Rc Rs ini pc (hi_lstore i n) := by
  subst hn
  refine ⟨hs_m1 fun K K' h lv st σ g => ?_, ?_⟩
  · split at g
    · exact h _ _ _ _ g
    · exact g
  intro p l e R s m args below meth c D tys n0 ad0 A P Z C0 E0 lv st σ h ad H locs ls hag hl ho hs hwf hP hD hS
  unfold hi_lstore at h
  split at h
  next x t => exact lv_lstore C0.1 C0.2.1 hd hl hL (vg_lm_put2 ad lv i (.inl (.long x))) (fun ls' hl' => h ad H locs ls' hag hl' (vg_ok_put2 ho trivial) (vg_okt hs) hwf hP hD hS)
  next => exact h.elim
theorem ht_astore_n {k : Fin 4} {i : Nat} (hd : decode cc pc = .ok (.astore_n k, 1)) (hi : (k : Nat) = i) (hL : i < nL) (hn : pc + 1 = n) : vh_Snd tb nw cl tyl cc nL own ret d Rc Rs ini pc (hi_astore i n) := by
  subst hn
  refine ⟨hs_m1 fun K K' h lv st σ g => ?_, ?_⟩
  · split at g
    · exact h _ _ _ _ g
    · exact g
  intro p l e R s m args below meth c D tys n0 ad0 A P Z C0 E0 lv st σ h ad H locs ls hag hl ho hs hwf hP hD hS
  unfold hi_astore at h
  split at h
  next x t => exact lv_astore_n C0.1 C0.2.1 hd hi hl hL (vg_lm_put ad lv i (.inr x)) (fun ls' hl' => h ad H locs ls' hag hl' (vg_ok_put ho (vg_okh hs)) (vg_okt hs) hwf hP hD hS)
  next => exact h.elim
theorem ht_astore {i : Nat} (hd : decode cc pc = .ok (.astore i, 2)) (hL : i < nL) (hn : pc + 2 = n) : vh_Snd tb nw cl tyl cc nL own ret d Rc Rs ini pc (hi_astore i n) := by
  subst hn
  refine ⟨hs_m1 fun K K' h lv st σ g => ?_, ?_⟩
  · split at g
    · exact h _ _ _ _ g
    · exact g
  intro p l e R s m args below meth c D tys n0 ad0 A P Z C0 E0 lv st σ h ad H locs ls hag hl ho hs hwf hP hD hS
  unfold hi_astore at h
  split at h
  next x t => exact lv_astore C0.1 C0.2.1 hd hl hL (vg_lm_put ad lv i (.inr x)) (fun ls' hl' => h ad H locs ls' hag hl' (vg_ok_put ho (vg_okh hs)) (vg_okt hs) hwf hP hD hS)
  next => exact h.elim
theorem ht_iinc {i : Nat} {z : Int} {v : Int32} (hd : decode cc pc = .ok (.iinc i z, 3)) (hv : Int32.ofInt z = v) (hn : pc + 3 = n) : vh_Snd tb nw cl tyl cc nL own ret d Rc Rs ini pc (hi_iinc i v n) := by
  subst hn
  refine ⟨hs_m1 fun K K' h lv st σ g => ?_, ?_⟩
  · split at g
    · exact h _ _ _ _ g
    · exact g
  intro p l e R s m args below meth c D tys n0 ad0 A P Z C0 E0 lv st σ h ad H locs ls hag hl ho hs hwf hP hD hS
  unfold hi_iinc at h
  split at h
  next x hx =>
    obtain ⟨k, hk⟩ := List.getElem?_of_mem (vg_look_mem hx)
    exact lv_iinc (k := k) C0.1 C0.2.1 hd hl (by unfold vg_lm; rw [List.getElem?_map, hk]; rfl) (by rw [hv]) (vg_lms hl hx) (vg_lm_put ad lv i (.inl (.int (x + v)))) (fun ls' hl' => h ad H locs ls' hag hl' (vg_ok_put ho trivial) hs hwf hP hD hS)
  next => exact h.elim
theorem ht_iadd (hd : decode cc pc = .ok (.iadd, 1)) (hn : pc + 1 = n) : vh_Snd tb nw cl tyl cc nL own ret d Rc Rs ini pc (hi_bin (fun x y => x + y) n) := by
  subst hn
  refine ⟨hs_m1 fun K K' h lv st σ g => ?_, ?_⟩
  · split at g
    · exact h _ _ _ _ g
    · exact g
  intro p l e R s m args below meth c D tys n0 ad0 A P Z C0 E0 lv st σ h ad H locs ls hag hl ho hs hwf hP hD hS
  unfold hi_bin at h
  split at h
  next y x t => exact lv_iadd C0.1 C0.2.1 hd (h ad H locs ls hag hl ho (vg_okc trivial (vg_okt (vg_okt hs))) hwf hP hD hS)
  next => exact h.elim
theorem ht_isub (hd : decode cc pc = .ok (.isub, 1)) (hn : pc + 1 = n) : vh_Snd tb nw cl tyl cc nL own ret d Rc Rs ini pc (hi_bin (fun x y => x - y) n) := by
  subst hn
  refine ⟨hs_m1 fun K K' h lv st σ g => ?_, ?_⟩
  · split at g
    · exact h _ _ _ _ g
    · exact g
  intro p l e R s m args below meth c D tys n0 ad0 A P Z C0 E0 lv st σ h ad H locs ls hag hl ho hs hwf hP hD hS
  unfold hi_bin at h
  split at h
  next y x t => exact lv_isub C0.1 C0.2.1 hd (h ad H locs ls hag hl ho (vg_okc trivial (vg_okt (vg_okt hs))) hwf hP hD hS)
  next => exact h.elim
theorem ht_imul (hd : decode cc pc = .ok (.imul, 1)) (hn : pc + 1 = n) : vh_Snd tb nw cl tyl cc nL own ret d Rc Rs ini pc (hi_bin (fun x y => x * y) n) := by
  subst hn
  refine ⟨hs_m1 fun K K' h lv st σ g => ?_, ?_⟩
  · split at g
    · exact h _ _ _ _ g
    · exact g
  intro p l e R s m args below meth c D tys n0 ad0 A P Z C0 E0 lv st σ h ad H locs ls hag hl ho hs hwf hP hD hS
  unfold hi_bin at h
  split at h
  next y x t => exact lv_imul C0.1 C0.2.1 hd (h ad H locs ls hag hl ho (vg_okc trivial (vg_okt (vg_okt hs))) hwf hP hD hS)
  next => exact h.elim
theorem ht_iand (hd : decode cc pc = .ok (.iand, 1)) (hn : pc + 1 = n) : vh_Snd tb nw cl tyl cc nL own ret d Rc Rs ini pc (hi_bin (fun x y => x &&& y) n) := by
  subst hn
  refine ⟨hs_m1 fun K K' h lv st σ g => ?_, ?_⟩
  · split at g
    · exact h _ _ _ _ g
    · exact g
  intro p l e R s m args below meth c D tys n0 ad0 A P Z C0 E0 lv st σ h ad H locs ls hag hl ho hs hwf hP hD hS
  unfold hi_bin at h
  split at h
  next y x t => exact lv_iand C0.1 C0.2.1 hd (h ad H locs ls hag hl ho (vg_okc trivial (vg_okt (vg_okt hs))) hwf hP hD hS)
  next => exact h.elim
theorem ht_ior (hd : decode cc pc = .ok (.ior, 1)) (hn : pc + 1 = n) : vh_Snd tb nw cl tyl cc nL own ret d Rc Rs ini pc (hi_bin (fun x y => x ||| y) n) := by
  subst hn
  refine ⟨hs_m1 fun K K' h lv st σ g => ?_, ?_⟩
  · split at g
    · exact h _ _ _ _ g
    · exact g
  intro p l e R s m args below meth c D tys n0 ad0 A P Z C0 E0 lv st σ h ad H locs ls hag hl ho hs hwf hP hD hS
  unfold hi_bin at h
  split at h
  next y x t => exact lv_ior C0.1 C0.2.1 hd (h ad H locs ls hag hl ho (vg_okc trivial (vg_okt (vg_okt hs))) hwf hP hD hS)
  next => exact h.elim
theorem ht_ixor (hd : decode cc pc = .ok (.ixor, 1)) (hn : pc + 1 = n) : vh_Snd tb nw cl tyl cc nL own ret d Rc Rs ini pc (hi_bin (fun x y => x ^^^ y) n) := by
  subst hn
  refine ⟨hs_m1 fun K K' h lv st σ g => ?_, ?_⟩
  · split at g
    · exact h _ _ _ _ g
    · exact g
  intro p l e R s m args below meth c D tys n0 ad0 A P Z C0 E0 lv st σ h ad H locs ls hag hl ho hs hwf hP hD hS
  unfold hi_bin at h
  split at h
  next y x t => exact lv_ixor C0.1 C0.2.1 hd (h ad H locs ls hag hl ho (vg_okc trivial (vg_okt (vg_okt hs))) hwf hP hD hS)
  next => exact h.elim
theorem ht_ishl (hd : decode cc pc = .ok (.ishl, 1)) (hn : pc + 1 = n) : vh_Snd tb nw cl tyl cc nL own ret d Rc Rs ini pc (hi_bin (fun x y => x <<< (y &&& 31)) n) := by
  subst hn
  refine ⟨hs_m1 fun K K' h lv st σ g => ?_, ?_⟩
  · split at g
    · exact h _ _ _ _ g
    · exact g
  intro p l e R s m args below meth c D tys n0 ad0 A P Z C0 E0 lv st σ h ad H locs ls hag hl ho hs hwf hP hD hS
  unfold hi_bin at h
  split at h
  next y x t => exact lv_ishl C0.1 C0.2.1 hd (h ad H locs ls hag hl ho (vg_okc trivial (vg_okt (vg_okt hs))) hwf hP hD hS)
  next => exact h.elim
theorem ht_ishr (hd : decode cc pc = .ok (.ishr, 1)) (hn : pc + 1 = n) : vh_Snd tb nw cl tyl cc nL own ret d Rc Rs ini pc (hi_bin (fun x y => x >>> (y &&& 31)) n) := by
  subst hn
  refine ⟨hs_m1 fun K K' h lv st σ g => ?_, ?_⟩
  · split at g
    · exact h _ _ _ _ g
    · exact g
  intro p l e R s m args below meth c D tys n0 ad0 A P Z C0 E0 lv st σ h ad H locs ls hag hl ho hs hwf hP hD hS
  unfold hi_bin at h
  split at h
  next y x t => exact lv_ishr C0.1 C0.2.1 hd (h ad H locs ls hag hl ho (vg_okc trivial (vg_okt (vg_okt hs))) hwf hP hD hS)
  next => exact h.elim
theorem ht_idiv (hd : decode cc pc = .ok (.idiv, 1)) (hn : pc + 1 = n) : vh_Snd tb nw cl tyl cc nL own ret d Rc Rs ini pc (hi_div (fun x y => x / y) n) := by
  subst hn
  refine ⟨hs_m1 fun K K' h lv st σ g => ?_, ?_⟩
  · split at g
    · exact ⟨g.1, h _ _ _ _ g.2⟩
    · exact g
  intro p l e R s m args below meth c D tys n0 ad0 A P Z C0 E0 lv st σ h ad H locs ls hag hl ho hs hwf hP hD hS
  unfold hi_div at h
  split at h
  next y x t => exact lv_idiv C0.1 C0.2.1 hd h.1 (h.2 ad H locs ls hag hl ho (vg_okc trivial (vg_okt (vg_okt hs))) hwf hP hD hS)
  next => exact h.elim
theorem ht_irem (hd : decode cc pc = .ok (.irem, 1)) (hn : pc + 1 = n) : vh_Snd tb nw cl tyl cc nL own ret d Rc Rs ini pc (hi_div (fun x y => x - x / y * y) n) := by
  subst hn
  refine ⟨hs_m1 fun K K' h lv st σ g => ?_, ?_⟩
  · split at g
    · exact ⟨g.1, h _ _ _ _ g.2⟩
    · exact g
  intro p l e R s m args below meth c D tys n0 ad0 A P Z C0 E0 lv st σ h ad H locs ls hag hl ho hs hwf hP hD hS
  unfold hi_div at h
  split at h
  next y x t => exact lv_irem C0.1 C0.2.1 hd h.1 (h.2 ad H locs ls hag hl ho (vg_okc trivial (vg_okt (vg_okt hs))) hwf hP hD hS)
  next => exact h.elim
theorem ht_ladd (hd : decode cc pc = .ok (.ladd, 1)) (hn : pc + 1 = n) : vh_Snd tb nw cl tyl cc nL own ret d Rc Rs ini pc (hi_lbin (fun x y => x + y) n) := by
  subst hn
  refine ⟨hs_m1 fun K K' h lv st σ g => ?_, ?_⟩
  · split at g
    · exact h _ _ _ _ g
    · exact g
  intro p l e R s m args below meth c D tys n0 ad0 A P Z C0 E0 lv st σ h ad H locs ls hag hl ho hs hwf hP hD hS
  unfold hi_lbin at h
  split at h
  next y x t => exact lv_ladd C0.1 C0.2.1 hd (h ad H locs ls hag hl ho (vg_okc trivial (vg_okt (vg_okt hs))) hwf hP hD hS)
  next => exact h.elim
theorem ht_lmul (hd : decode cc pc = .ok (.lmul, 1)) (hn : pc + 1 = n) : vh_Snd tb nw cl tyl cc nL own ret d Rc Rs ini pc (hi_lbin (fun x y => x * y) n) := by
  subst hn
  refine ⟨hs_m1 fun K K' h lv st σ g => ?_, ?_⟩
  · split at g
    · exact h _ _ _ _ g
    · exact g
  intro p l e R s m args below meth c D tys n0 ad0 A P Z C0 E0 lv st σ h ad H locs ls hag hl ho hs hwf hP hD hS
  unfold hi_lbin at h
  split at h
  next y x t => exact lv_lmul C0.1 C0.2.1 hd (h ad H locs ls hag hl ho (vg_okc trivial (vg_okt (vg_okt hs))) hwf hP hD hS)
  next => exact h.elim
theorem ht_i2l (hd : decode cc pc = .ok (.i2l, 1)) (hn : pc + 1 = n) : vh_Snd tb nw cl tyl cc nL own ret d Rc Rs ini pc (hi_i2l n) := by
  subst hn
  refine ⟨hs_m1 fun K K' h lv st σ g => ?_, ?_⟩
  · split at g
    · exact h _ _ _ _ g
    · exact g
  intro p l e R s m args below meth c D tys n0 ad0 A P Z C0 E0 lv st σ h ad H locs ls hag hl ho hs hwf hP hD hS
  unfold hi_i2l at h
  split at h
  next x t => exact lv_i2l C0.1 C0.2.1 hd rfl (h ad H locs ls hag hl ho (vg_okc trivial (vg_okt hs)) hwf hP hD hS)
  next => exact h.elim
theorem ht_if_eq {off : Int} {g : Nat} (hd : decode cc pc = .ok (.ifCond .eq off, 3)) (ht : (pc : Int) + off = (g : Int)) (hn : pc + 3 = n) : vh_Snd tb nw cl tyl cc nL own ret d Rc Rs ini pc (hi_if (fun x => x = 0) g n) := by
  subst hn
  refine ⟨hs_m1 fun K K' h lv st σ g => ?_, ?_⟩
  · split at g
    · exact ⟨fun q => h _ _ _ _ (g.1 q), fun q => h _ _ _ _ (g.2 q)⟩
    · exact g
  intro p l e R s m args below meth c D tys n0 ad0 A P Z C0 E0 lv st σ h ad H locs ls hag hl ho hs hwf hP hD hS
  unfold hi_if at h
  split at h
  next x t => exact lv_if_eq C0.1 C0.2.1 hd ht (fun q => h.1 q ad H locs ls hag hl ho (vg_okt hs) hwf hP hD hS) (fun q => h.2 q ad H locs ls hag hl ho (vg_okt hs) hwf hP hD hS)
  next => exact h.elim
theorem ht_if_ne {off : Int} {g : Nat} (hd : decode cc pc = .ok (.ifCond .ne off, 3)) (ht : (pc : Int) + off = (g : Int)) (hn : pc + 3 = n) : vh_Snd tb nw cl tyl cc nL own ret d Rc Rs ini pc (hi_if (fun x => x = 0) n g) := by
  subst hn
  refine ⟨hs_m1 fun K K' h lv st σ g => ?_, ?_⟩
  · split at g
    · exact ⟨fun q => h _ _ _ _ (g.1 q), fun q => h _ _ _ _ (g.2 q)⟩
    · exact g
  intro p l e R s m args below meth c D tys n0 ad0 A P Z C0 E0 lv st σ h ad H locs ls hag hl ho hs hwf hP hD hS
  unfold hi_if at h
  split at h
  next x t => exact lv_if_ne C0.1 C0.2.1 hd ht (fun q => h.2 q ad H locs ls hag hl ho (vg_okt hs) hwf hP hD hS) (fun q => h.1 q ad H locs ls hag hl ho (vg_okt hs) hwf hP hD hS)
  next => exact h.elim
theorem ht_if_lt {off : Int} {g : Nat} (hd : decode cc pc = .ok (.ifCond .lt off, 3)) (ht : (pc : Int) + off = (g : Int)) (hn : pc + 3 = n) : vh_Snd tb nw cl tyl cc nL own ret d Rc Rs ini pc (hi_if (fun x => x < 0) g n) := by
  subst hn
  refine ⟨hs_m1 fun K K' h lv st σ g => ?_, ?_⟩
  · split at g
    · exact ⟨fun q => h _ _ _ _ (g.1 q), fun q => h _ _ _ _ (g.2 q)⟩
    · exact g
  intro p l e R s m args below meth c D tys n0 ad0 A P Z C0 E0 lv st σ h ad H locs ls hag hl ho hs hwf hP hD hS
  unfold hi_if at h
  split at h
  next x t => exact lv_if_lt C0.1 C0.2.1 hd ht (fun q => h.1 q ad H locs ls hag hl ho (vg_okt hs) hwf hP hD hS) (fun q => h.2 q ad H locs ls hag hl ho (vg_okt hs) hwf hP hD hS)
  next => exact h.elim
theorem ht_if_ge {off : Int} {g : Nat} (hd : decode cc pc = .ok (.ifCond .ge off, 3)) (ht : (pc : Int) + off = (g : Int)) (hn : pc + 3 = n) : vh_Snd tb nw cl tyl cc nL own ret d Rc Rs ini pc (hi_if (fun x => 0 ≤ x) g n) := by
  subst hn
  refine ⟨hs_m1 fun K K' h lv st σ g => ?_, ?_⟩
  · split at g
    · exact ⟨fun q => h _ _ _ _ (g.1 q), fun q => h _ _ _ _ (g.2 q)⟩
    · exact g
  intro p l e R s m args below meth c D tys n0 ad0 A P Z C0 E0 lv st σ h ad H locs ls hag hl ho hs hwf hP hD hS
  unfold hi_if at h
  split at h
  next x t => exact lv_if_ge C0.1 C0.2.1 hd ht (fun q => h.1 q ad H locs ls hag hl ho (vg_okt hs) hwf hP hD hS) (fun q => h.2 q ad H locs ls hag hl ho (vg_okt hs) hwf hP hD hS)
  next => exact h.elim
theorem ht_if_gt {off : Int} {g : Nat} (hd : decode cc pc = .ok (.ifCond .gt off, 3)) (ht : (pc : Int) + off = (g : Int)) (hn : pc + 3 = n) : vh_Snd tb nw cl tyl cc nL own ret d Rc Rs ini pc (hi_if (fun x => 0 < x) g n) := by
  subst hn
  refine ⟨hs_m1 fun K K' h lv st σ g => ?_, ?_⟩
  · split at g
    · exact ⟨fun q => h _ _ _ _ (g.1 q), fun q => h _ _ _ _ (g.2 q)⟩
    · exact g
  intro p l e R s m args below meth c D tys n0 ad0 A P Z C0 E0 lv st σ h ad H locs ls hag hl ho hs hwf hP hD hS
  unfold hi_if at h
  split at h
  next x t => exact lv_if_gt C0.1 C0.2.1 hd ht (fun q => h.1 q ad H locs ls hag hl ho (vg_okt hs) hwf hP hD hS) (fun q => h.2 q ad H locs ls hag hl ho (vg_okt hs) hwf hP hD hS)
  next => exact h.elim
theorem ht_if_le {off : Int} {g : Nat} (hd : decode cc pc = .ok (.ifCond .le off, 3)) (ht : (pc : Int) + off = (g : Int)) (hn : pc + 3 = n) : vh_Snd tb nw cl tyl cc nL own ret d Rc Rs ini pc (hi_if (fun x => x ≤ 0) g n) := by
  subst hn
  refine ⟨hs_m1 fun K K' h lv st σ g => ?_, ?_⟩
  · split at g
    · exact ⟨fun q => h _ _ _ _ (g.1 q), fun q => h _ _ _ _ (g.2 q)⟩
    · exact g
  intro p l e R s m args below meth c D tys n0 ad0 A P Z C0 E0 lv st σ h ad H locs ls hag hl ho hs hwf hP hD hS
  unfold hi_if at h
  split at h
  next x t => exact lv_if_le C0.1 C0.2.1 hd ht (fun q => h.1 q ad H locs ls hag hl ho (vg_okt hs) hwf hP hD hS) (fun q => h.2 q ad H locs ls hag hl ho (vg_okt hs) hwf hP hD hS)
  next => exact h.elim
theorem ht_cmp_eq {off : Int} {g : Nat} (hd : decode cc pc = .ok (.if_icmp .eq off, 3)) (ht : (pc : Int) + off = (g : Int)) (hn : pc + 3 = n) : vh_Snd tb nw cl tyl cc nL own ret d Rc Rs ini pc (hi_cmp (fun x y => x = y) g n) := by
  subst hn
  refine ⟨hs_m1 fun K K' h lv st σ g => ?_, ?_⟩
  · split at g
    · exact ⟨fun q => h _ _ _ _ (g.1 q), fun q => h _ _ _ _ (g.2 q)⟩
    · exact g
  intro p l e R s m args below meth c D tys n0 ad0 A P Z C0 E0 lv st σ h ad H locs ls hag hl ho hs hwf hP hD hS
  unfold hi_cmp at h
  split at h
  next y x t => exact lv_icmp_eq C0.1 C0.2.1 hd ht (fun q => h.1 q ad H locs ls hag hl ho (vg_okt (vg_okt hs)) hwf hP hD hS) (fun q => h.2 q ad H locs ls hag hl ho (vg_okt (vg_okt hs)) hwf hP hD hS)
  next => exact h.elim
theorem ht_cmp_ne {off : Int} {g : Nat} (hd : decode cc pc = .ok (.if_icmp .ne off, 3)) (ht : (pc : Int) + off = (g : Int)) (hn : pc + 3 = n) : vh_Snd tb nw cl tyl cc nL own ret d Rc Rs ini pc (hi_cmp (fun x y => x = y) n g) := by
  subst hn
  refine ⟨hs_m1 fun K K' h lv st σ g => ?_, ?_⟩
  · split at g
    · exact ⟨fun q => h _ _ _ _ (g.1 q), fun q => h _ _ _ _ (g.2 q)⟩
    · exact g
  intro p l e R s m args below meth c D tys n0 ad0 A P Z C0 E0 lv st σ h ad H locs ls hag hl ho hs hwf hP hD hS
  unfold hi_cmp at h
  split at h
  next y x t => exact lv_icmp_ne C0.1 C0.2.1 hd ht (fun q => h.2 q ad H locs ls hag hl ho (vg_okt (vg_okt hs)) hwf hP hD hS) (fun q => h.1 q ad H locs ls hag hl ho (vg_okt (vg_okt hs)) hwf hP hD hS)
  next => exact h.elim
theorem ht_cmp_lt {off : Int} {g : Nat} (hd : decode cc pc = .ok (.if_icmp .lt off, 3)) (ht : (pc : Int) + off = (g : Int)) (hn : pc + 3 = n) : vh_Snd tb nw cl tyl cc nL own ret d Rc Rs ini pc (hi_cmp (fun x y => x < y) g n) := by
  subst hn
  refine ⟨hs_m1 fun K K' h lv st σ g => ?_, ?_⟩
  · split at g
    · exact ⟨fun q => h _ _ _ _ (g.1 q), fun q => h _ _ _ _ (g.2 q)⟩
    · exact g
  intro p l e R s m args below meth c D tys n0 ad0 A P Z C0 E0 lv st σ h ad H locs ls hag hl ho hs hwf hP hD hS
  unfold hi_cmp at h
  split at h
  next y x t => exact lv_icmp_lt C0.1 C0.2.1 hd ht (fun q => h.1 q ad H locs ls hag hl ho (vg_okt (vg_okt hs)) hwf hP hD hS) (fun q => h.2 q ad H locs ls hag hl ho (vg_okt (vg_okt hs)) hwf hP hD hS)
  next => exact h.elim
theorem ht_cmp_ge {off : Int} {g : Nat} (hd : decode cc pc = .ok (.if_icmp .ge off, 3)) (ht : (pc : Int) + off = (g : Int)) (hn : pc + 3 = n) : vh_Snd tb nw cl tyl cc nL own ret d Rc Rs ini pc (hi_cmp (fun x y => y ≤ x) g n) := by
  subst hn
  refine ⟨hs_m1 fun K K' h lv st σ g => ?_, ?_⟩
  · split at g
    · exact ⟨fun q => h _ _ _ _ (g.1 q), fun q => h _ _ _ _ (g.2 q)⟩
    · exact g
  intro p l e R s m args below meth c D tys n0 ad0 A P Z C0 E0 lv st σ h ad H locs ls hag hl ho hs hwf hP hD hS
  unfold hi_cmp at h
  split at h
  next y x t => exact lv_icmp_ge C0.1 C0.2.1 hd ht (fun q => h.1 q ad H locs ls hag hl ho (vg_okt (vg_okt hs)) hwf hP hD hS) (fun q => h.2 q ad H locs ls hag hl ho (vg_okt (vg_okt hs)) hwf hP hD hS)
  next => exact h.elim
theorem ht_cmp_gt {off : Int} {g : Nat} (hd : decode cc pc = .ok (.if_icmp .gt off, 3)) (ht : (pc : Int) + off = (g : Int)) (hn : pc + 3 = n) : vh_Snd tb nw cl tyl cc nL own ret d Rc Rs ini pc (hi_cmp (fun x y => y < x) g n) := by
  subst hn
  refine ⟨hs_m1 fun K K' h lv st σ g => ?_, ?_⟩
  · split at g
    · exact ⟨fun q => h _ _ _ _ (g.1 q), fun q => h _ _ _ _ (g.2 q)⟩
    · exact g
  intro p l e R s m args below meth c D tys n0 ad0 A P Z C0 E0 lv st σ h ad H locs ls hag hl ho hs hwf hP hD hS
  unfold hi_cmp at h
  split at h
  next y x t => exact lv_icmp_gt C0.1 C0.2.1 hd ht (fun q => h.1 q ad H locs ls hag hl ho (vg_okt (vg_okt hs)) hwf hP hD hS) (fun q => h.2 q ad H locs ls hag hl ho (vg_okt (vg_okt hs)) hwf hP hD hS)
  next => exact h.elim
theorem ht_cmp_le {off : Int} {g : Nat} (hd : decode cc pc = .ok (.if_icmp .le off, 3)) (ht : (pc : Int) + off = (g : Int)) (hn : pc + 3 = n) : vh_Snd tb nw cl tyl cc nL own ret d Rc Rs ini pc (hi_cmp (fun x y => x ≤ y) g n) := by
  subst hn
  refine ⟨hs_m1 fun K K' h lv st σ g => ?_, ?_⟩
  · split at g
    · exact ⟨fun q => h _ _ _ _ (g.1 q), fun q => h _ _ _ _ (g.2 q)⟩
    · exact g
  intro p l e R s m args below meth c D tys n0 ad0 A P Z C0 E0 lv st σ h ad H locs ls hag hl ho hs hwf hP hD hS
  unfold hi_cmp at h
  split at h
  next y x t => exact lv_icmp_le C0.1 C0.2.1 hd ht (fun q => h.1 q ad H locs ls hag hl ho (vg_okt (vg_okt hs)) hwf hP hD hS) (fun q => h.2 q ad H locs ls hag hl ho (vg_okt (vg_okt hs)) hwf hP hD hS)
  next => exact h.elim
theorem ht_goto {off : Int} {g : Nat} (hd : decode cc pc = .ok (.goto off, 3)) (ht : (pc : Int) + off = (g : Int)) : vh_Snd tb nw cl tyl cc nL own ret d Rc Rs ini pc (hi_goto g) := by
  refine ⟨hs_m1 fun K K' h lv st σ g => h _ _ _ _ g, ?_⟩
  intro p l e R s m args below meth c D tys n0 ad0 A P Z C0 E0 lv st σ h ad H locs ls hag hl ho hs hwf hP hD hS
  exact lv_goto C0.1 C0.2.1 hd ht (h ad H locs ls hag hl ho hs hwf hP hD hS)
theorem ht_dup (hd : decode cc pc = .ok (.dup, 1)) (hn : pc + 1 = n) : vh_Snd tb nw cl tyl cc nL own ret d Rc Rs ini pc (hi_dup n) := by
  subst hn
  refine ⟨hs_m1 fun K K' h lv st σ g => ?_, ?_⟩
  · split at g
    · exact ⟨g.1, h _ _ _ _ g.2⟩
    · exact g
  intro p l e R s m args below meth c D tys n0 ad0 A P Z C0 E0 lv st σ h ad H locs ls hag hl ho hs hwf hP hD hS
  unfold hi_dup at h
  split at h
  next a t => exact lv_dup C0.1 C0.2.1 hd (vg_cat1 h.1) (h.2 ad H locs ls hag hl ho (vg_okc (vg_okh hs) hs) hwf hP hD hS)
  next => exact h.elim
theorem ht_pop (hd : decode cc pc = .ok (.pop, 1)) (hn : pc + 1 = n) : vh_Snd tb nw cl tyl cc nL own ret d Rc Rs ini pc (hi_pop n) := by
  subst hn
  refine ⟨hs_m1 fun K K' h lv st σ g => ?_, ?_⟩
  · split at g
    · exact ⟨g.1, h _ _ _ _ g.2⟩
    · exact g
  intro p l e R s m args below meth c D tys n0 ad0 A P Z C0 E0 lv st σ h ad H locs ls hag hl ho hs hwf hP hD hS
  unfold hi_pop at h
  split at h
  next a t => exact lv_pop C0.1 C0.2.1 hd (vg_cat1 h.1) (h.2 ad H locs ls hag hl ho (vg_okt hs) hwf hP hD hS)
  next => exact h.elim
theorem ht_dup_x1 (hd : decode cc pc = .ok (.dup_x1, 1)) (hn : pc + 1 = n) : vh_Snd tb nw cl tyl cc nL own ret d Rc Rs ini pc (hi_dupx1 n) := by
  subst hn
  refine ⟨hs_m1 fun K K' h lv st σ g => ?_, ?_⟩
  · split at g
    · exact ⟨g.1, h _ _ _ _ g.2⟩
    · exact g
  intro p l e R s m args below meth c D tys n0 ad0 A P Z C0 E0 lv st σ h ad H locs ls hag hl ho hs hwf hP hD hS
  unfold hi_dupx1 at h
  split at h
  next a b t => exact lv_dup_x1 C0.1 C0.2.1 hd (vg_cat1 h.1.1) (vg_cat1 h.1.2) (h.2 ad H locs ls hag hl ho (vg_okc (vg_okh hs) (vg_okc (vg_okh (vg_okt hs)) (vg_okc (vg_okh hs) (vg_okt (vg_okt hs))))) hwf hP hD hS)
  next => exact h.elim
theorem ht_dup2 (hd : decode cc pc = .ok (.dup2, 1)) (hn : pc + 1 = n) : vh_Snd tb nw cl tyl cc nL own ret d Rc Rs ini pc (hi_dup2 n) := by
  subst hn
  refine ⟨hs_m1 fun K K' h lv st σ g => ?_, ?_⟩
  · split at g
    · exact ⟨g.1, h _ _ _ _ g.2⟩
    · exact g
  intro p l e R s m args below meth c D tys n0 ad0 A P Z C0 E0 lv st σ h ad H locs ls hag hl ho hs hwf hP hD hS
  unfold hi_dup2 at h
  split at h
  next a b t => exact lv_dup2_11 C0.1 C0.2.1 hd (vg_cat1 h.1.1) (vg_cat1 h.1.2) (h.2 ad H locs ls hag hl ho (vg_okc (vg_okh hs) (vg_okc (vg_okh (vg_okt hs)) hs)) hwf hP hD hS)
  next => exact h.elim
theorem ht_return (hd : decode cc pc = .ok (.return_, 1)) (hr : ret = none) : vh_Snd tb nw cl tyl cc nL own ret d Rc Rs ini pc hi_retV := by
  refine ⟨fun P K K' h lv st σ g => g, ?_⟩
  intro p l e R s m args below meth c D tys n0 ad0 A P Z C0 E0 lv st σ h ad H locs ls hag hl ho hs hwf hP hD hS
  unfold hi_retV at h
  split at h
  next => exact E0 none σ pc ad ls H locs h (fun v z => by cases z) hag hwf.2 hP hD hS ⟨hd, hr⟩
  next => exact h.elim
end HT
