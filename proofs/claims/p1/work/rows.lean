section
/-! ===== BEGIN words of one list among another's, by their places ===== -/
theorem goodIn_r {big : List Cond} (ws : List Cond) (ps : List Nat) (hp : ws = ps.filterMap (fun i => big[i]?)) (h : ws.all goodWord = true) : GoodIn big ws := by
  intro w hw
  have h1 := List.all_eq_true.mp h w hw
  rw [hp] at hw
  obtain ⟨i, -, hi⟩ := List.mem_filterMap.mp hw
  have hm : w ∈ big := by first | exact List.mem_of_getElem? hi | exact List.getElem?_mem hi
  exact ⟨hm, good_of_word h1⟩
theorem goodIn_app {big a b : List Cond} (ha : GoodIn big a) (hb : GoodIn big b) : GoodIn big (a ++ b) := fun w h => (List.mem_append.mp h).elim (ha w) (hb w)
theorem goodIn_ca {big a b : List Cond} {c : Cond} (ha : GoodIn big (c :: a)) (hb : GoodIn big b) : GoodIn big (c :: (a ++ b)) := fun w h => (List.mem_cons.mp h).elim (fun e => ha w (List.mem_cons.mpr (Or.inl e))) (fun h => (List.mem_append.mp h).elim (fun h => ha w (List.mem_cons.mpr (Or.inr h))) (hb w))
theorem goodIn_sub {big ws : List Cond} (hm : ∀ w ∈ ws, w ∈ big) (h : ws.all goodWord = true) : GoodIn big ws := fun w hw => ⟨hm w hw, good_of_word (List.all_eq_true.mp h w hw)⟩
/-! ===== END ===== -/

/-! ===== BEGIN new T[n][m]: the outer array a place, the inner ones among the pooled ===== -/
/-- f, but v at every address of l -/
def vr_up {α : Type} (f : Nat → α) (l : List Nat) (v : α) : Nat → α := fun a => if a ∈ l then v else f a
theorem vr_up_in {α : Type} {f : Nat → α} {l : List Nat} {v : α} {a : Nat} (h : a ∈ l) : vr_up f l v a = v := if_pos h
theorem vr_up_ne {α : Type} {f : Nat → α} {l : List Nat} {v : α} {a : Nat} (h : a ∉ l) : vr_up f l v a = f a := if_neg h
theorem vr_rows {L l : List Nat} {f : Nat → va_E} {e : va_E} (h : ∀ a, a ∈ l → a ∉ L) : va_pl L f ++ l.map (fun a => (a, e)) = va_pl (L ++ l) (vr_up f l e) := by
  unfold va_pl
  rw [List.map_append]
  congr 1
  · apply List.map_congr_left
    intro a ha
    rw [vr_up_ne (fun q => h a q ha)]
  · apply List.map_congr_left
    intro a ha
    rw [vr_up_in ha]
theorem vr_lay {X rows : va_W} {x : Nat × va_E} {pl : va_W} {D : va_G} {cl : List vw_C} {H : Heap} (hP : va_P D cl (((X ++ pl) ++ [x]) ++ rows) H) : va_P D cl ((X ++ [x]) ++ (pl ++ rows)) H := by
  rw [List.append_assoc (X ++ pl)] at hP
  have h := va_P.swap hP
  rw [← List.append_assoc X] at h
  have h2 := va_P.swap h
  rw [List.append_assoc (X ++ [x])] at h2
  exact h2
theorem vr_layD {X rows : va_W} {x : Nat × va_E} {pl : va_W} {A : Nat → Prop} (hD : va_D A (((X ++ pl) ++ [x]) ++ rows)) : va_D A ((X ++ [x]) ++ (pl ++ rows)) := by
  rw [List.append_assoc (X ++ pl)] at hD
  have h := va_D.swap hD
  rw [← List.append_assoc X] at h
  have h2 := va_D.swap h
  rw [List.append_assoc (X ++ [x])] at h2
  exact h2
theorem vr_outer (c : ClassId) (N h0 : Nat) : ∀ i : Nat, Jvm.Free.Multi.outerC c N h0 i = arrV c N (fun j => va_rf (if j < i then some (h0 + 1 + j) else none))
  | 0 => by
    show ({ cls := c, slots := Array.replicate N .null, vm := .none } : Cell) = _
    rw [arrV_new]
    refine congrArg (arrV c N) (funext fun j => ?_)
    simp [va_rf]
  | i + 1 => by
    show (Jvm.Free.Multi.outerC c N h0 i).setSlot i (.ref (h0 + 1 + i)) = _
    rw [vr_outer c N h0 i, arrV_store]
    refine congrArg (arrV c N) (funext fun j => ?_)
    by_cases e : j = i
    · subst e
      simp [updV, va_rf]
    · by_cases h : j < i
      · simp [updV, e, h, Nat.lt_succ_of_lt h]
      · simp [updV, e, h, show ¬ j < i + 1 by omega]
/-- (the printed text uses this word without giving it; it is va_AO for arrays of arrays) -/
def vq_AOA (ty : FieldType) (U : State) : Prop := (Cond.arrayOver (.array ty)).before #[] U = true
theorem vq_AOA.use {ty : FieldType} {A : Array Value} {U : State} (h : vq_AOA ty U) : (Cond.arrayOver (.array ty)).before A U = true := h
section VGM
variable {p : Program} {l : Launch} {e : Env} {R : Room} {s : State} {m : MethodId} {args : Array Value} {below : List Frame} {meth : Method} {c : Code} {H : Heap} {locs : List Loc} {cells slots : Nat} {Q : State → Prop}
variable {cc : ByteArray} {pc : Nat} {ls : Array Slot} {rest : List Value} {D : va_G} {cl : List vw_C} {A : Nat → Prop} {a : Nat} {tys : List (ClassId × FieldType)} {ws : va_W} {H0 : Heap}
theorem va_mna {X : va_W} {L : List Nat} {f : Nat → va_E} {cc : ByteArray} (hexec : p.tables.exec = Jvm.exec) (hb : c.code = cc) {own : String} {index : Nat} {ty : FieldType} {cy : ClassId} (hown : s.vm.findClass own = some m.cls) (hclink : (Cond.classLink own index ("[" ++ (FieldType.array ty).toString)).before args s = true) (hover : vq_AOA ty s) (harr : (Cond.arrayClass ty).before args s = true) (hcy : s.vm.findClass (FieldType.array ty).toString = some cy)
    (hK : va_K D cl tys s) (hP : va_P D cl (X ++ va_pl L f) H) (hD : va_D A (X ++ va_pl L f)) (hS : va_S A H0 H locs) (hA : ∀ q, H0.size ≤ q → A q) {n k : Int32} {N' K' : Nat} {z : vp_A} (hn : ¬ n < 0) (hk : ¬ k < 0) (hN : n.toNatClampNeg = N') (hM : k.toNatClampNeg = K')
    (hb1 : N' * 4 ≤ 536870912) (hb2 : K' * componentBytes ty ≤ 536870912) (hb3 : K' ≤ 536870912) (hdf : fits ty (defaultValue ty) = true) (hdd : (defaultValue ty).isDefault = true) (hcells : cells + (1 + N') ≤ R.cells) (hslots : slots + (N' + N' * K') ≤ R.slots) (hz : ∀ c : ClassId, Jvm.Free.Multi.innerC c K' (defaultValue ty) = vp_cell c z) (hdg : decode cc pc = .ok (.multianewarray index 2, 4))
    (kk : ∀ (q : Nat) (r : Nat → Nat) (cA : ClassId) (H1 : Heap), (∀ i j : Nat, i < N' → j < N' → r i = r j → i = j) → (∀ i : Nat, i < N' → r i ∉ L) → va_K D cl (tys ++ [(cA, .array ty)]) s →
      va_P D cl ((X ++ [(q, .inl (cA, N', .inr (.inr (.inr (.inr (fun i => if i < N' then some (r i) else none))))))]) ++ va_pl (L ++ (List.range N').map r) (vr_up f ((List.range N').map r) (.inl (cy, z)))) H1 → va_D A ((X ++ [(q, .inl (cA, N', .inr (.inr (.inr (.inr (fun i => if i < N' then some (r i) else none))))))]) ++ va_pl (L ++ (List.range N').map r) (vr_up f ((List.range N').map r) (.inl (cy, z)))) → va_S A H0 H1 locs →
      W p l e R s m args below meth c H1 locs (cells + 1 + N') (slots + N' + N' * K') Q (F0 m (pc + 4) ls (.ref q :: rest))) : W p l e R s m args below meth c H locs cells slots Q (F0 m pc ls (.int k :: .int n :: rest)) := by
  subst hN
  subst hM
  intro T hT Xs
  obtain ⟨vm₁, cA, comp, -, fA, fC, hO, -, X', step⟩ := Xs.multianewarray2F hexec hown hclink (vq_AOA.use hover) harr (g := F0 m pc ls (.int k :: .int n :: rest)) rfl (by rw [hb]; exact hdg) rfl hn hk hb1 hb2 hb3 hdf hdd hcells hslots
  have ec : some cy = some comp := hcy.symm.trans fC
  cases ec
  generalize hF : Jvm.Free.Multi.fill (T.setVm vm₁) cA cy n.toNatClampNeg k.toNatClampNeg (defaultValue ty) n.toNatClampNeg = F at X' step
  have hTh : (T.setVm vm₁).heap = H := hT
  obtain ⟨f1, f2, -, -⟩ := Jvm.Free.Multi.fill_facts (T.setVm vm₁) cA cy n.toNatClampNeg k.toNatClampNeg (defaultValue ty) n.toNatClampNeg
  rw [hF, hTh] at f1 f2
  have hold : ∀ x : Nat, x < H.size → F.heap[x]? = H[x]? := fun x hx => by
    have := Jvm.Free.Multi.fill_old (T.setVm vm₁) cA cy n.toNatClampNeg k.toNatClampNeg (defaultValue ty) (a := x) (by rw [hTh]; exact hx) n.toNatClampNeg
    rw [hF, hTh] at this
    exact this
  have hrow : ∀ j : Nat, j < n.toNatClampNeg → F.heap[H.size + 1 + j]? = some (vp_cell cy z) := fun j hj => by
    have := Jvm.Free.Multi.fill_inner (T.setVm vm₁) cA cy n.toNatClampNeg k.toNatClampNeg (defaultValue ty) n.toNatClampNeg j hj
    rw [hF, hTh, hz] at this
    exact this
  have hout : Jvm.Free.Multi.outerC cA n.toNatClampNeg H.size n.toNatClampNeg = vp_cell cA (n.toNatClampNeg, .inr (.inr (.inr (.inr (fun i => if i < n.toNatClampNeg then some (H.size + 1 + i) else none))))) := by
    rw [vp_cell_q]
    exact vr_outer cA n.toNatClampNeg H.size n.toNatClampNeg
  rw [hout] at f2
  have hlt : ∀ a, a ∈ L → a < H.size := fun a ha => by
    obtain ⟨k9, hk9⟩ := va_pl_get (X := X) (f := f) ha
    exact (hP k9 _ hk9).lt
  have hnl : ∀ i : Nat, i < n.toNatClampNeg → H.size + 1 + i ∉ L := fun i _ h => by
    have := hlt _ h
    omega
  have hnm : ∀ a, a ∈ (List.range n.toNatClampNeg).map (fun i => H.size + 1 + i) → a ∉ L := fun a ha h => by
    obtain ⟨i, -, rfl⟩ := List.mem_map.mp ha
    have := hlt _ h
    omega
  have hP0 : va_P D cl (X ++ va_pl L f) F.heap := hP.kept (fun k9 x hx => hold x.1 ((hP k9 x hx).lt))
  have hP1 : va_P D cl ((X ++ va_pl L f) ++ [(H.size, .inl (cA, n.toNatClampNeg, .inr (.inr (.inr (.inr (fun i => if i < n.toNatClampNeg then some (H.size + 1 + i) else none))))))]) F.heap := hP0.app (fun k9 x hx => by
    have h0 : k9 < 1 := (List.getElem?_eq_some_iff.mp hx).1
    rw [show k9 = 0 by omega] at hx
    cases hx
    exact f2)
  have hP2 : va_P D cl (((X ++ va_pl L f) ++ [(H.size, .inl (cA, n.toNatClampNeg, .inr (.inr (.inr (.inr (fun i => if i < n.toNatClampNeg then some (H.size + 1 + i) else none))))))]) ++ ((List.range n.toNatClampNeg).map (fun i => H.size + 1 + i)).map (fun a => (a, .inl (cy, z)))) F.heap := hP1.app (fun k9 x hx => by
    obtain ⟨a, ha, rfl⟩ := List.mem_map.mp (List.mem_of_getElem? hx)
    obtain ⟨i, hi, rfl⟩ := List.mem_map.mp ha
    exact hrow i (List.mem_range.mp hi))
  have hD2 : va_D A (((X ++ va_pl L f) ++ [(H.size, .inl (cA, n.toNatClampNeg, .inr (.inr (.inr (.inr (fun i => if i < n.toNatClampNeg then some (H.size + 1 + i) else none))))))]) ++ ((List.range n.toNatClampNeg).map (fun i => H.size + 1 + i)).map (fun a => (a, .inl (cy, z)))) := by
    have hD1 := hD.push (e := .inl (cA, n.toNatClampNeg, .inr (.inr (.inr (.inr (fun i => if i < n.toNatClampNeg then some (H.size + 1 + i) else none)))))) hP rfl (hA _ hS.1)
    generalize hW1 : (X ++ va_pl L f) ++ [(H.size, .inl (cA, n.toNatClampNeg, .inr (.inr (.inr (.inr (fun i => if i < n.toNatClampNeg then some (H.size + 1 + i) else none))))))] = W1 at hD1 hP1 ⊢
    have hle : ∀ (k9 : Nat) (x : Nat × va_E), W1[k9]? = some x → x.1 ≤ H.size := fun k9 x hx => by
      rw [← hW1] at hx
      by_cases hl : k9 < (X ++ va_pl L f).length
      · rw [List.getElem?_append_left hl] at hx
        exact Nat.le_of_lt ((hP k9 x hx).lt)
      · rw [List.getElem?_append_right (by omega)] at hx
        have h0 : k9 - (X ++ va_pl L f).length < 1 := (List.getElem?_eq_some_iff.mp hx).1
        rw [show k9 - (X ++ va_pl L f).length = 0 by omega] at hx
        cases hx
        exact Nat.le_refl _
    have hr : ∀ (k9 : Nat) (x : Nat × va_E), (((List.range n.toNatClampNeg).map (fun i => H.size + 1 + i)).map (fun a => ((a, .inl (cy, z)) : Nat × va_E)))[k9]? = some x → x.1 = H.size + 1 + k9 := fun k9 x hx => by
      rw [List.getElem?_map, List.getElem?_map] at hx
      by_cases h9 : k9 < n.toNatClampNeg
      · rw [List.getElem?_range h9] at hx
        cases hx
        rfl
      · have hn0 : (List.range n.toNatClampNeg)[k9]? = none := List.getElem?_eq_none (by rw [List.length_range]; omega)
        rw [hn0] at hx
        cases hx
    refine ⟨fun i j x y hi hj hxy => ?_, fun k9 x hx => ?_⟩
    · by_cases h1 : i < W1.length <;> by_cases h2 : j < W1.length
      · rw [List.getElem?_append_left h1] at hi
        rw [List.getElem?_append_left h2] at hj
        exact hD1.1 i j x y hi hj hxy
      · rw [List.getElem?_append_left h1] at hi
        rw [List.getElem?_append_right (by omega)] at hj
        have := hle _ _ hi
        have := hr _ _ hj
        omega
      · rw [List.getElem?_append_right (by omega)] at hi
        rw [List.getElem?_append_left h2] at hj
        have := hle _ _ hj
        have := hr _ _ hi
        omega
      · rw [List.getElem?_append_right (by omega)] at hi hj
        have := hr _ _ hi
        have := hr _ _ hj
        omega
    · by_cases h1 : k9 < W1.length
      · rw [List.getElem?_append_left h1] at hx
        exact hD1.2 k9 x hx
      · rw [List.getElem?_append_right (by omega)] at hx
        have := hr _ _ hx
        exact hA _ (by have := hS.1; omega)
  have hAr : ArrOfT s cA (.array ty) := fun N9 z9 => by
    obtain ⟨-, k9, hk9, cm9, hkk9⟩ := (hO 0 0 0).1
    exact ⟨(fun q hq => by cases hq), k9, hk9, cm9, hkk9⟩
  have hK2 : va_K D cl (tys ++ [(cA, .array ty)]) s := ⟨hK.1, fun k9 x hx => by
    by_cases hl : k9 < tys.length
    · rw [List.getElem?_append_left hl] at hx
      exact hK.2 k9 x hx
    · rw [List.getElem?_append_right (by omega)] at hx
      have h0 : k9 - tys.length < 1 := (List.getElem?_eq_some_iff.mp hx).1
      rw [show k9 - tys.length = 0 by omega] at hx
      cases hx
      exact ⟨hAr, fA⟩⟩
  obtain ⟨t, a1, b1⟩ := kk H.size (fun i => H.size + 1 + i) cA F.heap (fun i j _ _ h => by have h9 : H.size + 1 + i = H.size + 1 + j := h; omega) hnl hK2 (by rw [← vr_rows hnm]; exact vr_lay hP2) (by rw [← vr_rows hnm]; exact vr_layD hD2) ⟨by rw [f1]; have := hS.1; omega, fun x h1 h2 => (hold x (Nat.lt_of_lt_of_le h1 hS.1)).trans (hS.2.1 x h1 h2), hS.2.2⟩ F rfl X'
  refine ⟨t, step t ?_, b1⟩
  have e : T.heap.size = H.size := by rw [hT]
  rw [e]
  exact a1
end VGM
/-! ===== END ===== -/

/-! ===== BEGIN exceptions that leave a method, and their catching by the caller (launches without stack traces) ===== -/
section VXA
/-! The laws vx_back, vx_callV, vx_callS, vx_callSW, vx_throw0, vx_throwS follow proofs of the library, with one case more: JvmDerived/Free/Laws.lean (Back.of_free), Shelf42/LK1.lean (callV, callS), Shelf/KitTraced.lean (throwNew0V, throwNewS). -/
/-- where a method has thrown q: the class by its name, the cell, what was written, the world -/
def vx_T (XC : String → State → State → Prop) (st : State) (q : Addr) (t : State) (mc ms : Nat) (free : Addr → Prop) : Prop :=
  ∃ (E : String) (ce : Cell) (L : List Loc), XC E st t ∧ t.heap[q]? = some ce ∧ ce.vm = .none ∧ st.vm.findClass E = some ce.cls ∧ st.WarmedH t.vm ∧ st.sameButNew ({ t with vm := st.vm } : State) L mc ms ∧ ∀ z ∈ L, free z.base
def vx_Q (Qc : Array Value → State → Outcome → State → Prop) (XC : String → State → State → Prop) (mc ms : Nat) (free : Addr → Prop) : Array Value → State → Outcome → State → Prop := fun a st o t =>
  (Qc a st o t ∧ ∃ L, FrameEnd st o t L mc ms ∧ ∀ q ∈ L, free q.base) ∨ ∃ q, o = .threw q ∧ vx_T XC st q t mc ms free
/-- a callee that returns or throws -/
def vx_Met (l : Launch) (y : MethodName) (ws : List Cond) (rm : Room) (Pc : Array Value → State → Prop) (Qc : Array Value → State → Outcome → State → Prop) (XC : String → State → State → Prop) (mc ms : Nat) (free : Addr → Prop) : Prop :=
  MetFree l y (headSpec ws rm) Pc (fun _ _ _ _ _ => True) (vx_Q Qc XC mc ms free)
def vx_Post (XC : String → State → State → Prop) (mc ms : Nat) (free : Addr → Prop) : Pt → Array Value → Addr → Pt → Prop := fun A a q B =>
  ∃ (g : JFrame) (mk : MethodId) (t : State) (L : List Loc) (E : String) (ce : Cell), B.U.heap = t.heap ∧ B.U.vm = t.vm ∧ XC E (A.U.calling g mk a) t ∧ t.heap[q]? = some ce ∧ ce.vm = .none ∧ A.U.vm.findClass E = some ce.cls ∧ B.locs = A.locs ++ L ∧ (∀ z ∈ L, free z.base) ∧ B.cells = A.cells + mc ∧ B.slots = A.slots + ms
def vx_Back (l : Launch) (R : Room) (p : Program) (e : Env) (below : List Frame) (s : State) (sargs : Array Value) (y : MethodName) (len W9 : Nat)
    (Pre : Pt → Array Value → Prop) (Post : Pt → Array Value → Option Value → Pt → Prop) (PostX : Pt → Array Value → Addr → Pt → Prop) : Prop :=
  ∀ (m : MethodId) (meth : Method) (c : Code) (A : Pt) (g : JFrame) (ig : Instr) (mk : MethodId) (a : Array Value),
    Stand p l e R s m sargs below meth c A.U A.locs A.cells A.slots → g.method = m → g.locals.size = c.maxLocals → decode c.code g.pc = .ok (ig, len) →
    2 * g.monitorRoom + (g.stack.map fun v => v.category).sum ≤ W9 → A.U.methodNamed? y = some mk → Pre A a →
    (∃ (v : Option Value) (B : Pt), Stand p l e R s m sargs below meth c B.U B.locs B.cells B.slots ∧ Post A a v B ∧
      Steps p.tables e below (doInvoke e (A.U.setTop g) [] mk a).1 (B.U.setTop { g with pc := g.pc + len, stack := v.toList ++ g.stack })) ∨
    (∃ (q : Addr) (B : Pt), Stand p l e R s m sargs below meth c B.U B.locs B.cells B.slots ∧ PostX A a q B ∧
      Steps p.tables e below (doInvoke e (A.U.setTop g) [] mk a).1 ((B.U.setTop g).pushFrame (.throwing q)))
section Payer
variable {l : Launch} {R : Room} {p : Program} {e : Env} {below : List Frame} {s : State} {sargs : Array Value} {y : MethodName} {len W9 : Nat}
theorem vx_back {ws : List Cond} {rm : Room} {Pc : Array Value → State → Prop} {Qc : Array Value → State → Outcome → State → Prop} {XC : String → State → State → Prop} {mc ms : Nat} {free : Addr → Prop} {bytes : ByteArray} {maxL : Nat} {ret : Option FieldType}
    (hM : vx_Met l y ws rm Pc Qc XC mc ms free) (hblind : FrameBlind Pc) (hrc : rm.cells = mc) (hrs : rm.slots = ms)
    (hframes : rm.frames + 1 ≤ R.frames) (hlocals : W9 + (maxL + 11) + rm.locals ≤ R.locals)
    (hws : ∀ w ∈ ws, ∀ a' U, s.WarmedH U.vm → w.before a' U = true) (hcode : Cond.code y bytes maxL ret ∈ ws) (hinit : ∀ a' U, s.WarmedH U.vm → (Cond.initialized y.cls).before a' U = true) :
    vx_Back l R p e below s sargs y len W9 (PreOf R mc ms Pc) (PostOf Qc mc ms free) (vx_Post XC mc ms free) := by
  intro m meth c A g ig mk a X hg hsize hdg hW hn hp
  have h1 : (headSpec ws rm).pre.before a A.U = true := atoms_intro fun w hw => hws w hw _ _ X.warmed
  have h2 : (Cond.code y bytes maxL ret).before a A.U = true := hws _ hcode _ _ X.warmed
  have h3 : (Cond.initialized y.cls).before a A.U = true := hinit _ _ X.warmed
  have h4 : A.cells + (headSpec ws rm).room.cells ≤ R.cells := by rw [show (headSpec ws rm).room.cells = mc from hrc]; exact hp.1
  have h5 : A.slots + (headSpec ws rm).room.slots ≤ R.slots := by rw [show (headSpec ws rm).room.slots = ms from hrs]; exact hp.2.1
  have hPc : Pc a (A.U.calling g mk a) := hblind _ _ _ _ hp.2.2
  obtain ⟨U, Ls, c0, s0⟩ := A
  dsimp only [Pt.U, Pt.locs, Pt.cells, Pt.slots] at h1 h2 h3 h4 h5 X hn hPc ⊢
  obtain ⟨methY, cY, hmY, hcY, -, hlY, -, -, -, -⟩ := Cond.code_spec hn h2
  obtain ⟨kY, hkY, -⟩ := className_of_methodNamed hn
  have hinitY : kY.init = .initialized := Cond.initialized_spec (findClass_of_methodNamed hn) hkY h3
  have h : At U g.method c below := by rw [hg]; exact X.here
  have hlocals9 : W9 + (maxL + 11) + (headSpec ws rm).room.locals ≤ R.locals := hlocals
  have happ : (headSpec ws rm).appliesLoose y e.platform (U.calling g mk a) = true :=
    Spec.appliesLoose_calling (g := g) h hdg hn hkY hinitY
      (X.room_calling (g := g) (R' := (headSpec ws rm).room) hsize hmY hcY hframes (by rw [hlY]; omega) h4 h5) h1
  obtain ⟨mid, hmid⟩ := h.above
  have hfr : (U.setTop g).frames = (.java g :: mid) ++ below := by rw [State.frames_setTop' g h.top, hmid]; rfl
  obtain ⟨o, s₂, hsteps, -, hend, hq⟩ := Steps.callFree hM p X.admits X.cas X.clock (acts := []) hfr happ hPc trivial
  have hq' : vx_Q Qc XC mc ms free a (U.calling g mk a) o s₂ := hq
  rw [State.frames_setTop' g h.top] at hend
  obtain ⟨g₀, hg0⟩ := Option.isSome_iff_exists.mp h.top
  obtain ⟨r, hr⟩ := State.topJava?_eq_some.mp hg0
  have hr' : (({ U with heap := s₂.heap, slotsUsed := s₂.slotsUsed } : State).setVm s₂.vm).frames = .java g₀ :: r := hr
  rcases hq' with ⟨hqc, L, hfe, hL⟩ | ⟨q, rfl, E, ce, L, hx, hce, hcv, hcl, hW₂, hsm, hL⟩
  · obtain ⟨⟨v, rfl⟩, hW₂, e2, q2, q3, q4, q5, q6⟩ := id hfe
    have e3 : s₂ = ({ (U.calling g mk a).setFrames s₂.frames with heap := s₂.heap, slotsUsed := s₂.slotsUsed } : State).setVm s₂.vm := by
      have : s₂ = ({ s₂ with vm := (U.calling g mk a).vm } : State).setVm s₂.vm := rfl
      rw [e2] at this
      exact this
    obtain ⟨c₂, i₂, len₂, hc₂, hd₂, hf₂⟩ := hend
    have hW' : U.WarmedH s₂.vm := hW₂
    have hcc : c₂ = c := by
      have h1 : s₂.code? g.method = U.code? g.method := by
        rw [State.code?_eq, State.code?_eq, hW'.alike.method?]
      exact Option.some.inj (hc₂.symm.trans (h1.trans h.code))
    subst hcc
    have hlen : len₂ = len := by rw [hdg] at hd₂; cases hd₂; rfl
    subst hlen
    have hs₂ : s₂ = (({ U with heap := s₂.heap, slotsUsed := s₂.slotsUsed } : State).setVm s₂.vm).setTop { g with pc := g.pc + len₂, stack := v.toList ++ g.stack } := by
      refine e3.trans ?_
      rw [hf₂, State.calling_eq h.top, State.setFrames_setFrames, State.setTop_of_frames _ hr', hr]
      rfl
    have hsame : U.sameButNew ({ U with heap := s₂.heap, slotsUsed := s₂.slotsUsed } : State) L mc ms := by
      refine ⟨?_, q2, q3, q4, q5, q6⟩
      obtain ⟨t, ht, -⟩ := State.frames_cons hr
      show ({ U with heap := s₂.heap, slotsUsed := s₂.slotsUsed } : State) = { U.setFrames U.frames with heap := s₂.heap, slotsUsed := s₂.slotsUsed }
      rw [State.setFrames_self ht]
    subst hg
    refine Or.inl ⟨v, ⟨(({ U with heap := s₂.heap, slotsUsed := s₂.slotsUsed } : State).setVm s₂.vm), Ls ++ L, c0 + mc, s0 + ms⟩,
      ⟨X.admits, X.cas, X.clock, X.frames, X.room, X.hears, X.method, X.code, (X.here.setHeapUsed s₂.heap s₂.slotsUsed).setVm hW'.alike, X.tail, State.WarmedH.trans X.warmed hW', X.limits, X.bytes, X.same.trans (hsame.setVm s.vm)⟩,
      ⟨g, mk, s₂, L, rfl, rfl, hqc, rfl, hL, rfl, rfl⟩, ?_⟩
    show Steps p.tables e below _ ((({ U with heap := s₂.heap, slotsUsed := s₂.slotsUsed } : State).setVm s₂.vm).setTop { g with pc := g.pc + len₂, stack := v.toList ++ g.stack })
    rw [← hs₂]
    exact hsteps
  · obtain ⟨e2, q2, q3, q4, q5, q6⟩ := id hsm
    have e3 : s₂ = ({ (U.calling g mk a).setFrames s₂.frames with heap := s₂.heap, slotsUsed := s₂.slotsUsed } : State).setVm s₂.vm := by
      have : s₂ = ({ s₂ with vm := (U.calling g mk a).vm } : State).setVm s₂.vm := rfl
      rw [e2] at this
      exact this
    have hf₂ : s₂.frames = .throwing q :: .java g :: U.frames.tail := hend
    have hW' : U.WarmedH s₂.vm := hW₂
    have hs₂ : s₂ = ((({ U with heap := s₂.heap, slotsUsed := s₂.slotsUsed } : State).setVm s₂.vm).setTop g).pushFrame (.throwing q) := by
      refine e3.trans ?_
      rw [hf₂, State.calling_eq h.top, State.setFrames_setFrames, State.pushFrame, State.frames_setTop _ hr', State.setTop_of_frames _ hr', State.setFrames_setFrames, hr]
      rfl
    have hsame : U.sameButNew ({ U with heap := s₂.heap, slotsUsed := s₂.slotsUsed } : State) L mc ms := by
      refine ⟨?_, q2, q3, q4, q5, q6⟩
      obtain ⟨t, ht, -⟩ := State.frames_cons hr
      show ({ U with heap := s₂.heap, slotsUsed := s₂.slotsUsed } : State) = { U.setFrames U.frames with heap := s₂.heap, slotsUsed := s₂.slotsUsed }
      rw [State.setFrames_self ht]
    subst hg
    refine Or.inr ⟨q, ⟨(({ U with heap := s₂.heap, slotsUsed := s₂.slotsUsed } : State).setVm s₂.vm), Ls ++ L, c0 + mc, s0 + ms⟩,
      ⟨X.admits, X.cas, X.clock, X.frames, X.room, X.hears, X.method, X.code, (X.here.setHeapUsed s₂.heap s₂.slotsUsed).setVm hW'.alike, X.tail, State.WarmedH.trans X.warmed hW', X.limits, X.bytes, X.same.trans (hsame.setVm s.vm)⟩,
      ⟨g, mk, s₂, L, E, ce, rfl, rfl, hx, hce, hcv, hcl, rfl, hL, rfl, rfl⟩, ?_⟩
    show Steps p.tables e below _ (((({ U with heap := s₂.heap, slotsUsed := s₂.slotsUsed } : State).setVm s₂.vm).setTop g).pushFrame (.throwing q))
    rw [← hs₂]
    exact hsteps
end Payer
section Calls
variable {p : Program} {l : Launch} {e : Env} {R : Room} {s : State} {m : MethodId} {args : Array Value} {below : List Frame} {meth : Method} {c : Code} {T : State} {locs : List Loc} {cells slots : Nat}
theorem vx_callV (X : Stand p l e R s m args below meth c T locs cells slots) (hexec : p.tables.exec = Jvm.exec) {own C : String} {index : Nat} {y : MethodName} {bytes : ByteArray} {maxL : Nat} {ret : Option FieldType}
    (hown : s.vm.findClass own = some m.cls) (hlink : (Cond.methodLink own index y).before args s = true) (hinst : (Cond.instanceMethod y).before args s = true) (hsel : (Cond.selects C y y).before args s = true)
    (hcode : (Cond.code y bytes maxL ret).before args s = true) (hy : y.cls ≠ "java/lang/invoke/MethodHandle" ∧ y.cls ≠ "java/lang/invoke/VarHandle")
    {W9 : Nat} {Pre : Pt → Array Value → Prop} {Post : Pt → Array Value → Option Value → Pt → Prop} {PostX : Pt → Array Value → Addr → Pt → Prop} (hK : vx_Back l R p e below s args y 3 W9 Pre Post PostX)
    {b : Addr} {cellB : Cell} (hcell : T.heap[b]? = some cellB) (hobj : cellB.vm.isStatics = false) (hcls : s.vm.findClass C = some cellB.cls)
    {g : JFrame} (hg : g.method = m) (hsize : g.locals.size = c.maxLocals) {argsL rest : List Value} (hlen : ∀ sig, parseMethodDescriptor y.desc = some sig → argsL.length = sig.parameters.length)
    (hstack : g.stack = argsL.reverse ++ .ref b :: rest) (hW : 2 * g.monitorRoom + (rest.map fun v => v.category).sum ≤ W9) (hdg : decode c.code g.pc = .ok (.invokevirtual index, 3))
    (hpre : ∀ vm₁, s.WarmedH vm₁ → Pre ⟨T.setVm vm₁, locs, cells, slots⟩ (Value.ref b :: argsL).toArray) :
    (∃ (v : Option Value) (vm₁ : Vm) (B : Pt), s.WarmedH vm₁ ∧ Stand p l e R s m args below meth c B.U B.locs B.cells B.slots ∧ Post ⟨T.setVm vm₁, locs, cells, slots⟩ (Value.ref b :: argsL).toArray v B ∧
      ∀ target, Steps p.tables e below (B.U.setTop { g with pc := g.pc + 3, stack := v.toList ++ rest }) target → Steps p.tables e below (T.setTop g) target) ∨
    (∃ (q : Addr) (vm₁ : Vm) (B : Pt), s.WarmedH vm₁ ∧ Stand p l e R s m args below meth c B.U B.locs B.cells B.slots ∧ PostX ⟨T.setVm vm₁, locs, cells, slots⟩ (Value.ref b :: argsL).toArray q B ∧
      Steps p.tables e below (T.setTop g) ((B.U.setTop { g with stack := rest }).pushFrame (.throwing q))) := by
  obtain ⟨mk, methM, hnamed, hmethM, hstM, habM⟩ := Cond.instanceMethod_spec hinst
  obtain ⟨methM', cM, hmethM', -, -, -, -, -, -, hsigM⟩ := Cond.code_spec hnamed hcode
  cases hmethM.symm.trans hmethM'
  obtain ⟨c2, r2, m2, q1, q2, q3, q4, kP, hkP, hkPi⟩ := Cond.selects_spec hsel
  cases hcls.symm.trans q1
  cases (State.methodFound?_of_named hnamed hy).symm.trans q2
  cases hnamed.symm.trans q3
  have hselP : selectMethod e.platform s.vm cellB.cls mk = .method mk := by rw [Launch.admits_selectMethod X.admits]; exact q4
  obtain ⟨vm₁, X₁, hstep₁⟩ := X.invokevirtual hexec hown hlink hnamed hmethM hstM hkP hkPi hy (a := b) (cell := cellB) hcell
    (fun z h => by rw [h] at hobj; cases hobj) hselP hmethM habM hkP hkPi (g := g) hg (argsL := argsL) (rest := rest) (hlen _ hsigM) hstack hdg
  rcases hK m meth c ⟨T.setVm vm₁, locs, cells, slots⟩ { g with stack := rest } (.invokevirtual index) mk (Value.ref b :: argsL).toArray X₁ hg hsize hdg hW (X₁.named hnamed) (hpre vm₁ X₁.warmed) with ⟨v, B, X', hpost, hsteps⟩ | ⟨q, B, X', hpost, hsteps⟩
  · exact Or.inl ⟨v, vm₁, B, X₁.warmed, X', hpost, fun target h => hstep₁ _ fun acts => by rw [doInvoke_state]; exact hsteps.trans h⟩
  · exact Or.inr ⟨q, vm₁, B, X₁.warmed, X', hpost, hstep₁ _ fun acts => by rw [doInvoke_state]; exact hsteps⟩
theorem vx_callS (X : Stand p l e R s m args below meth c T locs cells slots) (hexec : p.tables.exec = Jvm.exec) {own : String} {index : Nat} {y : MethodName} {bytes : ByteArray} {maxL : Nat} {ret : Option FieldType}
    (hown : s.vm.findClass own = some m.cls) (hlink : (Cond.methodLink own index y).before args s = true) (hstat : (Cond.static y).before args s = true) (hinit : (Cond.initialized y.cls).before args s = true)
    (hcode : (Cond.code y bytes maxL ret).before args s = true) (hy : y.cls ≠ "java/lang/invoke/MethodHandle" ∧ y.cls ≠ "java/lang/invoke/VarHandle")
    {W9 : Nat} {Pre : Pt → Array Value → Prop} {Post : Pt → Array Value → Option Value → Pt → Prop} {PostX : Pt → Array Value → Addr → Pt → Prop} (hK : vx_Back l R p e below s args y 3 W9 Pre Post PostX)
    {g : JFrame} (hg : g.method = m) (hsize : g.locals.size = c.maxLocals) {argsL rest : List Value} (hlen : ∀ sig, parseMethodDescriptor y.desc = some sig → argsL.length = sig.parameters.length)
    (hstack : g.stack = argsL.reverse ++ rest) (hW : 2 * g.monitorRoom + (rest.map fun v => v.category).sum ≤ W9) (hdg : decode c.code g.pc = .ok (.invokestatic index, 3))
    (hpre : ∀ vm₁, s.WarmedH vm₁ → Pre ⟨T.setVm vm₁, locs, cells, slots⟩ argsL.toArray) :
    (∃ (v : Option Value) (vm₁ : Vm) (B : Pt), s.WarmedH vm₁ ∧ Stand p l e R s m args below meth c B.U B.locs B.cells B.slots ∧ Post ⟨T.setVm vm₁, locs, cells, slots⟩ argsL.toArray v B ∧
      ∀ target, Steps p.tables e below (B.U.setTop { g with pc := g.pc + 3, stack := v.toList ++ rest }) target → Steps p.tables e below (T.setTop g) target) ∨
    (∃ (q : Addr) (vm₁ : Vm) (B : Pt), s.WarmedH vm₁ ∧ Stand p l e R s m args below meth c B.U B.locs B.cells B.slots ∧ PostX ⟨T.setVm vm₁, locs, cells, slots⟩ argsL.toArray q B ∧
      Steps p.tables e below (T.setTop g) ((B.U.setTop { g with stack := rest }).pushFrame (.throwing q))) := by
  obtain ⟨mk, hnamed⟩ := Cond.code_named hcode
  obtain ⟨methM, cM, hmethM, -, -, -, -, -, -, hsigM⟩ := Cond.code_spec hnamed hcode
  have hstatic : methM.isStatic = true := Cond.static_spec hnamed hmethM hstat
  obtain ⟨kP, hkP, -⟩ := className_of_methodNamed hnamed
  have hinitP : kP.init = .initialized := Cond.initialized_spec (findClass_of_methodNamed hnamed) hkP hinit
  obtain ⟨vm₁, X₁, hstep₁⟩ := X.invokestatic hexec hown hlink hnamed hmethM hstatic hkP hinitP hy (g := g) hg (argsL := argsL) (rest := rest) (hlen _ hsigM) hstack hdg
  rcases hK m meth c ⟨T.setVm vm₁, locs, cells, slots⟩ { g with stack := rest } (.invokestatic index) mk argsL.toArray X₁ hg hsize hdg hW (X₁.named hnamed) (hpre vm₁ X₁.warmed) with ⟨v, B, X', hpost, hsteps⟩ | ⟨q, B, X', hpost, hsteps⟩
  · exact Or.inl ⟨v, vm₁, B, X₁.warmed, X', hpost, fun target h => hstep₁ _ fun acts => by rw [doInvoke_state]; exact hsteps.trans h⟩
  · exact Or.inr ⟨q, vm₁, B, X₁.warmed, X', hpost, hstep₁ _ fun acts => by rw [doInvoke_state]; exact hsteps⟩
end Calls
theorem vx_cls {s : State} {T : State} {vm₁ : Vm} {E : String} {k : ClassId} (hW : s.WarmedH vm₁) (h : (T.setVm vm₁).vm.findClass E = some k) : s.vm.findClass E = some k := by
  have h1 : vm₁.findClass E = some k := h
  rw [hW.alike.findClass] at h1
  exact h1
/-- the method's frame g, with q thrown over it -/
def vx_W (p : Program) (l : Launch) (e : Env) (R : Room) (s : State) (m : MethodId) (args : Array Value) (below : List Frame) (meth : Method) (c : Code) (H : Heap) (locs : List Loc) (cells slots : Nat) (Q : State → Prop) (g : JFrame) (q : Addr) : Prop :=
  ∀ T : State, T.heap = H → Stand p l e R s m args below meth c T locs cells slots → ∃ t, Steps p.tables e below ((T.setTop g).pushFrame (.throwing q)) t ∧ Q t
def vx_Run (p : Program) (l : Launch) (e : Env) (R : Room) (s : State) (m : MethodId) (args : Array Value) (below : List Frame) (meth : Method) (c : Code) (H : Heap) (locs : List Loc) (cells slots mc ms : Nat) (g : JFrame) (rest : List Value) (Qa : State → Outcome → State → Prop) (XC : String → State → State → Prop) (free : Addr → Prop) : Prop :=
  ∀ T : State, T.heap = H → Stand p l e R s m args below meth c T locs cells slots →
    (∃ (v : Option Value) (st₀ t T' : State) (L : List Loc), st₀.heap = H ∧ Stand p l e R s m args below meth c T' (locs ++ L) (cells + mc) (slots + ms) ∧ (∀ q ∈ L, free q.base) ∧ T'.heap = t.heap ∧ T'.vm = t.vm ∧ Qa st₀ (.returned v) t ∧
      Goes p e below T g T' { g with pc := g.pc + 3, stack := v.toList ++ rest }) ∨
    (∃ (q : Addr) (st₀ t T' : State) (L : List Loc) (E : String) (ce : Cell), st₀.heap = H ∧ Stand p l e R s m args below meth c T' (locs ++ L) (cells + mc) (slots + ms) ∧ (∀ z ∈ L, free z.base) ∧ T'.heap = t.heap ∧ T'.vm = t.vm ∧ XC E st₀ t ∧ t.heap[q]? = some ce ∧ ce.vm = .none ∧ s.vm.findClass E = some ce.cls ∧
      Steps p.tables e below (T.setTop g) ((T'.setTop { g with stack := rest }).pushFrame (.throwing q)))
def vx_X {S : Type} (px : S → Prop) (B : String → S → State → Prop) (A : Nat → Prop) : String → State → State → Prop := fun E st t => ∃ u : S, px u ∧ B E u t ∧ va_F A st t
section Runs
variable {p : Program} {l : Launch} {e : Env} {R : Room} {s : State} {m : MethodId} {args : Array Value} {below : List Frame} {meth : Method} {c : Code} {H : Heap} {locs : List Loc} {cells slots : Nat}
variable {y : MethodName} {bytes cc : ByteArray} {maxL nL mc ms n index : Nat} {ret : Option FieldType} {ws : List Cond} {rm : Room} {Pc : Array Value → State → Prop} {Qc : Array Value → State → Outcome → State → Prop} {XC : String → State → State → Prop} {free : Addr → Prop} {Ts : List Cond} {own C : String} {b : Addr} {As rest : List Value} {g : JFrame}
theorem vx_callBack (cb : CallB R s args own index y bytes maxL ret ws rm mc ms n) (hM : vx_Met l y ws rm Pc Qc XC mc ms free) (hbl : FrameBlind Pc) : vx_Back l R p e below s args y 3 8 (PreOf R mc ms Pc) (PostOf Qc mc ms free) (vx_Post XC mc ms free) := by
  obtain ⟨hrc, hrs, hfr, hlo, hws, hcw, -, hini, -⟩ := cb
  exact vx_back (bytes := bytes) (maxL := maxL) (ret := ret) hM hbl hrc hrs hfr hlo hws hcw (fun a' U hW => word_at hW (Or.inl (by first | rfl | simp [Cond.onTables, Cond.keeps, Cond.steady])) hini)
theorem vx_runV (S : CallFix p m c cc nL s args Ts own) (hM : vx_Met l y ws rm Pc Qc XC mc ms free) (cw : CallW R s args own C index y bytes maxL ret ws rm mc ms n) (hp : PreV s H C b Pc As)
    (hg : g.method = m) (hn : As.length = n) (hsize : g.locals.size = nL) (hstack : g.stack = As.reverse ++ .ref b :: rest) (hW : 2 * g.monitorRoom + (rest.map fun v => v.category).sum ≤ 8) (hdg : decode cc g.pc = .ok (.invokevirtual index, 3)) (hf : cells + mc ≤ R.cells ∧ slots + ms ≤ R.slots) :
    vx_Run p l e R s m args below meth c H locs cells slots mc ms g rest (Qc (Value.ref b :: As).toArray) XC free := by
  have hK : vx_Back l R p e below s args y 3 8 (PreOf R mc ms Pc) (PostOf Qc mc ms free) (vx_Post XC mc ms free) := vx_callBack cw.1 hM hp.1
  obtain ⟨⟨-, -, -, -, -, -, hcode, -, hy, hlen, hl⟩, hin, hse⟩ := cw
  obtain ⟨hx, hb, hml, ho, -⟩ := S
  obtain ⟨-, ⟨cellB, hcB, hoB, hclB⟩, hPc⟩ := hp
  intro T hT X
  rcases vx_callV X hx (C := C) (bytes := bytes) (maxL := maxL) (ret := ret) ho hl hin hse hcode hy hK (by rw [hT]; exact hcB) hoB hclB hg (hsize.trans hml.symm) (argsL := As) (rest := rest) (fun sig h => hn.trans (hlen sig h)) hstack hW (by rw [hb]; exact hdg)
    (fun vm₁ hW₁ => ⟨hf.1, hf.2, hPc (T.setVm vm₁) hT hW₁⟩) with ⟨v, vm₁, ⟨U', l2, c2, s2⟩, hW₁, X', ⟨g', mk, t, L, e1, e2, hq, h1, hL, h2, h3⟩, st⟩ | ⟨q, vm₁, ⟨U', l2, c2, s2⟩, hW₁, X', ⟨g', mk, t, L, E, ce, e1, e2, hq, hce, hcv, hcl, h1, hL, h2, h3⟩, st⟩
  · dsimp only [Pt.U, Pt.locs, Pt.cells, Pt.slots] at X' e1 e2 h1 h2 h3 st
    subst h1; subst h2; subst h3
    exact Or.inl ⟨v, (T.setVm vm₁).calling g' mk (Value.ref b :: As).toArray, t, U', L, hT, X', hL, e1, e2, hq, st⟩
  · dsimp only [Pt.U, Pt.locs, Pt.cells, Pt.slots] at X' e1 e2 h1 h2 h3 st hcl
    subst h1; subst h2; subst h3
    exact Or.inr ⟨q, (T.setVm vm₁).calling g' mk (Value.ref b :: As).toArray, t, U', L, E, ce, hT, X', hL, e1, e2, hq, hce, hcv, vx_cls hW₁ hcl, st⟩
theorem vx_runS (S : CallFix p m c cc nL s args Ts own) (hM : vx_Met l y ws rm Pc Qc XC mc ms free) (cw : CallB R s args own index y bytes maxL ret ws rm mc ms n ∧ (Cond.static y).before args s = true) (hp : PreS s H Pc As)
    (hg : g.method = m) (hn : As.length = n) (hsize : g.locals.size = nL) (hstack : g.stack = As.reverse ++ rest) (hW : 2 * g.monitorRoom + (rest.map fun v => v.category).sum ≤ 8) (hdg : decode cc g.pc = .ok (.invokestatic index, 3)) (hf : cells + mc ≤ R.cells ∧ slots + ms ≤ R.slots) :
    vx_Run p l e R s m args below meth c H locs cells slots mc ms g rest (Qc As.toArray) XC free := by
  have hK : vx_Back l R p e below s args y 3 8 (PreOf R mc ms Pc) (PostOf Qc mc ms free) (vx_Post XC mc ms free) := vx_callBack cw.1 hM hp.1
  obtain ⟨⟨-, -, -, -, -, -, hcode, hini, hy, hlen, hl⟩, hstt⟩ := cw
  obtain ⟨hx, hb, hml, ho, -⟩ := S
  intro T hT X
  rcases vx_callS X hx (bytes := bytes) (maxL := maxL) (ret := ret) ho hl hstt hini hcode hy hK hg (hsize.trans hml.symm) (argsL := As) (rest := rest) (fun sig h => hn.trans (hlen sig h)) hstack hW (by rw [hb]; exact hdg)
    (fun vm₁ hW₁ => ⟨hf.1, hf.2, hp.2 (T.setVm vm₁) hT hW₁⟩) with ⟨v, vm₁, ⟨U', l2, c2, s2⟩, hW₁, X', ⟨g', mk, t, L, e1, e2, hq, h1, hL, h2, h3⟩, st⟩ | ⟨q, vm₁, ⟨U', l2, c2, s2⟩, hW₁, X', ⟨g', mk, t, L, E, ce, e1, e2, hq, hce, hcv, hcl, h1, hL, h2, h3⟩, st⟩
  · dsimp only [Pt.U, Pt.locs, Pt.cells, Pt.slots] at X' e1 e2 h1 h2 h3 st
    subst h1; subst h2; subst h3
    exact Or.inl ⟨v, (T.setVm vm₁).calling g' mk As.toArray, t, U', L, hT, X', hL, e1, e2, hq, st⟩
  · dsimp only [Pt.U, Pt.locs, Pt.cells, Pt.slots] at X' e1 e2 h1 h2 h3 st hcl
    subst h1; subst h2; subst h3
    exact Or.inr ⟨q, (T.setVm vm₁).calling g' mk As.toArray, t, U', L, E, ce, hT, X', hL, e1, e2, hq, hce, hcv, vx_cls hW₁ hcl, st⟩
end Runs
section Rows
variable {p : Program} {l : Launch} {e : Env} {R : Room} {s : State} {m : MethodId} {args : Array Value} {below : List Frame} {meth : Method} {c : Code} {H : Heap} {locs : List Loc} {cells slots : Nat} {Q : State → Prop}
variable {mc ms : Nat} {free : Addr → Prop} {A0 A1 : Nat → Prop} {H0 : Heap} {a : Array Value} {pc : Nat} {ls : Array Slot} {st0 rest : List Value}
theorem vx_keep {st₀ t T' : State} {L : List Loc} (h0 : st₀.heap = H) (e1 : T'.heap = t.heap) (hS : va_S A0 H0 H locs) (hA : ∀ q, q < H.size → A1 q → A0 q) (hf : ∀ q, free q → A0 q) (hL : ∀ q ∈ L, free q.base) (hF : va_F A1 st₀ t) :
    H.size ≤ T'.heap.size ∧ (∀ q : Nat, q < H.size → ¬ A1 q → T'.heap[q]? = H[q]?) ∧ va_S A0 H0 T'.heap (locs ++ L) := by
  obtain ⟨hz, hk⟩ := hF
  rw [h0] at hz hk
  exact ⟨by rw [e1]; exact hz, fun q h1 h2 => by rw [e1]; exact hk q h1 h2,
    ⟨Nat.le_trans hS.1 (by rw [e1]; exact hz), fun q h1 h2 => by rw [e1, hk q (Nat.lt_of_lt_of_le h1 hS.1) (fun z => h2 (hA q (Nat.lt_of_lt_of_le h1 hS.1) z))]; exact hS.2.1 q h1 h2, fun q hq => by
      rcases List.mem_append.mp hq with h | h
      · exact hS.2.2 q h
      · exact hf _ (hL q h)⟩⟩
theorem vx_calli {S SX : Type} {post : Int32 → S → Prop} {px : SX → Prop} {B : S → State → Prop} {BX : String → SX → State → Prop} {AX : Nat → Prop} (hr : vx_Run p l e R s m args below meth c H locs cells slots mc ms (F0 m pc ls st0) rest (va_Qi post B A1 a) (vx_X px BX AX) free) (hS : va_S A0 H0 H locs) (hA : ∀ q, q < H.size → A1 q → A0 q) (hf : ∀ q, free q → A0 q) (hAX : ∀ q, q < H.size → AX q → A0 q)
    (kx : ∀ (E : String) (ce : Cell) (q9 : Addr) (u : SX) (t : State) (H1 : Heap) (locs1 : List Loc), t.heap = H1 → s.vm.Alike t.vm → px u → BX E u t → H.size ≤ H1.size → (∀ q : Nat, q < H.size → ¬ AX q → H1[q]? = H[q]?) → va_S A0 H0 H1 locs1 → H1[q9]? = some ce → ce.vm = .none → s.vm.findClass E = some ce.cls → vx_W p l e R s m args below meth c H1 locs1 (cells + mc) (slots + ms) Q (F0 m pc ls rest) q9)
    (kk : ∀ (r : Int32) (u : S) (t : State) (H1 : Heap) (locs1 : List Loc), t.heap = H1 → s.vm.Alike t.vm → post r u → B u t → H.size ≤ H1.size → (∀ q : Nat, q < H.size → ¬ A1 q → H1[q]? = H[q]?) → va_S A0 H0 H1 locs1 → W p l e R s m args below meth c H1 locs1 (cells + mc) (slots + ms) Q (F0 m (pc + 3) ls (.int r :: rest))) : W p l e R s m args below meth c H locs cells slots Q (F0 m pc ls st0) := by
  intro T hT X
  rcases hr T hT X with ⟨v, st₀, t, T', L, h0, X', hL, e1, e2, ⟨⟨r, u, hv, hp, hb⟩, hF⟩, st⟩ | ⟨q, st₀, t, T', L, E, ce, h0, X', hL, e1, e2, ⟨u, hp, hb, hF⟩, hce, hcv, hcl, st⟩
  · cases hv
    obtain ⟨k1, k2, k3⟩ := vx_keep h0 e1 hS hA hf hL hF
    obtain ⟨t2, a1, b1⟩ := kk r u t T'.heap (locs ++ L) e1.symm (by rw [← e2]; exact X'.warmed.alike) hp hb k1 k2 k3 T' rfl X'
    exact ⟨t2, st t2 a1, b1⟩
  · obtain ⟨k1, k2, k3⟩ := vx_keep h0 e1 hS hAX hf hL hF
    obtain ⟨t2, a1, b1⟩ := kx E ce q u t T'.heap (locs ++ L) e1.symm (by rw [← e2]; exact X'.warmed.alike) hp hb k1 k2 k3 (by rw [e1]; exact hce) hcv hcl T' rfl X'
    exact ⟨t2, st.trans a1, b1⟩
theorem vx_calll {S SX : Type} {post : Int64 → S → Prop} {px : SX → Prop} {B : S → State → Prop} {BX : String → SX → State → Prop} {AX : Nat → Prop} (hr : vx_Run p l e R s m args below meth c H locs cells slots mc ms (F0 m pc ls st0) rest (va_Ql post B A1 a) (vx_X px BX AX) free) (hS : va_S A0 H0 H locs) (hA : ∀ q, q < H.size → A1 q → A0 q) (hf : ∀ q, free q → A0 q) (hAX : ∀ q, q < H.size → AX q → A0 q)
    (kx : ∀ (E : String) (ce : Cell) (q9 : Addr) (u : SX) (t : State) (H1 : Heap) (locs1 : List Loc), t.heap = H1 → s.vm.Alike t.vm → px u → BX E u t → H.size ≤ H1.size → (∀ q : Nat, q < H.size → ¬ AX q → H1[q]? = H[q]?) → va_S A0 H0 H1 locs1 → H1[q9]? = some ce → ce.vm = .none → s.vm.findClass E = some ce.cls → vx_W p l e R s m args below meth c H1 locs1 (cells + mc) (slots + ms) Q (F0 m pc ls rest) q9)
    (kk : ∀ (r : Int64) (u : S) (t : State) (H1 : Heap) (locs1 : List Loc), t.heap = H1 → s.vm.Alike t.vm → post r u → B u t → H.size ≤ H1.size → (∀ q : Nat, q < H.size → ¬ A1 q → H1[q]? = H[q]?) → va_S A0 H0 H1 locs1 → W p l e R s m args below meth c H1 locs1 (cells + mc) (slots + ms) Q (F0 m (pc + 3) ls (.long r :: rest))) : W p l e R s m args below meth c H locs cells slots Q (F0 m pc ls st0) := by
  intro T hT X
  rcases hr T hT X with ⟨v, st₀, t, T', L, h0, X', hL, e1, e2, ⟨⟨r, u, hv, hp, hb⟩, hF⟩, st⟩ | ⟨q, st₀, t, T', L, E, ce, h0, X', hL, e1, e2, ⟨u, hp, hb, hF⟩, hce, hcv, hcl, st⟩
  · cases hv
    obtain ⟨k1, k2, k3⟩ := vx_keep h0 e1 hS hA hf hL hF
    obtain ⟨t2, a1, b1⟩ := kk r u t T'.heap (locs ++ L) e1.symm (by rw [← e2]; exact X'.warmed.alike) hp hb k1 k2 k3 T' rfl X'
    exact ⟨t2, st t2 a1, b1⟩
  · obtain ⟨k1, k2, k3⟩ := vx_keep h0 e1 hS hAX hf hL hF
    obtain ⟨t2, a1, b1⟩ := kx E ce q u t T'.heap (locs ++ L) e1.symm (by rw [← e2]; exact X'.warmed.alike) hp hb k1 k2 k3 (by rw [e1]; exact hce) hcv hcl T' rfl X'
    exact ⟨t2, st.trans a1, b1⟩
theorem vx_callf {S SX : Type} {post : UInt32 → S → Prop} {px : SX → Prop} {B : S → State → Prop} {BX : String → SX → State → Prop} {AX : Nat → Prop} (hr : vx_Run p l e R s m args below meth c H locs cells slots mc ms (F0 m pc ls st0) rest (va_Qf post B A1 a) (vx_X px BX AX) free) (hS : va_S A0 H0 H locs) (hA : ∀ q, q < H.size → A1 q → A0 q) (hf : ∀ q, free q → A0 q) (hAX : ∀ q, q < H.size → AX q → A0 q)
    (kx : ∀ (E : String) (ce : Cell) (q9 : Addr) (u : SX) (t : State) (H1 : Heap) (locs1 : List Loc), t.heap = H1 → s.vm.Alike t.vm → px u → BX E u t → H.size ≤ H1.size → (∀ q : Nat, q < H.size → ¬ AX q → H1[q]? = H[q]?) → va_S A0 H0 H1 locs1 → H1[q9]? = some ce → ce.vm = .none → s.vm.findClass E = some ce.cls → vx_W p l e R s m args below meth c H1 locs1 (cells + mc) (slots + ms) Q (F0 m pc ls rest) q9)
    (kk : ∀ (r : UInt32) (u : S) (t : State) (H1 : Heap) (locs1 : List Loc), t.heap = H1 → s.vm.Alike t.vm → post r u → B u t → H.size ≤ H1.size → (∀ q : Nat, q < H.size → ¬ A1 q → H1[q]? = H[q]?) → va_S A0 H0 H1 locs1 → W p l e R s m args below meth c H1 locs1 (cells + mc) (slots + ms) Q (F0 m (pc + 3) ls (.float r :: rest))) : W p l e R s m args below meth c H locs cells slots Q (F0 m pc ls st0) := by
  intro T hT X
  rcases hr T hT X with ⟨v, st₀, t, T', L, h0, X', hL, e1, e2, ⟨⟨r, u, hv, hp, hb⟩, hF⟩, st⟩ | ⟨q, st₀, t, T', L, E, ce, h0, X', hL, e1, e2, ⟨u, hp, hb, hF⟩, hce, hcv, hcl, st⟩
  · cases hv
    obtain ⟨k1, k2, k3⟩ := vx_keep h0 e1 hS hA hf hL hF
    obtain ⟨t2, a1, b1⟩ := kk r u t T'.heap (locs ++ L) e1.symm (by rw [← e2]; exact X'.warmed.alike) hp hb k1 k2 k3 T' rfl X'
    exact ⟨t2, st t2 a1, b1⟩
  · obtain ⟨k1, k2, k3⟩ := vx_keep h0 e1 hS hAX hf hL hF
    obtain ⟨t2, a1, b1⟩ := kx E ce q u t T'.heap (locs ++ L) e1.symm (by rw [← e2]; exact X'.warmed.alike) hp hb k1 k2 k3 (by rw [e1]; exact hce) hcv hcl T' rfl X'
    exact ⟨t2, st.trans a1, b1⟩
theorem vx_calld {S SX : Type} {post : UInt64 → S → Prop} {px : SX → Prop} {B : S → State → Prop} {BX : String → SX → State → Prop} {AX : Nat → Prop} (hr : vx_Run p l e R s m args below meth c H locs cells slots mc ms (F0 m pc ls st0) rest (va_Qd post B A1 a) (vx_X px BX AX) free) (hS : va_S A0 H0 H locs) (hA : ∀ q, q < H.size → A1 q → A0 q) (hf : ∀ q, free q → A0 q) (hAX : ∀ q, q < H.size → AX q → A0 q)
    (kx : ∀ (E : String) (ce : Cell) (q9 : Addr) (u : SX) (t : State) (H1 : Heap) (locs1 : List Loc), t.heap = H1 → s.vm.Alike t.vm → px u → BX E u t → H.size ≤ H1.size → (∀ q : Nat, q < H.size → ¬ AX q → H1[q]? = H[q]?) → va_S A0 H0 H1 locs1 → H1[q9]? = some ce → ce.vm = .none → s.vm.findClass E = some ce.cls → vx_W p l e R s m args below meth c H1 locs1 (cells + mc) (slots + ms) Q (F0 m pc ls rest) q9)
    (kk : ∀ (r : UInt64) (u : S) (t : State) (H1 : Heap) (locs1 : List Loc), t.heap = H1 → s.vm.Alike t.vm → post r u → B u t → H.size ≤ H1.size → (∀ q : Nat, q < H.size → ¬ A1 q → H1[q]? = H[q]?) → va_S A0 H0 H1 locs1 → W p l e R s m args below meth c H1 locs1 (cells + mc) (slots + ms) Q (F0 m (pc + 3) ls (.double r :: rest))) : W p l e R s m args below meth c H locs cells slots Q (F0 m pc ls st0) := by
  intro T hT X
  rcases hr T hT X with ⟨v, st₀, t, T', L, h0, X', hL, e1, e2, ⟨⟨r, u, hv, hp, hb⟩, hF⟩, st⟩ | ⟨q, st₀, t, T', L, E, ce, h0, X', hL, e1, e2, ⟨u, hp, hb, hF⟩, hce, hcv, hcl, st⟩
  · cases hv
    obtain ⟨k1, k2, k3⟩ := vx_keep h0 e1 hS hA hf hL hF
    obtain ⟨t2, a1, b1⟩ := kk r u t T'.heap (locs ++ L) e1.symm (by rw [← e2]; exact X'.warmed.alike) hp hb k1 k2 k3 T' rfl X'
    exact ⟨t2, st t2 a1, b1⟩
  · obtain ⟨k1, k2, k3⟩ := vx_keep h0 e1 hS hAX hf hL hF
    obtain ⟨t2, a1, b1⟩ := kx E ce q u t T'.heap (locs ++ L) e1.symm (by rw [← e2]; exact X'.warmed.alike) hp hb k1 k2 k3 (by rw [e1]; exact hce) hcv hcl T' rfl X'
    exact ⟨t2, st.trans a1, b1⟩
theorem vx_callv {S SX : Type} {post : S → Prop} {px : SX → Prop} {B : S → State → Prop} {BX : String → SX → State → Prop} {AX : Nat → Prop} (hr : vx_Run p l e R s m args below meth c H locs cells slots mc ms (F0 m pc ls st0) rest (va_Qv post B A1 a) (vx_X px BX AX) free) (hS : va_S A0 H0 H locs) (hA : ∀ q, q < H.size → A1 q → A0 q) (hf : ∀ q, free q → A0 q) (hAX : ∀ q, q < H.size → AX q → A0 q)
    (kx : ∀ (E : String) (ce : Cell) (q9 : Addr) (u : SX) (t : State) (H1 : Heap) (locs1 : List Loc), t.heap = H1 → s.vm.Alike t.vm → px u → BX E u t → H.size ≤ H1.size → (∀ q : Nat, q < H.size → ¬ AX q → H1[q]? = H[q]?) → va_S A0 H0 H1 locs1 → H1[q9]? = some ce → ce.vm = .none → s.vm.findClass E = some ce.cls → vx_W p l e R s m args below meth c H1 locs1 (cells + mc) (slots + ms) Q (F0 m pc ls rest) q9)
    (kk : ∀ (u : S) (t : State) (H1 : Heap) (locs1 : List Loc), t.heap = H1 → s.vm.Alike t.vm → post u → B u t → H.size ≤ H1.size → (∀ q : Nat, q < H.size → ¬ A1 q → H1[q]? = H[q]?) → va_S A0 H0 H1 locs1 → W p l e R s m args below meth c H1 locs1 (cells + mc) (slots + ms) Q (F0 m (pc + 3) ls (rest))) : W p l e R s m args below meth c H locs cells slots Q (F0 m pc ls st0) := by
  intro T hT X
  rcases hr T hT X with ⟨v, st₀, t, T', L, h0, X', hL, e1, e2, ⟨⟨u, hv, hp, hb⟩, hF⟩, st⟩ | ⟨q, st₀, t, T', L, E, ce, h0, X', hL, e1, e2, ⟨u, hp, hb, hF⟩, hce, hcv, hcl, st⟩
  · cases hv
    obtain ⟨k1, k2, k3⟩ := vx_keep h0 e1 hS hA hf hL hF
    obtain ⟨t2, a1, b1⟩ := kk u t T'.heap (locs ++ L) e1.symm (by rw [← e2]; exact X'.warmed.alike) hp hb k1 k2 k3 T' rfl X'
    exact ⟨t2, st t2 a1, b1⟩
  · obtain ⟨k1, k2, k3⟩ := vx_keep h0 e1 hS hAX hf hL hF
    obtain ⟨t2, a1, b1⟩ := kx E ce q u t T'.heap (locs ++ L) e1.symm (by rw [← e2]; exact X'.warmed.alike) hp hb k1 k2 k3 (by rw [e1]; exact hce) hcv hcl T' rfl X'
    exact ⟨t2, st.trans a1, b1⟩
/-- caught by the row x of this method's table; the rows ahead don't take it -/
theorem vx_catch {own name : String} {E : String} {ce : Cell} {q : Addr} (hown : s.vm.findClass own = some m.cls) (pre : List ExceptionTableEntry) (x : ExceptionTableEntry) (suf : List ExceptionTableEntry) (hsplit : c.exceptionTable.toList = pre ++ x :: suf)
    (hpass : ∀ z ∈ pre, covers z pc = false ∨ (z.catchType ≠ 0 ∧ ∃ nm : String, (Cond.classLink own z.catchType nm).before args s = true ∧ va_Nc E nm s)) (hx : covers x pc = true) (h0 : x.catchType ≠ 0)
    (hlink : (Cond.classLink own x.catchType name).before args s = true) (hcast : (Cond.castable E name).before args s = true) (hcell : H[q]? = some ce) (hv : ce.vm = .none) (hcl : s.vm.findClass E = some ce.cls)
    (kk : W p l e R s m args below meth c H locs cells slots Q (F0 m x.handlerPc ls [.ref q])) : vx_W p l e R s m args below meth c H locs cells slots Q (F0 m pc ls rest) q := by
  intro T hT X
  have hpl : e.platform.magicAccessors = ({} : Platform).magicAccessors := by rw [X.admits.platform]
  obtain ⟨c3, c4, hc3, hc4, hasg⟩ := Cond.castable_spec hcast
  cases Option.some.inj (hc3.symm.trans hcl)
  obtain ⟨c5, hc5, hcl5⟩ := Cond.classLink_spec hown hlink e.platform hpl
  cases Option.some.inj (hc4.symm.trans hc5)
  obtain ⟨vm', X', st⟩ := X.thenCaughtThrough q (g := F0 m pc ls rest) rfl (Steps.refl _) (by rw [hT]; exact hcell) (by rw [hv]; rfl) (by obtain ⟨k9, h9, -⟩ := Vm.findClass_spec hcl; exact ⟨k9, h9⟩) pre x suf hsplit
    (fun z hz => by
      rcases hpass z hz with h | ⟨hz0, nm, hl1, hn1⟩
      · exact Or.inl h
      · obtain ⟨c6, hc6, hcl6⟩ := Cond.classLink_spec hown hl1 e.platform hpl
        obtain ⟨a8, b8, h1, h2, h3⟩ := hn1
        cases Option.some.inj (h1.symm.trans hcl)
        cases Option.some.inj (h2.symm.trans hc6)
        exact Or.inr ⟨hz0, _, hcl6, h3⟩) hx (Or.inr ⟨h0, c4, hcl5, hasg⟩)
  obtain ⟨t, a1, b1⟩ := kk (T.setVm vm') hT X'
  exact ⟨t, st.trans a1, b1⟩
end Rows
section Ends
variable {p : Program} {l : Launch} {e : Env} {R : Room} {s : State} {m : MethodId} {args : Array Value} {below : List Frame} {meth : Method} {c : Code} {H : Heap} {locs : List Loc} {cells slots : Nat} {Q : State → Prop}
variable {mc ms : Nat} {free : Addr → Prop} {A0 A1 : Nat → Prop} {H0 : Heap} {a : Array Value} {ls : Array Slot} {st0 rest : List Value}
variable {Qc : Array Value → State → Outcome → State → Prop} {XC : String → State → State → Prop}
/-- what a body that may throw owes at its end -/
def vx_MQ (below : List Frame) (Qc : Array Value → State → Outcome → State → Prop) (XC : String → State → State → Prop) (a : Array Value) (s : State) (mc ms : Nat) (free : Addr → Prop) : State → Prop := fun t =>
  ∃ o, t.status = .running ∧ Ended t below o ∧ vx_Q Qc XC mc ms free a s o t
theorem vx_ret {g : JFrame} {mc ms : Nat} (k : W p l e R s m args below meth c H locs cells slots (MQ below Qc args s mc ms free) g) : W p l e R s m args below meth c H locs cells slots (vx_MQ below Qc XC args s mc ms free) g := by
  intro T hT X
  obtain ⟨t, a1, o, b1, b2, b3, b4⟩ := k T hT X
  exact ⟨t, a1, o, b1, b2, Or.inl ⟨b3, b4⟩⟩
/-- not caught here: it goes on to the caller -/
theorem vx_widen {g : JFrame} {q : Addr} {k n : Nat} (h1 : cells ≤ k) (h2 : slots ≤ n) (kk : vx_W p l e R s m args below meth c H locs k n Q g q) : vx_W p l e R s m args below meth c H locs cells slots Q g q := fun T hT X => kk T hT (stand_widen X h1 h2)
theorem vx_out {pc : Nat} {E : String} {ce : Cell} {q : Addr} {mc ms : Nat} (hout : ∀ x ∈ c.exceptionTable.toList, covers x pc = false) (hlocks : meth.locks = false) (hcell : H[q]? = some ce) (hv : ce.vm = .none) (hcl : s.vm.findClass E = some ce.cls)
    (hx : ∀ t : State, t.heap = H → s.vm.Alike t.vm → XC E s t) (hf : ∀ z ∈ locs, free z.base) (hc : cells ≤ mc) (hs : slots ≤ ms) :
    vx_W p l e R s m args below meth c H locs cells slots (vx_MQ below Qc XC args s mc ms free) (F0 m pc ls rest) q := by
  intro T hT X
  obtain ⟨st1, hrun, hend, hW, hsm⟩ := X.leaveThrown q (g := F0 m pc ls rest) rfl rfl rfl hout hlocks
  have hcell9 : (T.setFrames (.throwing q :: below)).heap[q]? = some ce := by
    show T.heap[q]? = some ce
    rw [hT]; exact hcell
  exact ⟨_, st1, .threw q, hrun, hend, Or.inr ⟨q, rfl, E, ce, locs, hx _ hT hW.alike, hcell9, hv, hcl, hW, hsm.mono hc hs, hf⟩⟩
theorem vx_frame {U : State} {k n : Nat} (h : s.sameButNew ({ U with vm := s.vm } : State) locs k n) : s.heap.size ≤ U.heap.size ∧ ∀ q : Nat, q < s.heap.size → (∀ z ∈ locs, z.base ≠ q) → U.heap[q]? = s.heap[q]? := by
  obtain ⟨-, h2, -, -, -, h6⟩ := h
  refine ⟨h2, fun q hq hz => ?_⟩
  obtain ⟨c9, e1, e2, e3, e4⟩ := h6 q _ (Array.getElem?_eq_getElem hq)
  have hs : c9.slots = (s.heap[q]).slots := Array.ext_getElem? fun i => e4 i fun hm => hz _ hm rfl
  have h9 : c9 = s.heap[q] := by
    rw [hs] at e2
    exact e2
  have e5 : U.heap[q]? = some c9 := e1
  rw [e5, h9, Array.getElem?_eq_getElem hq]
/-- the words of a throw but the four that speak of the heap -/
def vx_no (w : Cond) : Bool := decide (w ≠ .isRef (.static Bundle.tN "UNASSIGNED_STACK" Bundle.steD)) && decide (w ≠ .isRef (.static Bundle.tN "SUPPRESSED_SENTINEL" Bundle.listD)) && decide (w ≠ .laysStatic Bundle.tN "UNASSIGNED_STACK" Bundle.steD) && decide (w ≠ .laysStatic Bundle.tN "SUPPRESSED_SENTINEL" Bundle.listD)
def vx_at0 (own : String) (ic : Nat) (X : String) (names : List String) : List Cond := (Bundle.ownAtoms0 own ic X names).filter vx_no
def vx_atS (own : String) (ic : Nat) (X : String) (names : List String) : List Cond := (Bundle.ownAtoms own ic X names).filter vx_no
/-- a word that the tables alone decide, or a good one -/
def vx_ot (w : Cond) : Bool := w.onTables || goodWord w
theorem vx_ot_at {args a' : Array Value} {s U : State} {w : Cond} (hW : s.WarmedH U.vm) (hvm : s.vm = U.vm) (hg : vx_ot w = true) (h : w.before args s = true) : w.before a' U = true := by
  simp only [vx_ot, Bool.or_eq_true] at hg
  rcases hg with hg | hg
  · exact va_tabs hg hvm h
  · exact word_at hW (good_of_word hg) h
/-- a list's words: the good ones out of the method's own list, the others by premises of their own -/
theorem vx_hat {args : Array Value} {s : State} {L B : List Cond} (h1 : ∀ w ∈ L.filter goodWord, w.before args s = true) (h2 : ∀ w ∈ L.filter (fun w => !goodWord w), w ∈ B) (h3 : ∀ w ∈ B, w.before args s = true) : ∀ w ∈ L, w.before args s = true := by
  intro w hw
  by_cases g : goodWord w = true
  · exact h1 w (List.mem_filter.mpr ⟨hw, g⟩)
  · refine h3 w (h2 w (List.mem_filter.mpr ⟨hw, ?_⟩))
    show (!goodWord w) = true
    cases hgw : goodWord w
    · rfl
    · exact absurd hgw g
theorem vx_c {args : Array Value} {s : State} {w : Cond} {B : List Cond} (h : w.before args s = true) (t : ∀ w ∈ B, w.before args s = true) : ∀ w' ∈ w :: B, w'.before args s = true := fun w' h' => (List.mem_cons.mp h').elim (fun e => by rw [e]; exact h) (t w')
theorem vx_n {args : Array Value} {s : State} : ∀ w ∈ ([] : List Cond), w.before args s = true := fun _ h => nomatch h
theorem vx_own {args : Array Value} {s : State} {L : List Cond} (h1 : ∀ w ∈ L.filter vx_no, w.before args s = true)
    (hU : (Cond.isRef (.static Bundle.tN "UNASSIGNED_STACK" Bundle.steD)).before args s = true) (hN : (Cond.isRef (.static Bundle.tN "SUPPRESSED_SENTINEL" Bundle.listD)).before args s = true)
    (lU : (Cond.laysStatic Bundle.tN "UNASSIGNED_STACK" Bundle.steD).before args s = true) (lN : (Cond.laysStatic Bundle.tN "SUPPRESSED_SENTINEL" Bundle.listD).before args s = true) : ∀ w ∈ L, w.before args s = true := by
  intro w hw
  by_cases e1 : w = .isRef (.static Bundle.tN "UNASSIGNED_STACK" Bundle.steD)
  · rw [e1]; exact hU
  · by_cases e2 : w = .isRef (.static Bundle.tN "SUPPRESSED_SENTINEL" Bundle.listD)
    · rw [e2]; exact hN
    · by_cases e3 : w = .laysStatic Bundle.tN "UNASSIGNED_STACK" Bundle.steD
      · rw [e3]; exact lU
      · by_cases e4 : w = .laysStatic Bundle.tN "SUPPRESSED_SENTINEL" Bundle.listD
        · rw [e4]; exact lN
        · exact h1 w (List.mem_filter.mpr ⟨hw, by unfold vx_no; rw [decide_eq_true e1, decide_eq_true e2, decide_eq_true e3, decide_eq_true e4]; rfl⟩)
/-- where a static field lies, its class's statics cell in H -/
def vx_L (C n d : String) (A : Nat → Prop) (U : State) (H : Heap) : Prop := ∃ (c : ClassId) (k : Class) (i : Nat) (f : Field) (a : Nat) (cell : Cell), U.vm.findClass C = some c ∧ U.fieldFound? C n d = some (c, k, i, f) ∧ f.isStatic = true ∧ k.statics = some a ∧ H[a]? = some cell ∧ cell.vm.isStatics = true ∧ cell.cls = c ∧ f.slot < cell.slots.size ∧ k.staticTypes[f.slot]? = some f.type ∧ ¬ A a
theorem vx_L.moved {C n d : String} {A : Nat → Prop} {u U : State} {H : Heap} (hvm : u.vm.Alike U.vm) (h : vx_L C n d A u H) : vx_L C n d A U H := by
  obtain ⟨c, k, i, f, a, cell, h1, h2, h3, h4, h5, h6, h7, h8, h9, h10⟩ := h
  obtain ⟨k', hi', he⟩ := State.fieldFound?_setVm hvm h2
  exact ⟨c, k', i, f, a, cell, by rw [hvm.findClass]; exact h1, hi', h3, by rw [he]; exact h4, h5, h6, h7, h8, by rw [he]; exact h9, h10⟩
theorem vx_L.kept {C n d : String} {A : Nat → Prop} {U : State} {H H1 : Heap} (h : vx_L C n d A U H) (hq : ∀ a : Nat, a < H.size → ¬ A a → H1[a]? = H[a]?) : vx_L C n d A U H1 := by
  obtain ⟨c, k, i, f, a, cell, h1, h2, h3, h4, h5, h6, h7, h8, h9, h10⟩ := h
  exact ⟨c, k, i, f, a, cell, h1, h2, h3, h4, by rw [hq a (Array.getElem?_eq_some_iff.mp h5).1 h10]; exact h5, h6, h7, h8, h9, h10⟩
theorem vx_L.narrow {C n d : String} {A B : Nat → Prop} {U : State} {H : Heap} (h : vx_L C n d A U H) (hAB : ∀ q, B q → A q) : vx_L C n d B U H := by
  obtain ⟨c, k, i, f, a, cell, h1, h2, h3, h4, h5, h6, h7, h8, h9, h10⟩ := h
  exact ⟨c, k, i, f, a, cell, h1, h2, h3, h4, h5, h6, h7, h8, h9, fun z => h10 (hAB _ z)⟩
theorem vx_L.word {C n d : String} {A : Nat → Prop} {s : State} {args : Array Value} (h : vx_L C n d A s s.heap) : (Cond.laysStatic C n d).before args s = true := by
  obtain ⟨c, k, i, f, a, cell, h1, h2, h3, h4, h5, h6, h7, h8, h9, -⟩ := h
  show (Cond.laysStatic C n d).holds args s none s [] = true
  exact Cond.laysStatic_of h1 h2 h3 h4 h5 h6 h7 h8 h9
/-- .. and what it holds: null or some reference -/
def vx_Zq (C n d : String) (A : Nat → Prop) (U : State) (H : Heap) : Prop := va_Zq C n d A U H ∧ vx_L C n d A U H
theorem vx_Zq.moved {C n d : String} {A : Nat → Prop} {u U : State} {H : Heap} (hvm : u.vm.Alike U.vm) (h : vx_Zq C n d A u H) : vx_Zq C n d A U H := ⟨va_Zq.moved hvm h.1, vx_L.moved hvm h.2⟩
theorem vx_Zq.kept {C n d : String} {A : Nat → Prop} {U : State} {H H1 : Heap} (h : vx_Zq C n d A U H) (hq : ∀ a : Nat, a < H.size → ¬ A a → H1[a]? = H[a]?) : vx_Zq C n d A U H1 := ⟨va_Zq.kept h.1 hq, vx_L.kept h.2 hq⟩
theorem vx_Zq.narrow {C n d : String} {A B : Nat → Prop} {U : State} {H : Heap} (h : vx_Zq C n d A U H) (hAB : ∀ q, B q → A q) : vx_Zq C n d B U H := ⟨va_Zq.narrow h.1 hAB, vx_L.narrow h.2 hAB⟩
theorem vx_Zqof {args : Array Value} {s : State} {C n d : String} {A : Nat → Prop} (hl : (Cond.laysStatic C n d).before args s = true) (hini : (Cond.initialized C).before args s = true) (h : (Cond.isRef (.static C n d)).before args s = true) (hA : ∀ a : Nat, a < s.heap.size → ¬ A a) : vx_Zq C n d A s s.heap := by
  refine ⟨va_Zqof hl hini h hA, ?_⟩
  obtain ⟨c, k, i, f, a, cell, h1, h2, h3, h4, h5, h6, h7, h8, h9⟩ := Cond.laysStatic_spec hl
  exact ⟨c, k, i, f, a, cell, h1, h2, h3, h4, h5, h6, h7, h8, h9, hA a (Array.getElem?_eq_some_iff.mp h5).1⟩
theorem vx_isRef {C n d : String} {v : Value} {A : Nat → Prop} {s : State} {args : Array Value} (h : va_Z C n d v A s s.heap) (hv : v.isRef = true) : (Cond.isRef (.static C n d)).before args s = true := by
  obtain ⟨cf, kf, fi, f, a, cell, h1, h2, h3, h4, h5, h6, h7, -⟩ := h
  have he : (Term.static C n d).eval args s none [] s = some v := by
    simp [Term.eval, State.fieldNamed?, h1, h2, h4, h5, h6, h7]
  simp only [Cond.before, Cond.holds, Cond.value, he]
  cases v <;> simp_all [Value.isRef]
theorem vx_isRefq {C n d : String} {A : Nat → Prop} {s : State} {args : Array Value} (h : va_Zq C n d A s s.heap) : (Cond.isRef (.static C n d)).before args s = true := by
  rcases h with h | ⟨t, h⟩
  · exact vx_isRef h rfl
  · exact vx_isRef h rfl
/-- the same frame, seen from here: as if the method were called anew in this heap -/
theorem vx_rebase {T : State} (X : Stand p l e R s m args below meth c T locs cells slots) {R' : Room} (hf : R'.frames ≤ R.frames) (hl : R'.locals ≤ R.locals) (hc : cells + R'.cells ≤ R.cells) (hs : slots + R'.slots ≤ R.slots) :
    Stand p l e R' ((T.setVm s.vm).setFrames (.invoking m args :: below)) m args below meth c T [] 0 0 := by
  have htop : (T.setVm s.vm).topJava?.isSome := X.here.top
  have hF : ((T.setVm s.vm).setFrames (.invoking m args :: below)).frames = .invoking m args :: below := State.frames_setFrames _ (State.cur_lt_of_top htop)
  obtain ⟨g₀, hg0⟩ := Option.isSome_iff_exists.mp htop
  obtain ⟨r, hr⟩ := State.topJava?_eq_some.mp hg0
  have hl9 : e.platform.stackLimits (T.setVm s.vm).me = e.platform.stackLimits s.me := X.limits
  have hb9 : (T.setVm s.vm).me.stackBytes = s.me.stackBytes := X.bytes
  refine ⟨X.admits, X.cas, X.clock, hF, ?_, X.hears, X.method, X.code, X.here, X.tail, X.warmed, ?_, ?_, ?_⟩
  · have h := X.room
    have hU : ((T.setVm s.vm).setFrames (.invoking m args :: below)).localsInUse = s.localsInUse := by
      rw [State.localsInUse_invoking hF (meth := meth) (c := c) X.method X.code, State.localsInUse_invoking X.frames X.method X.code]
    simp only [State.hasRoom, Bool.and_eq_true, decide_eq_true_eq] at h ⊢
    obtain ⟨⟨⟨⟨h1, h2, h3, h4, h5, h6⟩, h7⟩, h8⟩, h9⟩ := h
    rw [X.frames, List.length_cons] at h2 h3
    have q1 := X.heapSize
    have q2 := X.used
    simp only [hF, hU, List.length_cons, State.stackLimits_setFrames, State.stackBytes_setFrames, hl9, hb9]
    refine ⟨⟨⟨⟨by omega, by omega, by omega, by omega, by omega, h6⟩, ?_⟩, ?_⟩, X.book⟩
    · show T.heap.size + R'.cells ≤ e.platform.maxCells
      omega
    · show T.slotsUsed + R'.slots ≤ e.platform.maxSlots
      omega
  · rw [State.stackLimits_setFrames]; rfl
  · rw [State.stackBytes_setFrames]; rfl
  · refine ⟨?_, Nat.le_refl _, Nat.le_refl _, ?_, ?_, fun a c9 h9 => ⟨c9, h9, rfl, rfl, fun _ _ => rfl⟩⟩
    · obtain ⟨t, ht, -⟩ := State.frames_cons hr
      show T.setVm s.vm = { ((T.setVm s.vm).setFrames (.invoking m args :: below)).setFrames (T.setVm s.vm).frames with heap := T.heap, slotsUsed := T.slotsUsed }
      rw [State.setFrames_setFrames, State.setFrames_self ht]
      rfl
    · show T.slotsUsed = T.slotsUsed + ((T.heap.toList.drop T.heap.size).map (·.slots.size)).sum
      rw [List.drop_eq_nil_of_le (Nat.le_of_eq Array.length_toList)]
      rfl
    · show ((T.heap.toList.drop T.heap.size).map (·.slots.size)).sum ≤ 0
      rw [List.drop_eq_nil_of_le (Nat.le_of_eq Array.length_toList)]
      exact Nat.le_refl _
/-- 'throw new E()': new; dup; invokespecial; athrow -/
theorem vx_throw0 {cc : ByteArray} {pc : Nat} (hexec : p.tables.exec = Jvm.exec) (hb : c.code = cc) (hl : l.stackTraces = false) {own cls : String} {names : List String} {ik ic mc ms : Nat} {A : Nat → Prop}
    (hown : s.vm.findClass own = some m.cls) (hcls : Bundle.fit cls = true) (hnames : ∀ n ∈ names, Bundle.fit n = true)
    (hk : (Cond.classLink own ik cls).before args s = true) (hini : (Cond.initialized cls).before args s = true) (hat : ∀ w ∈ vx_at0 own ic cls names, w.before args s = true)
    (hgood : ∀ w ∈ Cond.classLink own ik cls :: Cond.initialized cls :: vx_at0 own ic cls names, vx_ot w = true)
    (hU : vx_Zq Bundle.tN "UNASSIGNED_STACK" Bundle.steD A s s.heap) (hN : vx_Zq Bundle.tN "SUPPRESSED_SENTINEL" Bundle.listD A s s.heap) (hS : va_S A s.heap H locs) (hsize : ls.size = c.maxLocals)
    (d0 : decode cc pc = .ok (.new ik, 3)) (d3 : decode cc (pc + 3) = .ok (.dup, 1)) (d4 : decode cc (pc + 4) = .ok (.invokespecial ic, 3)) (d7 : decode cc (pc + 7) = .ok (.athrow, 1))
    (hout : ∀ x ∈ c.exceptionTable.toList, covers x (pc + 7) = false)
    (hRframes : names.length + 3 < R.frames) (hRlocals : (rest.map fun v => v.category).sum + (13 * (names.length + 1) + 42) ≤ R.locals) (hRcells : cells + 1 ≤ R.cells) (hRslots : slots + 6 ≤ R.slots) (hlocks : meth.locks = false)
    (hx : ∀ t : State, s.vm.Alike t.vm → H.size ≤ t.heap.size → (∀ q : Nat, q < H.size → t.heap[q]? = H[q]?) → XC cls s t)
    (hf : ∀ z ∈ locs, free z.base) (hc : cells + 1 ≤ mc) (hs : slots + 6 ≤ ms) :
    W p l e R s m args below meth c H locs cells slots (vx_MQ below Qc XC args s mc ms free) (F0 m pc ls rest) := by
  intro T hT X
  have htr : e.platform.stackTraces = false := (show e.platform.stackTraces = l.stackTraces by rw [X.admits.platform]).trans hl
  have Y := vx_rebase X (R' := { frames := R.frames, locals := R.locals, cells := 1, slots := 6 }) (Nat.le_refl _) (Nat.le_refl _) hRcells hRslots
  obtain ⟨s', hA⟩ : ∃ z, z = (T.setVm s.vm).setFrames (.invoking m args :: below) := ⟨_, rfl⟩
  rw [← hA] at Y
  have hvm : s'.vm = s.vm := by rw [hA]; rfl
  have hhp : s'.heap = H := by rw [hA]; exact hT
  have hW0 : s.WarmedH s'.vm := by rw [hvm]; exact State.WarmedH.refl s
  have hat' : ∀ w ∈ vx_at0 own ic cls names, w.before args s' = true := fun w hw => vx_ot_at hW0 hvm.symm (hgood w (List.mem_cons_of_mem _ (List.mem_cons_of_mem _ hw))) (hat w hw)
  have hk' : (Cond.classLink own ik cls).before args s' = true := vx_ot_at hW0 hvm.symm (hgood _ List.mem_cons_self) hk
  have hini' : (Cond.initialized cls).before args s' = true := vx_ot_at hW0 hvm.symm (hgood _ (List.mem_cons_of_mem _ List.mem_cons_self)) hini
  have hU' : vx_Zq Bundle.tN "UNASSIGNED_STACK" Bundle.steD A s' s'.heap := by rw [hhp]; exact vx_Zq.moved hW0.alike (hU.kept hS.2.1)
  have hN' : vx_Zq Bundle.tN "SUPPRESSED_SENTINEL" Bundle.listD A s' s'.heap := by rw [hhp]; exact vx_Zq.moved hW0.alike (hN.kept hS.2.1)
  have h : ∀ w ∈ Bundle.ownAtoms0 own ic cls names, w.before args s' = true := vx_own hat' (vx_isRefq hU'.1) (vx_isRefq hN'.1) hU'.2.word hN'.2.word
  have hown' : s'.vm.findClass own = some m.cls := by rw [hvm]; exact hown
  have hins : (Cond.instantiable cls 6).before args s' = true := h _ (by simp [Bundle.ownAtoms0])
  obtain ⟨vm₁, cX, kX, hfX, hkX, -, -, X₁, st1⟩ := Y.newCold hexec (own := own) (C := cls) (index := ik) (n := 6) hown' hk' hins hini'
    (g := F0 m pc ls rest) rfl (by rw [hb]; exact d0) (Nat.le_refl _) (Nat.le_refl _)
  generalize hT1 : (T.setVm vm₁).pushCell { cls := cX, slots := kX.instanceTypes.map defaultValue, vm := .none } = T1 at X₁ st1
  have hcat : (Value.ref T.heap.size).category = 1 := rfl
  have hcellA : T1.heap[T.heap.size]? = some (freshCell cX kX) := by rw [← hT1]; exact State.heap_pushCell_size _ _
  have d3' : decode c.code (pc + 3) = .ok (.dup, 1) := by rw [hb]; exact d3
  obtain ⟨U, hsteps, hrun, hend, hW, hsame, ce, hce, hO⟩ := X₁.ctorThrow0 hexec htr (own := own) (cls := cls) (names := names) (ic := ic) hown' hcls hnames h (fun x hx => nomatch hx) hfX hkX hcellA (by rw [hhp, hT]; exact Nat.le_refl _)
    (g := { method := m, pc := pc + 4, locals := ls, stack := .ref T.heap.size :: .ref T.heap.size :: rest, locked := none }) rfl hsize rfl rfl (rest := rest) rfl
    (by rw [hb]; exact d4) (by rw [hb]; exact d7) hout hRframes (by simp only [List.map_cons, List.sum_cons, hcat]; omega) hlocks
  obtain ⟨f1, f2⟩ := vx_frame hsame
  rw [hhp] at f1 f2
  have hWs : s.WarmedH U.vm := State.WarmedH.trans hW0 hW
  have hcl : s.vm.findClass cls = some ce.cls := by
    have h9 := hO.cls
    rw [hvm] at h9
    exact h9
  have hall : s.sameButNew ({ U with vm := s.vm } : State) locs mc ms := by
    subst hA
    obtain ⟨e1, e2⟩ := hsame
    rw [State.setFrames_setFrames] at e1
    have h2 : (T.setVm s.vm).sameButNew ({ U with vm := s.vm } : State) [] (0 + 1) (0 + 6) := ⟨e1, e2⟩
    have h3 := X.same.trans h2
    rw [List.append_nil] at h3
    exact h3.mono hc hs
  refine ⟨U, ?_, .threw T.heap.size, hrun, hend, Or.inr ⟨T.heap.size, rfl, cls, ce, locs, hx U hWs.alike f1 (fun q hq => f2 q hq (fun z hz => nomatch hz)), hce, hO.vm, hcl, hWs, hall, hf⟩⟩
  refine st1 _ ?_
  show Steps p.tables e below (T1.setTop { method := m, pc := pc + 3, locals := ls, stack := .ref T.heap.size :: rest, locked := none }) _
  jvm_step X₁.here [X₁.here.top, hexec, d3', Value.category]
  exact hsteps
/-- 'throw new E("text")': new; dup; ldc; invokespecial; athrow -/
theorem vx_throwS {cc : ByteArray} {pc : Nat} (hexec : p.tables.exec = Jvm.exec) (hb : c.code = cc) (hl : l.stackTraces = false) {own cls text : String} {names : List String} {ik is ic mc ms sa : Nat} {A : Nat → Prop}
    (hown : s.vm.findClass own = some m.cls) (hcls : Bundle.fit cls = true) (hnames : ∀ n ∈ names, Bundle.fit n = true)
    (hk : (Cond.classLink own ik cls).before args s = true) (hini : (Cond.initialized cls).before args s = true) (hstr : vk_R own is text sa s) (hat : ∀ w ∈ vx_atS own ic cls names, w.before args s = true)
    (hgood : ∀ w ∈ Cond.classLink own ik cls :: Cond.initialized cls :: vx_atS own ic cls names, vx_ot w = true)
    (hU : vx_Zq Bundle.tN "UNASSIGNED_STACK" Bundle.steD A s s.heap) (hN : vx_Zq Bundle.tN "SUPPRESSED_SENTINEL" Bundle.listD A s s.heap) (hS : va_S A s.heap H locs) (hsize : ls.size = c.maxLocals)
    (d0 : decode cc pc = .ok (.new ik, 3)) (d3 : decode cc (pc + 3) = .ok (.dup, 1)) (d4 : decode cc (pc + 4) = .ok (.ldc is, 2)) (d6 : decode cc (pc + 6) = .ok (.invokespecial ic, 3)) (d9 : decode cc (pc + 9) = .ok (.athrow, 1))
    (hout : ∀ x ∈ c.exceptionTable.toList, covers x (pc + 9) = false)
    (hRframes : names.length + 3 < R.frames) (hRlocals : (rest.map fun v => v.category).sum + (13 * (names.length + 1) + 43) ≤ R.locals) (hRcells : cells + 1 ≤ R.cells) (hRslots : slots + 6 ≤ R.slots) (hlocks : meth.locks = false)
    (hx : ∀ t : State, s.vm.Alike t.vm → H.size ≤ t.heap.size → (∀ q : Nat, q < H.size → t.heap[q]? = H[q]?) → XC cls s t)
    (hf : ∀ z ∈ locs, free z.base) (hc : cells + 1 ≤ mc) (hs : slots + 6 ≤ ms) :
    W p l e R s m args below meth c H locs cells slots (vx_MQ below Qc XC args s mc ms free) (F0 m pc ls rest) := by
  intro T hT X
  have htr : e.platform.stackTraces = false := (show e.platform.stackTraces = l.stackTraces by rw [X.admits.platform]).trans hl
  have Y := vx_rebase X (R' := { frames := R.frames, locals := R.locals, cells := 1, slots := 6 }) (Nat.le_refl _) (Nat.le_refl _) hRcells hRslots
  obtain ⟨s', hA⟩ : ∃ z, z = (T.setVm s.vm).setFrames (.invoking m args :: below) := ⟨_, rfl⟩
  rw [← hA] at Y
  have hvm : s'.vm = s.vm := by rw [hA]; rfl
  have hhp : s'.heap = H := by rw [hA]; exact hT
  have hW0 : s.WarmedH s'.vm := by rw [hvm]; exact State.WarmedH.refl s
  have hat' : ∀ w ∈ vx_atS own ic cls names, w.before args s' = true := fun w hw => vx_ot_at hW0 hvm.symm (hgood w (List.mem_cons_of_mem _ (List.mem_cons_of_mem _ hw))) (hat w hw)
  have hk' : (Cond.classLink own ik cls).before args s' = true := vx_ot_at hW0 hvm.symm (hgood _ List.mem_cons_self) hk
  have hini' : (Cond.initialized cls).before args s' = true := vx_ot_at hW0 hvm.symm (hgood _ (List.mem_cons_of_mem _ List.mem_cons_self)) hini
  have hU' : vx_Zq Bundle.tN "UNASSIGNED_STACK" Bundle.steD A s' s'.heap := by rw [hhp]; exact vx_Zq.moved hW0.alike (hU.kept hS.2.1)
  have hN' : vx_Zq Bundle.tN "SUPPRESSED_SENTINEL" Bundle.listD A s' s'.heap := by rw [hhp]; exact vx_Zq.moved hW0.alike (hN.kept hS.2.1)
  have h : ∀ w ∈ Bundle.ownAtoms own ic cls names, w.before args s' = true := vx_own hat' (vx_isRefq hU'.1) (vx_isRefq hN'.1) hU'.2.word hN'.2.word
  have hown' : s'.vm.findClass own = some m.cls := by rw [hvm]; exact hown
  have hins : (Cond.instantiable cls 6).before args s' = true := h _ (by simp [Bundle.ownAtoms])
  obtain ⟨vm₁, cX, kX, hfX, hkX, -, -, X₁, st1⟩ := Y.newCold hexec (own := own) (C := cls) (index := ik) (n := 6) hown' hk' hins hini'
    (g := F0 m pc ls rest) rfl (by rw [hb]; exact d0) (Nat.le_refl _) (Nat.le_refl _)
  generalize hT1 : (T.setVm vm₁).pushCell { cls := cX, slots := kX.instanceTypes.map defaultValue, vm := .none } = T1 at X₁ st1
  have hcat : (Value.ref T.heap.size).category = 1 := rfl
  have hcellA : T1.heap[T.heap.size]? = some (freshCell cX kX) := by rw [← hT1]; exact State.heap_pushCell_size _ _
  have d3' : decode c.code (pc + 3) = .ok (.dup, 1) := by rw [hb]; exact d3
  have d4' : decode c.code (pc + 4) = .ok (.ldc is, 2) := by rw [hb]; exact d4
  have hstr' : vk_R own is text sa s' := vk_R.warm hW0 hstr
  obtain ⟨U, hsteps, hrun, hend, hW, hsame, ce, hce, hO⟩ := X₁.ctorThrowS hexec htr (own := own) (cls := cls) (names := names) (ic := ic) hown' hcls hnames h (fun x hx => nomatch hx) hfX hkX hcellA (by rw [hhp, hT]; exact Nat.le_refl _) (msg := .ref sa) rfl
    (g := { method := m, pc := pc + 6, locals := ls, stack := .ref sa :: .ref T.heap.size :: .ref T.heap.size :: rest, locked := none }) rfl hsize rfl rfl (rest := rest) rfl
    (by rw [hb]; exact d6) (by rw [hb]; exact d9) hout hRframes (by simp only [List.map_cons, List.sum_cons, hcat]; omega) hlocks
  obtain ⟨f1, f2⟩ := vx_frame hsame
  rw [hhp] at f1 f2
  have hWs : s.WarmedH U.vm := State.WarmedH.trans hW0 hW
  have hcl : s.vm.findClass cls = some ce.cls := by
    have h9 := hO.cls
    rw [hvm] at h9
    exact h9
  have hall : s.sameButNew ({ U with vm := s.vm } : State) locs mc ms := by
    subst hA
    obtain ⟨e1, e2⟩ := hsame
    rw [State.setFrames_setFrames] at e1
    have h2 : (T.setVm s.vm).sameButNew ({ U with vm := s.vm } : State) [] (0 + 1) (0 + 6) := ⟨e1, e2⟩
    have h3 := X.same.trans h2
    rw [List.append_nil] at h3
    exact h3.mono hc hs
  refine ⟨U, ?_, .threw T.heap.size, hrun, hend, Or.inr ⟨T.heap.size, rfl, cls, ce, locs, hx U hWs.alike f1 (fun q hq => f2 q hq (fun z hz => nomatch hz)), hce, hO.vm, hcl, hWs, hall, hf⟩⟩
  refine st1 _ ?_
  show Steps p.tables e below (T1.setTop { method := m, pc := pc + 3, locals := ls, stack := .ref T.heap.size :: rest, locked := none }) _
  jvm_step X₁.here [X₁.here.top, hexec, d3', Value.category]
  exact X₁.ldcString hexec (own := own) (text := text) (index := is) (a := sa) hown' hstr'.1 hstr'.2
    (g := { method := m, pc := pc + 4, locals := ls, stack := .ref T.heap.size :: .ref T.heap.size :: rest, locked := none }) rfl d4' _ hsteps
/-- 'throw new E("text")', the text by a wide index -/
theorem vx_throwSW {cc : ByteArray} {pc : Nat} (hexec : p.tables.exec = Jvm.exec) (hb : c.code = cc) (hl : l.stackTraces = false) {own cls text : String} {names : List String} {ik is ic mc ms sa : Nat} {A : Nat → Prop}
    (hown : s.vm.findClass own = some m.cls) (hcls : Bundle.fit cls = true) (hnames : ∀ n ∈ names, Bundle.fit n = true)
    (hk : (Cond.classLink own ik cls).before args s = true) (hini : (Cond.initialized cls).before args s = true) (hstr : vk_R own is text sa s) (hat : ∀ w ∈ vx_atS own ic cls names, w.before args s = true)
    (hgood : ∀ w ∈ Cond.classLink own ik cls :: Cond.initialized cls :: vx_atS own ic cls names, vx_ot w = true)
    (hU : vx_Zq Bundle.tN "UNASSIGNED_STACK" Bundle.steD A s s.heap) (hN : vx_Zq Bundle.tN "SUPPRESSED_SENTINEL" Bundle.listD A s s.heap) (hS : va_S A s.heap H locs) (hsize : ls.size = c.maxLocals)
    (d0 : decode cc pc = .ok (.new ik, 3)) (d3 : decode cc (pc + 3) = .ok (.dup, 1)) (d4 : decode cc (pc + 4) = .ok (.ldc_w is, 3)) (d7 : decode cc (pc + 7) = .ok (.invokespecial ic, 3)) (d10 : decode cc (pc + 10) = .ok (.athrow, 1))
    (hout : ∀ x ∈ c.exceptionTable.toList, covers x (pc + 10) = false)
    (hRframes : names.length + 3 < R.frames) (hRlocals : (rest.map fun v => v.category).sum + (13 * (names.length + 1) + 43) ≤ R.locals) (hRcells : cells + 1 ≤ R.cells) (hRslots : slots + 6 ≤ R.slots) (hlocks : meth.locks = false)
    (hx : ∀ t : State, s.vm.Alike t.vm → H.size ≤ t.heap.size → (∀ q : Nat, q < H.size → t.heap[q]? = H[q]?) → XC cls s t)
    (hf : ∀ z ∈ locs, free z.base) (hc : cells + 1 ≤ mc) (hs : slots + 6 ≤ ms) :
    W p l e R s m args below meth c H locs cells slots (vx_MQ below Qc XC args s mc ms free) (F0 m pc ls rest) := by
  intro T hT X
  have htr : e.platform.stackTraces = false := (show e.platform.stackTraces = l.stackTraces by rw [X.admits.platform]).trans hl
  have Y := vx_rebase X (R' := { frames := R.frames, locals := R.locals, cells := 1, slots := 6 }) (Nat.le_refl _) (Nat.le_refl _) hRcells hRslots
  obtain ⟨s', hA⟩ : ∃ z, z = (T.setVm s.vm).setFrames (.invoking m args :: below) := ⟨_, rfl⟩
  rw [← hA] at Y
  have hvm : s'.vm = s.vm := by rw [hA]; rfl
  have hhp : s'.heap = H := by rw [hA]; exact hT
  have hW0 : s.WarmedH s'.vm := by rw [hvm]; exact State.WarmedH.refl s
  have hat' : ∀ w ∈ vx_atS own ic cls names, w.before args s' = true := fun w hw => vx_ot_at hW0 hvm.symm (hgood w (List.mem_cons_of_mem _ (List.mem_cons_of_mem _ hw))) (hat w hw)
  have hk' : (Cond.classLink own ik cls).before args s' = true := vx_ot_at hW0 hvm.symm (hgood _ List.mem_cons_self) hk
  have hini' : (Cond.initialized cls).before args s' = true := vx_ot_at hW0 hvm.symm (hgood _ (List.mem_cons_of_mem _ List.mem_cons_self)) hini
  have hU' : vx_Zq Bundle.tN "UNASSIGNED_STACK" Bundle.steD A s' s'.heap := by rw [hhp]; exact vx_Zq.moved hW0.alike (hU.kept hS.2.1)
  have hN' : vx_Zq Bundle.tN "SUPPRESSED_SENTINEL" Bundle.listD A s' s'.heap := by rw [hhp]; exact vx_Zq.moved hW0.alike (hN.kept hS.2.1)
  have h : ∀ w ∈ Bundle.ownAtoms own ic cls names, w.before args s' = true := vx_own hat' (vx_isRefq hU'.1) (vx_isRefq hN'.1) hU'.2.word hN'.2.word
  have hown' : s'.vm.findClass own = some m.cls := by rw [hvm]; exact hown
  have hins : (Cond.instantiable cls 6).before args s' = true := h _ (by simp [Bundle.ownAtoms])
  obtain ⟨vm₁, cX, kX, hfX, hkX, -, -, X₁, st1⟩ := Y.newCold hexec (own := own) (C := cls) (index := ik) (n := 6) hown' hk' hins hini'
    (g := F0 m pc ls rest) rfl (by rw [hb]; exact d0) (Nat.le_refl _) (Nat.le_refl _)
  generalize hT1 : (T.setVm vm₁).pushCell { cls := cX, slots := kX.instanceTypes.map defaultValue, vm := .none } = T1 at X₁ st1
  have hcat : (Value.ref T.heap.size).category = 1 := rfl
  have hcellA : T1.heap[T.heap.size]? = some (freshCell cX kX) := by rw [← hT1]; exact State.heap_pushCell_size _ _
  have d3' : decode c.code (pc + 3) = .ok (.dup, 1) := by rw [hb]; exact d3
  have d4' : decode c.code (pc + 4) = .ok (.ldc_w is, 3) := by rw [hb]; exact d4
  have hstr' : vk_R own is text sa s' := vk_R.warm hW0 hstr
  obtain ⟨U, hsteps, hrun, hend, hW, hsame, ce, hce, hO⟩ := X₁.ctorThrowS hexec htr (own := own) (cls := cls) (names := names) (ic := ic) hown' hcls hnames h (fun x hx => nomatch hx) hfX hkX hcellA (by rw [hhp, hT]; exact Nat.le_refl _) (msg := .ref sa) rfl
    (g := { method := m, pc := pc + 7, locals := ls, stack := .ref sa :: .ref T.heap.size :: .ref T.heap.size :: rest, locked := none }) rfl hsize rfl rfl (rest := rest) rfl
    (by rw [hb]; exact d7) (by rw [hb]; exact d10) hout hRframes (by simp only [List.map_cons, List.sum_cons, hcat]; omega) hlocks
  obtain ⟨f1, f2⟩ := vx_frame hsame
  rw [hhp] at f1 f2
  have hWs : s.WarmedH U.vm := State.WarmedH.trans hW0 hW
  have hcl : s.vm.findClass cls = some ce.cls := by
    have h9 := hO.cls
    rw [hvm] at h9
    exact h9
  have hall : s.sameButNew ({ U with vm := s.vm } : State) locs mc ms := by
    subst hA
    obtain ⟨e1, e2⟩ := hsame
    rw [State.setFrames_setFrames] at e1
    have h2 : (T.setVm s.vm).sameButNew ({ U with vm := s.vm } : State) [] (0 + 1) (0 + 6) := ⟨e1, e2⟩
    have h3 := X.same.trans h2
    rw [List.append_nil] at h3
    exact h3.mono hc hs
  refine ⟨U, ?_, .threw T.heap.size, hrun, hend, Or.inr ⟨T.heap.size, rfl, cls, ce, locs, hx U hWs.alike f1 (fun q hq => f2 q hq (fun z hz => nomatch hz)), hce, hO.vm, hcl, hWs, hall, hf⟩⟩
  refine st1 _ ?_
  show Steps p.tables e below (T1.setTop { method := m, pc := pc + 3, locals := ls, stack := .ref T.heap.size :: rest, locked := none }) _
  jvm_step X₁.here [X₁.here.top, hexec, d3', Value.category]
  exact X₁.ldcStringW hexec (own := own) (text := text) (index := is) (a := sa) hown' hstr'.1 hstr'.2
    (g := { method := m, pc := pc + 4, locals := ls, stack := .ref T.heap.size :: .ref T.heap.size :: rest, locked := none }) rfl d4' _ hsteps
end Ends
section Bodies
variable {l : Launch}
theorem vx_ofW {y : MethodName} {ws ws' : List Cond} {rm : Room} {Pc : Array Value → State → Prop} {Qc : Array Value → State → Outcome → State → Prop} {XC : String → State → State → Prop} {mc ms : Nat} {free : Addr → Prop} {cc : ByteArray} {maxL : Nat} {ret : Option FieldType}
    (hy : plainName y.cls = true) (hw : ws = Cond.code y cc maxL ret :: ws')
    (body : ∀ p e s m args below meth c s₁, BodyLoose p l y (headSpec ws rm) cc maxL ret e s m args below meth c s₁ → c.maxLocals = maxL → (∀ x ∈ c.exceptionTable.toList, False) → Pc args s →
      W p l e (headSpec ws rm).room s m args below meth c s.heap [] 0 0 (vx_MQ below Qc XC args s mc ms free) (entryFrame m args maxL)) : vx_Met l y ws rm Pc Qc XC mc ms free := by
  refine MetFree.of_bodyS (code := cc) (maxLocals := maxL) (ret := ret) hy ?_ ?_
  · intro args s m h hn
    obtain ⟨meth, c, h1, h2, h3, h4, h5, h6, -, -⟩ := Cond.code_spec hn (atoms_spec (ws := ws) h _ (by rw [hw]; exact List.mem_cons_self))
    exact ⟨meth, c, h1, h2, h3, h4, h5, h6⟩
  · intro p e s m args below meth c s₁ B hml hP _
    have hh0 : s₁.heap = s.heap := by rw [B.state]; rfl
    have ht : ∀ x ∈ c.exceptionTable.toList, False := by
      obtain ⟨meth9, c9, h1, h2, -, -, -, -, h7, -⟩ := Cond.code_spec B.named (atoms_spec (ws := ws) B.pre _ (by rw [hw]; exact List.mem_cons_self))
      cases Option.some.inj (h1.symm.trans B.method)
      cases Option.some.inj (h2.symm.trans (Stand.of_body B).code)
      intro x hx
      rw [Array.isEmpty_iff.mp h7] at hx
      cases hx
    obtain ⟨t, a1, o, b1, b2, b3⟩ := body p e s m args below meth c s₁ B hml ht hP s₁ hh0 (Stand.of_body B)
    exact ⟨t, o, a1, b1, b2, b3⟩
/-- the table of a body with handlers -/
theorem vx_table {p : Program} {x y : MethodName} {S : Spec} {cc bytes : ByteArray} {maxL maxL' : Nat} {ret ret' : Option FieldType} {e : Env} {s s₁ : State} {m : MethodId} {args : Array Value} {below : List Frame} {meth : Method} {c : Code} {hh : List (Nat × Nat × Nat × Nat)}
    (B : BodyLoose p l y S cc maxL ret e s m args below meth c s₁) (h : (Cond.codeWith y bytes maxL' ret' hh).before args s = true) : c.exceptionTable.toList = tableOf hh := by
  obtain ⟨m9, meth9, c9, hn9, h1, h2, -, -, h6, -⟩ := Cond.codeWith_spec h
  cases Option.some.inj (hn9.symm.trans B.named)
  cases Option.some.inj (h1.symm.trans B.method)
  cases Option.some.inj (h2.symm.trans (Stand.of_body B).code)
  rw [← h6, table_eq]
end Bodies
end VXA
/-! ===== END ===== -/
/-! ===== BEGIN a static call of a method with an exception table ===== -/
section VXS
variable {p : Program} {l : Launch} {e : Env} {R : Room} {s : State} {m : MethodId} {args : Array Value} {below : List Frame} {meth : Method} {c : Code} {T : State} {H : Heap} {locs : List Loc} {cells slots : Nat}
abbrev vx_CSW (R : Room) (s : State) (args : Array Value) (own : String) (index : Nat) (y : MethodName) (bytes : ByteArray) (maxL : Nat) (ret : Option FieldType) (hh : List (Nat × Nat × Nat × Nat)) (ws : List Cond) (rm : Room) (mc ms n : Nat) : Prop :=
  (rm.cells = mc ∧ rm.slots = ms ∧ rm.frames + 1 ≤ R.frames ∧ 8 + (maxL + 11) + rm.locals ≤ R.locals ∧ (∀ w ∈ ws, ∀ (a' : Array Value) (U : State), s.WarmedH U.vm → w.before a' U = true) ∧ Cond.codeWith y bytes maxL ret hh ∈ ws) ∧
  (Cond.codeWith y bytes maxL ret hh).before args s = true ∧ (Cond.initialized y.cls).before args s = true ∧ (y.cls ≠ "java/lang/invoke/MethodHandle" ∧ y.cls ≠ "java/lang/invoke/VarHandle") ∧
  (∀ sig, parseMethodDescriptor y.desc = some sig → n = sig.parameters.length) ∧ (Cond.methodLink own index y).before args s = true ∧ (Cond.static y).before args s = true
theorem vx_cwSW {own : String} {index maxL mc ms : Nat} {y : MethodName} {bytes : ByteArray} {ret : Option FieldType} {hh : List (Nat × Nat × Nat × Nat)} {Ts ws ws' : List Cond} {rm : Room} (n : Nat) (ht : ∀ w ∈ Ts, w.before args s = true) (hT : GoodIn Ts (va_wsS own index y ws)) (hw : ws = Cond.codeWith y bytes maxL ret hh :: ws') (hrc : rm.cells = mc) (hrs : rm.slots = ms)
    (hd : y.cls ≠ "java/lang/invoke/MethodHandle" ∧ y.cls ≠ "java/lang/invoke/VarHandle" ∧ (parseMethodDescriptor y.desc).map (fun d => d.parameters.length) = some n) (hR : rm.frames + 1 ≤ R.frames ∧ 8 + (maxL + 11) + rm.locals ≤ R.locals) :
    vx_CSW R s args own index y bytes maxL ret hh ws rm mc ms n := by
  have ok : ∀ w ∈ va_wsS own index y ws, w.before args s = true := fun w h => ht w (hT w h).1
  have hG : GoodIn Ts ws := fun w h => hT w (by unfold va_wsS; exact List.mem_append_right _ h)
  have hc : Cond.codeWith y bytes maxL ret hh ∈ ws := by rw [hw]; exact List.mem_cons_self
  refine ⟨⟨hrc, hrs, hR.1, hR.2, pay_in ht hG, hc⟩, ht _ (hG _ hc).1, ok _ (by simp [va_wsS]), ⟨hd.1, hd.2.1⟩, fun sig h => ?_, ok _ (by simp [va_wsS]), ok _ (by simp [va_wsS])⟩
  have h2 := hd.2.2
  rw [h] at h2
  exact (Option.some.inj h2).symm
theorem vx_callSW (X : Stand p l e R s m args below meth c T locs cells slots) (hexec : p.tables.exec = Jvm.exec) {own : String} {index : Nat} {y : MethodName} {bytes : ByteArray} {maxL : Nat} {ret : Option FieldType} {hh : List (Nat × Nat × Nat × Nat)}
    (hown : s.vm.findClass own = some m.cls) (hlink : (Cond.methodLink own index y).before args s = true) (hstat : (Cond.static y).before args s = true) (hinit : (Cond.initialized y.cls).before args s = true)
    (hcode : (Cond.codeWith y bytes maxL ret hh).before args s = true) (hy : y.cls ≠ "java/lang/invoke/MethodHandle" ∧ y.cls ≠ "java/lang/invoke/VarHandle")
    {W9 : Nat} {Pre : Pt → Array Value → Prop} {Post : Pt → Array Value → Option Value → Pt → Prop} (hK : Back l R p e below s args y 3 W9 Pre Post)
    {g : JFrame} (hg : g.method = m) (hsize : g.locals.size = c.maxLocals) {argsL rest : List Value} (hlen : ∀ sig, parseMethodDescriptor y.desc = some sig → argsL.length = sig.parameters.length)
    (hstack : g.stack = argsL.reverse ++ rest) (hW : 2 * g.monitorRoom + (rest.map fun v => v.category).sum ≤ W9) (hdg : decode c.code g.pc = .ok (.invokestatic index, 3))
    (hpre : ∀ vm₁, s.WarmedH vm₁ → Pre ⟨T.setVm vm₁, locs, cells, slots⟩ argsL.toArray) :
    ∃ (v : Option Value) (vm₁ : Vm) (B : Pt), s.WarmedH vm₁ ∧ Stand p l e R s m args below meth c B.U B.locs B.cells B.slots ∧ Post ⟨T.setVm vm₁, locs, cells, slots⟩ argsL.toArray v B ∧
      ∀ target, Steps p.tables e below (B.U.setTop { g with pc := g.pc + 3, stack := v.toList ++ rest }) target → Steps p.tables e below (T.setTop g) target := by
  obtain ⟨mk, methM, cM, hnamed, hmethM, -, -, -, -, -, -, hsigM⟩ := Cond.codeWith_spec hcode
  have hstatic : methM.isStatic = true := Cond.static_spec hnamed hmethM hstat
  obtain ⟨kP, hkP, -⟩ := className_of_methodNamed hnamed
  have hinitP : kP.init = .initialized := Cond.initialized_spec (findClass_of_methodNamed hnamed) hkP hinit
  obtain ⟨vm₁, X₁, hstep₁⟩ := X.invokestatic hexec hown hlink hnamed hmethM hstatic hkP hinitP hy (g := g) hg (argsL := argsL) (rest := rest) (hlen _ hsigM) hstack hdg
  obtain ⟨v, B, X', hpost, hsteps⟩ := hK m meth c ⟨T.setVm vm₁, locs, cells, slots⟩ { g with stack := rest } (.invokestatic index) mk argsL.toArray X₁ hg hsize hdg hW (X₁.named hnamed) (hpre vm₁ X₁.warmed)
  exact ⟨v, vm₁, B, X₁.warmed, X', hpost, fun target h => hstep₁ _ fun acts => by rw [doInvoke_state]; exact hsteps.trans h⟩
theorem vx_runSW {y : MethodName} {bytes cc : ByteArray} {maxL nL mc ms n index : Nat} {ret : Option FieldType} {hh : List (Nat × Nat × Nat × Nat)} {ws : List Cond} {rm : Room} {Pc : Array Value → State → Prop} {Qc : Array Value → State → Outcome → State → Prop} {free : Addr → Prop} {Ts : List Cond} {own : String} {As rest : List Value} {g : JFrame}
    (S : CallFix p m c cc nL s args Ts own) (hM : Met l y ws rm Pc Qc mc ms free) (cw : vx_CSW R s args own index y bytes maxL ret hh ws rm mc ms n) (hp : PreS s H Pc As)
    (hg : g.method = m) (hn : As.length = n) (hsize : g.locals.size = nL) (hstack : g.stack = As.reverse ++ rest) (hW : 2 * g.monitorRoom + (rest.map fun v => v.category).sum ≤ 8) (hdg : decode cc g.pc = .ok (.invokestatic index, 3)) (hf : cells + mc ≤ R.cells ∧ slots + ms ≤ R.slots) :
    va_Run p l e R s m args below meth c H locs cells slots mc ms g rest (Qc As.toArray) (free) := by
  obtain ⟨⟨hrc, hrs, hfr, hlo, hws, hcw⟩, hcode, hini, hy, hlen, hl, hstt⟩ := cw
  have hK : Back l R p e below s args y 3 8 (PreOf R mc ms Pc) (PostOf Qc mc ms free) := va_backW (hh := hh) (bytes := bytes) (maxL := maxL) (ret := ret) hM hp.1 hrc hrs hfr hlo hws hcw (fun a' U hW => word_at hW (Or.inl (by first | rfl | simp [Cond.onTables, Cond.keeps, Cond.steady])) hini)
  obtain ⟨hx, hb, hml, ho, -⟩ := S
  intro T hT X
  obtain ⟨v, vm₁, ⟨U', l2, c2, s2⟩, hW₁, X', ⟨g', mk, t, L, e1, e2, hq, h1, hL, h2, h3⟩, st⟩ := vx_callSW X hx (hh := hh) (bytes := bytes) (maxL := maxL) (ret := ret) ho hl hstt hini hcode hy hK hg (hsize.trans hml.symm) (argsL := As) (rest := rest) (fun sig h => hn.trans (hlen sig h)) hstack hW (by rw [hb]; exact hdg)
    (fun vm₁ hW₁ => ⟨hf.1, hf.2, hp.2 (T.setVm vm₁) hT hW₁⟩)
  dsimp only [Pt.U, Pt.locs, Pt.cells, Pt.slots] at X' e1 e2 h1 h2 h3 st
  subst h1; subst h2; subst h3
  exact ⟨v, (T.setVm vm₁).calling g' mk As.toArray, t, U', L, hT, X', hL, e1, e2, hq, st⟩
/-- not caught here, past rows that name other classes: it goes on to the caller -/
theorem vx_outP {p : Program} {l : Launch} {e : Env} {R : Room} {s : State} {m : MethodId} {args : Array Value} {below : List Frame} {meth : Method} {c : Code} {H : Heap} {locs : List Loc} {cells slots : Nat} {free : Addr → Prop} {ls : Array Slot} {rest : List Value} {Qc : Array Value → State → Outcome → State → Prop} {XC : String → State → State → Prop}
    {pc : Nat} {own E : String} {ce : Cell} {q : Addr} {mc ms : Nat} (hown : s.vm.findClass own = some m.cls) (hlocks : meth.locks = false)
    (hpass : ∀ z ∈ c.exceptionTable.toList, covers z pc = false ∨ (z.catchType ≠ 0 ∧ ∃ nm : String, (Cond.classLink own z.catchType nm).before args s = true ∧ va_Nc E nm s)) (hcell : H[q]? = some ce) (hv : ce.vm = .none) (hcl : s.vm.findClass E = some ce.cls)
    (hx : ∀ t : State, t.heap = H → s.vm.Alike t.vm → XC E s t) (hf : ∀ z ∈ locs, free z.base) (hc : cells ≤ mc) (hs : slots ≤ ms) :
    vx_W p l e R s m args below meth c H locs cells slots (vx_MQ below Qc XC args s mc ms free) (F0 m pc ls rest) q := by
  intro T hT X
  have hpl : e.platform.magicAccessors = ({} : Platform).magicAccessors := by rw [X.admits.platform]
  obtain ⟨vm', hW', X', st⟩ := X.outThrough hlocks q (g := F0 m pc ls rest) rfl rfl rfl (cell := ce) (by rw [hT]; exact hcell) (by rw [hv]; rfl)
    (by obtain ⟨k9, h9, -⟩ := Vm.findClass_spec hcl; exact ⟨k9, h9⟩) (fun z hz => by
      rcases hpass z hz with h | ⟨hz0, nm, hl1, hn1⟩
      · exact Or.inl h
      · obtain ⟨c6, hc6, hcl6⟩ := Cond.classLink_spec hown hl1 e.platform hpl
        obtain ⟨a8, b8, h1, h2, h3⟩ := hn1
        cases Option.some.inj (h1.symm.trans hcl)
        cases Option.some.inj (h2.symm.trans hc6)
        exact Or.inr ⟨hz0, _, hcl6, h3⟩)
  obtain ⟨g₀, hfr⟩ := X'.frames_eq
  have hcell9 : ((T.setVm vm').setFrames (.throwing q :: below)).heap[q]? = some ce := by
    show T.heap[q]? = some ce
    rw [hT]; exact hcell
  have hend : Ended ((T.setVm vm').setFrames (.throwing q :: below)) below (.threw q) := State.frames_setFrames _ (State.cur_lt_of_frames hfr)
  refine ⟨(T.setVm vm').setFrames (.throwing q :: below), ?_, .threw q, X'.here.running, hend, Or.inr ⟨q, rfl, E, ce, locs, hx _ hT (X'.ends _).1.alike, hcell9, hv, hcl, (X'.ends _).1, (X'.ends _).2.mono hc hs, hf⟩⟩
  rw [X.pushThrowing_eq]
  exact st
/-- a thing of a world lies in the heap -/
theorem vx_lt {D : va_G} {cl : List vw_C} {ws : va_W} {H1 : Heap} (h : va_P D cl ws H1) {k : Nat} {q : Nat × va_E} (hk : ws[k]? = some q) : q.1 < H1.size := (h k q hk).lt
end VXS
/-! ===== END ===== -/
/-! ===== BEGIN methods with a table of their own: called by a name, returning or throwing ===== -/
section VXH
/-! vx_backW, vx_callVX, vx_callSX, vx_callVW, vx_runVW, vx_runVX, vx_runSX, vx_ofWH follow the same proofs as their sisters above (Free/Laws.lean, Shelf42/LK1.lean); vx_outP calls Shelf42/NT130.lean (outThrough). -/
section
variable {l : Launch} {R : Room} {p : Program} {e : Env} {below : List Frame} {s : State} {sargs : Array Value} {y : MethodName} {len W9 : Nat}
theorem vx_backW {ws : List Cond} {rm : Room} {Pc : Array Value → State → Prop} {Qc : Array Value → State → Outcome → State → Prop} {XC : String → State → State → Prop} {mc ms : Nat} {free : Addr → Prop} {bytes : ByteArray} {maxL : Nat} {ret : Option FieldType} {hh : List (Nat × Nat × Nat × Nat)}
    (hM : vx_Met l y ws rm Pc Qc XC mc ms free) (hblind : FrameBlind Pc) (hrc : rm.cells = mc) (hrs : rm.slots = ms)
    (hframes : rm.frames + 1 ≤ R.frames) (hlocals : W9 + (maxL + 11) + rm.locals ≤ R.locals)
    (hws : ∀ w ∈ ws, ∀ a' U, s.WarmedH U.vm → w.before a' U = true) (hcode : Cond.codeWith y bytes maxL ret hh ∈ ws) (hinit : ∀ a' U, s.WarmedH U.vm → (Cond.initialized y.cls).before a' U = true) :
    vx_Back l R p e below s sargs y len W9 (PreOf R mc ms Pc) (PostOf Qc mc ms free) (vx_Post XC mc ms free) := by
  intro m meth c A g ig mk a X hg hsize hdg hW hn hp
  have h1 : (headSpec ws rm).pre.before a A.U = true := atoms_intro fun w hw => hws w hw _ _ X.warmed
  have h2 : (Cond.codeWith y bytes maxL ret hh).before a A.U = true := hws _ hcode _ _ X.warmed
  have h3 : (Cond.initialized y.cls).before a A.U = true := hinit _ _ X.warmed
  have h4 : A.cells + (headSpec ws rm).room.cells ≤ R.cells := by rw [show (headSpec ws rm).room.cells = mc from hrc]; exact hp.1
  have h5 : A.slots + (headSpec ws rm).room.slots ≤ R.slots := by rw [show (headSpec ws rm).room.slots = ms from hrs]; exact hp.2.1
  have hPc : Pc a (A.U.calling g mk a) := hblind _ _ _ _ hp.2.2
  obtain ⟨U, Ls, c0, s0⟩ := A
  dsimp only [Pt.U, Pt.locs, Pt.cells, Pt.slots] at h1 h2 h3 h4 h5 X hn hPc ⊢
  obtain ⟨m9, methY, cY, hn9, hmY, hcY, -, hlY, -⟩ := Cond.codeWith_spec h2
  cases Option.some.inj (hn9.symm.trans hn)
  obtain ⟨kY, hkY, -⟩ := className_of_methodNamed hn
  have hinitY : kY.init = .initialized := Cond.initialized_spec (findClass_of_methodNamed hn) hkY h3
  have h : At U g.method c below := by rw [hg]; exact X.here
  have hlocals9 : W9 + (maxL + 11) + (headSpec ws rm).room.locals ≤ R.locals := hlocals
  have happ : (headSpec ws rm).appliesLoose y e.platform (U.calling g mk a) = true :=
    Spec.appliesLoose_calling (g := g) h hdg hn hkY hinitY
      (X.room_calling (g := g) (R' := (headSpec ws rm).room) hsize hmY hcY hframes (by rw [hlY]; omega) h4 h5) h1
  obtain ⟨mid, hmid⟩ := h.above
  have hfr : (U.setTop g).frames = (.java g :: mid) ++ below := by rw [State.frames_setTop' g h.top, hmid]; rfl
  obtain ⟨o, s₂, hsteps, -, hend, hq⟩ := Steps.callFree hM p X.admits X.cas X.clock (acts := []) hfr happ hPc trivial
  have hq' : vx_Q Qc XC mc ms free a (U.calling g mk a) o s₂ := hq
  rw [State.frames_setTop' g h.top] at hend
  obtain ⟨g₀, hg0⟩ := Option.isSome_iff_exists.mp h.top
  obtain ⟨r, hr⟩ := State.topJava?_eq_some.mp hg0
  have hr' : (({ U with heap := s₂.heap, slotsUsed := s₂.slotsUsed } : State).setVm s₂.vm).frames = .java g₀ :: r := hr
  rcases hq' with ⟨hqc, L, hfe, hL⟩ | ⟨q, rfl, E, ce, L, hx, hce, hcv, hcl, hW₂, hsm, hL⟩
  · obtain ⟨⟨v, rfl⟩, hW₂, e2, q2, q3, q4, q5, q6⟩ := id hfe
    have e3 : s₂ = ({ (U.calling g mk a).setFrames s₂.frames with heap := s₂.heap, slotsUsed := s₂.slotsUsed } : State).setVm s₂.vm := by
      have : s₂ = ({ s₂ with vm := (U.calling g mk a).vm } : State).setVm s₂.vm := rfl
      rw [e2] at this
      exact this
    obtain ⟨c₂, i₂, len₂, hc₂, hd₂, hf₂⟩ := hend
    have hW' : U.WarmedH s₂.vm := hW₂
    have hcc : c₂ = c := by
      have h1 : s₂.code? g.method = U.code? g.method := by
        rw [State.code?_eq, State.code?_eq, hW'.alike.method?]
      exact Option.some.inj (hc₂.symm.trans (h1.trans h.code))
    subst hcc
    have hlen : len₂ = len := by rw [hdg] at hd₂; cases hd₂; rfl
    subst hlen
    have hs₂ : s₂ = (({ U with heap := s₂.heap, slotsUsed := s₂.slotsUsed } : State).setVm s₂.vm).setTop { g with pc := g.pc + len₂, stack := v.toList ++ g.stack } := by
      refine e3.trans ?_
      rw [hf₂, State.calling_eq h.top, State.setFrames_setFrames, State.setTop_of_frames _ hr', hr]
      rfl
    have hsame : U.sameButNew ({ U with heap := s₂.heap, slotsUsed := s₂.slotsUsed } : State) L mc ms := by
      refine ⟨?_, q2, q3, q4, q5, q6⟩
      obtain ⟨t, ht, -⟩ := State.frames_cons hr
      show ({ U with heap := s₂.heap, slotsUsed := s₂.slotsUsed } : State) = { U.setFrames U.frames with heap := s₂.heap, slotsUsed := s₂.slotsUsed }
      rw [State.setFrames_self ht]
    subst hg
    refine Or.inl ⟨v, ⟨(({ U with heap := s₂.heap, slotsUsed := s₂.slotsUsed } : State).setVm s₂.vm), Ls ++ L, c0 + mc, s0 + ms⟩,
      ⟨X.admits, X.cas, X.clock, X.frames, X.room, X.hears, X.method, X.code, (X.here.setHeapUsed s₂.heap s₂.slotsUsed).setVm hW'.alike, X.tail, State.WarmedH.trans X.warmed hW', X.limits, X.bytes, X.same.trans (hsame.setVm s.vm)⟩,
      ⟨g, mk, s₂, L, rfl, rfl, hqc, rfl, hL, rfl, rfl⟩, ?_⟩
    show Steps p.tables e below _ ((({ U with heap := s₂.heap, slotsUsed := s₂.slotsUsed } : State).setVm s₂.vm).setTop { g with pc := g.pc + len₂, stack := v.toList ++ g.stack })
    rw [← hs₂]
    exact hsteps
  · obtain ⟨e2, q2, q3, q4, q5, q6⟩ := id hsm
    have e3 : s₂ = ({ (U.calling g mk a).setFrames s₂.frames with heap := s₂.heap, slotsUsed := s₂.slotsUsed } : State).setVm s₂.vm := by
      have : s₂ = ({ s₂ with vm := (U.calling g mk a).vm } : State).setVm s₂.vm := rfl
      rw [e2] at this
      exact this
    have hf₂ : s₂.frames = .throwing q :: .java g :: U.frames.tail := hend
    have hW' : U.WarmedH s₂.vm := hW₂
    have hs₂ : s₂ = ((({ U with heap := s₂.heap, slotsUsed := s₂.slotsUsed } : State).setVm s₂.vm).setTop g).pushFrame (.throwing q) := by
      refine e3.trans ?_
      rw [hf₂, State.calling_eq h.top, State.setFrames_setFrames, State.pushFrame, State.frames_setTop _ hr', State.setTop_of_frames _ hr', State.setFrames_setFrames, hr]
      rfl
    have hsame : U.sameButNew ({ U with heap := s₂.heap, slotsUsed := s₂.slotsUsed } : State) L mc ms := by
      refine ⟨?_, q2, q3, q4, q5, q6⟩
      obtain ⟨t, ht, -⟩ := State.frames_cons hr
      show ({ U with heap := s₂.heap, slotsUsed := s₂.slotsUsed } : State) = { U.setFrames U.frames with heap := s₂.heap, slotsUsed := s₂.slotsUsed }
      rw [State.setFrames_self ht]
    subst hg
    refine Or.inr ⟨q, ⟨(({ U with heap := s₂.heap, slotsUsed := s₂.slotsUsed } : State).setVm s₂.vm), Ls ++ L, c0 + mc, s0 + ms⟩,
      ⟨X.admits, X.cas, X.clock, X.frames, X.room, X.hears, X.method, X.code, (X.here.setHeapUsed s₂.heap s₂.slotsUsed).setVm hW'.alike, X.tail, State.WarmedH.trans X.warmed hW', X.limits, X.bytes, X.same.trans (hsame.setVm s.vm)⟩,
      ⟨g, mk, s₂, L, E, ce, rfl, rfl, hx, hce, hcv, hcl, rfl, hL, rfl, rfl⟩, ?_⟩
    show Steps p.tables e below _ (((({ U with heap := s₂.heap, slotsUsed := s₂.slotsUsed } : State).setVm s₂.vm).setTop g).pushFrame (.throwing q))
    rw [← hs₂]
    exact hsteps
end
variable {p : Program} {l : Launch} {e : Env} {R : Room} {s : State} {m : MethodId} {args : Array Value} {below : List Frame} {meth : Method} {c : Code} {T : State} {H : Heap} {locs : List Loc} {cells slots : Nat}
theorem vx_callVX (X : Stand p l e R s m args below meth c T locs cells slots) (hexec : p.tables.exec = Jvm.exec) {own C : String} {index : Nat} {y : MethodName} {bytes : ByteArray} {maxL : Nat} {ret : Option FieldType} {hh : List (Nat × Nat × Nat × Nat)}
    (hown : s.vm.findClass own = some m.cls) (hlink : (Cond.methodLink own index y).before args s = true) (hinst : (Cond.instanceMethod y).before args s = true) (hsel : (Cond.selects C y y).before args s = true)
    (hcode : (Cond.codeWith y bytes maxL ret hh).before args s = true) (hy : y.cls ≠ "java/lang/invoke/MethodHandle" ∧ y.cls ≠ "java/lang/invoke/VarHandle")
    {W9 : Nat} {Pre : Pt → Array Value → Prop} {Post : Pt → Array Value → Option Value → Pt → Prop} {PostX : Pt → Array Value → Addr → Pt → Prop} (hK : vx_Back l R p e below s args y 3 W9 Pre Post PostX)
    {b : Addr} {cellB : Cell} (hcell : T.heap[b]? = some cellB) (hobj : cellB.vm.isStatics = false) (hcls : s.vm.findClass C = some cellB.cls)
    {g : JFrame} (hg : g.method = m) (hsize : g.locals.size = c.maxLocals) {argsL rest : List Value} (hlen : ∀ sig, parseMethodDescriptor y.desc = some sig → argsL.length = sig.parameters.length)
    (hstack : g.stack = argsL.reverse ++ .ref b :: rest) (hW : 2 * g.monitorRoom + (rest.map fun v => v.category).sum ≤ W9) (hdg : decode c.code g.pc = .ok (.invokevirtual index, 3))
    (hpre : ∀ vm₁, s.WarmedH vm₁ → Pre ⟨T.setVm vm₁, locs, cells, slots⟩ (Value.ref b :: argsL).toArray) :
    (∃ (v : Option Value) (vm₁ : Vm) (B : Pt), s.WarmedH vm₁ ∧ Stand p l e R s m args below meth c B.U B.locs B.cells B.slots ∧ Post ⟨T.setVm vm₁, locs, cells, slots⟩ (Value.ref b :: argsL).toArray v B ∧
      ∀ target, Steps p.tables e below (B.U.setTop { g with pc := g.pc + 3, stack := v.toList ++ rest }) target → Steps p.tables e below (T.setTop g) target) ∨
    (∃ (q : Addr) (vm₁ : Vm) (B : Pt), s.WarmedH vm₁ ∧ Stand p l e R s m args below meth c B.U B.locs B.cells B.slots ∧ PostX ⟨T.setVm vm₁, locs, cells, slots⟩ (Value.ref b :: argsL).toArray q B ∧
      Steps p.tables e below (T.setTop g) ((B.U.setTop { g with stack := rest }).pushFrame (.throwing q))) := by
  obtain ⟨mk, methM, hnamed, hmethM, hstM, habM⟩ := Cond.instanceMethod_spec hinst
  obtain ⟨m8, methM', cM, hn8, hmethM', -, -, -, -, -, -, hsigM⟩ := Cond.codeWith_spec hcode
  cases Option.some.inj (hn8.symm.trans hnamed)
  cases hmethM.symm.trans hmethM'
  obtain ⟨c2, r2, m2, q1, q2, q3, q4, kP, hkP, hkPi⟩ := Cond.selects_spec hsel
  cases hcls.symm.trans q1
  cases (State.methodFound?_of_named hnamed hy).symm.trans q2
  cases hnamed.symm.trans q3
  have hselP : selectMethod e.platform s.vm cellB.cls mk = .method mk := by rw [Launch.admits_selectMethod X.admits]; exact q4
  obtain ⟨vm₁, X₁, hstep₁⟩ := X.invokevirtual hexec hown hlink hnamed hmethM hstM hkP hkPi hy (a := b) (cell := cellB) hcell
    (fun z h => by rw [h] at hobj; cases hobj) hselP hmethM habM hkP hkPi (g := g) hg (argsL := argsL) (rest := rest) (hlen _ hsigM) hstack hdg
  rcases hK m meth c ⟨T.setVm vm₁, locs, cells, slots⟩ { g with stack := rest } (.invokevirtual index) mk (Value.ref b :: argsL).toArray X₁ hg hsize hdg hW (X₁.named hnamed) (hpre vm₁ X₁.warmed) with ⟨v, B, X', hpost, hsteps⟩ | ⟨q, B, X', hpost, hsteps⟩
  · exact Or.inl ⟨v, vm₁, B, X₁.warmed, X', hpost, fun target h => hstep₁ _ fun acts => by rw [doInvoke_state]; exact hsteps.trans h⟩
  · exact Or.inr ⟨q, vm₁, B, X₁.warmed, X', hpost, hstep₁ _ fun acts => by rw [doInvoke_state]; exact hsteps⟩
theorem vx_callSX (X : Stand p l e R s m args below meth c T locs cells slots) (hexec : p.tables.exec = Jvm.exec) {own : String} {index : Nat} {y : MethodName} {bytes : ByteArray} {maxL : Nat} {ret : Option FieldType} {hh : List (Nat × Nat × Nat × Nat)}
    (hown : s.vm.findClass own = some m.cls) (hlink : (Cond.methodLink own index y).before args s = true) (hstat : (Cond.static y).before args s = true) (hinit : (Cond.initialized y.cls).before args s = true)
    (hcode : (Cond.codeWith y bytes maxL ret hh).before args s = true) (hy : y.cls ≠ "java/lang/invoke/MethodHandle" ∧ y.cls ≠ "java/lang/invoke/VarHandle")
    {W9 : Nat} {Pre : Pt → Array Value → Prop} {Post : Pt → Array Value → Option Value → Pt → Prop} {PostX : Pt → Array Value → Addr → Pt → Prop} (hK : vx_Back l R p e below s args y 3 W9 Pre Post PostX)
    {g : JFrame} (hg : g.method = m) (hsize : g.locals.size = c.maxLocals) {argsL rest : List Value} (hlen : ∀ sig, parseMethodDescriptor y.desc = some sig → argsL.length = sig.parameters.length)
    (hstack : g.stack = argsL.reverse ++ rest) (hW : 2 * g.monitorRoom + (rest.map fun v => v.category).sum ≤ W9) (hdg : decode c.code g.pc = .ok (.invokestatic index, 3))
    (hpre : ∀ vm₁, s.WarmedH vm₁ → Pre ⟨T.setVm vm₁, locs, cells, slots⟩ argsL.toArray) :
    (∃ (v : Option Value) (vm₁ : Vm) (B : Pt), s.WarmedH vm₁ ∧ Stand p l e R s m args below meth c B.U B.locs B.cells B.slots ∧ Post ⟨T.setVm vm₁, locs, cells, slots⟩ argsL.toArray v B ∧
      ∀ target, Steps p.tables e below (B.U.setTop { g with pc := g.pc + 3, stack := v.toList ++ rest }) target → Steps p.tables e below (T.setTop g) target) ∨
    (∃ (q : Addr) (vm₁ : Vm) (B : Pt), s.WarmedH vm₁ ∧ Stand p l e R s m args below meth c B.U B.locs B.cells B.slots ∧ PostX ⟨T.setVm vm₁, locs, cells, slots⟩ argsL.toArray q B ∧
      Steps p.tables e below (T.setTop g) ((B.U.setTop { g with stack := rest }).pushFrame (.throwing q))) := by
  obtain ⟨mk, methM, cM, hnamed, hmethM, -, -, -, -, -, -, hsigM⟩ := Cond.codeWith_spec hcode
  have hstatic : methM.isStatic = true := Cond.static_spec hnamed hmethM hstat
  obtain ⟨kP, hkP, -⟩ := className_of_methodNamed hnamed
  have hinitP : kP.init = .initialized := Cond.initialized_spec (findClass_of_methodNamed hnamed) hkP hinit
  obtain ⟨vm₁, X₁, hstep₁⟩ := X.invokestatic hexec hown hlink hnamed hmethM hstatic hkP hinitP hy (g := g) hg (argsL := argsL) (rest := rest) (hlen _ hsigM) hstack hdg
  rcases hK m meth c ⟨T.setVm vm₁, locs, cells, slots⟩ { g with stack := rest } (.invokestatic index) mk argsL.toArray X₁ hg hsize hdg hW (X₁.named hnamed) (hpre vm₁ X₁.warmed) with ⟨v, B, X', hpost, hsteps⟩ | ⟨q, B, X', hpost, hsteps⟩
  · exact Or.inl ⟨v, vm₁, B, X₁.warmed, X', hpost, fun target h => hstep₁ _ fun acts => by rw [doInvoke_state]; exact hsteps.trans h⟩
  · exact Or.inr ⟨q, vm₁, B, X₁.warmed, X', hpost, hstep₁ _ fun acts => by rw [doInvoke_state]; exact hsteps⟩
theorem vx_callVW (X : Stand p l e R s m args below meth c T locs cells slots) (hexec : p.tables.exec = Jvm.exec) {own C : String} {index : Nat} {y : MethodName} {bytes : ByteArray} {maxL : Nat} {ret : Option FieldType} {hh : List (Nat × Nat × Nat × Nat)}
    (hown : s.vm.findClass own = some m.cls) (hlink : (Cond.methodLink own index y).before args s = true) (hinst : (Cond.instanceMethod y).before args s = true) (hsel : (Cond.selects C y y).before args s = true)
    (hcode : (Cond.codeWith y bytes maxL ret hh).before args s = true) (hy : y.cls ≠ "java/lang/invoke/MethodHandle" ∧ y.cls ≠ "java/lang/invoke/VarHandle")
    {W9 : Nat} {Pre : Pt → Array Value → Prop} {Post : Pt → Array Value → Option Value → Pt → Prop} (hK : Back l R p e below s args y 3 W9 Pre Post)
    {b : Addr} {cellB : Cell} (hcell : T.heap[b]? = some cellB) (hobj : cellB.vm.isStatics = false) (hcls : s.vm.findClass C = some cellB.cls)
    {g : JFrame} (hg : g.method = m) (hsize : g.locals.size = c.maxLocals) {argsL rest : List Value} (hlen : ∀ sig, parseMethodDescriptor y.desc = some sig → argsL.length = sig.parameters.length)
    (hstack : g.stack = argsL.reverse ++ .ref b :: rest) (hW : 2 * g.monitorRoom + (rest.map fun v => v.category).sum ≤ W9) (hdg : decode c.code g.pc = .ok (.invokevirtual index, 3))
    (hpre : ∀ vm₁, s.WarmedH vm₁ → Pre ⟨T.setVm vm₁, locs, cells, slots⟩ (Value.ref b :: argsL).toArray) :
    ∃ (v : Option Value) (vm₁ : Vm) (B : Pt), s.WarmedH vm₁ ∧ Stand p l e R s m args below meth c B.U B.locs B.cells B.slots ∧ Post ⟨T.setVm vm₁, locs, cells, slots⟩ (Value.ref b :: argsL).toArray v B ∧
      ∀ target, Steps p.tables e below (B.U.setTop { g with pc := g.pc + 3, stack := v.toList ++ rest }) target → Steps p.tables e below (T.setTop g) target := by
  obtain ⟨mk, methM, hnamed, hmethM, hstM, habM⟩ := Cond.instanceMethod_spec hinst
  obtain ⟨m8, methM', cM, hn8, hmethM', -, -, -, -, -, -, hsigM⟩ := Cond.codeWith_spec hcode
  cases Option.some.inj (hn8.symm.trans hnamed)
  cases hmethM.symm.trans hmethM'
  obtain ⟨c2, r2, m2, q1, q2, q3, q4, kP, hkP, hkPi⟩ := Cond.selects_spec hsel
  cases hcls.symm.trans q1
  cases (State.methodFound?_of_named hnamed hy).symm.trans q2
  cases hnamed.symm.trans q3
  have hselP : selectMethod e.platform s.vm cellB.cls mk = .method mk := by rw [Launch.admits_selectMethod X.admits]; exact q4
  obtain ⟨vm₁, X₁, hstep₁⟩ := X.invokevirtual hexec hown hlink hnamed hmethM hstM hkP hkPi hy (a := b) (cell := cellB) hcell
    (fun z h => by rw [h] at hobj; cases hobj) hselP hmethM habM hkP hkPi (g := g) hg (argsL := argsL) (rest := rest) (hlen _ hsigM) hstack hdg
  obtain ⟨v, B, X', hpost, hsteps⟩ := hK m meth c ⟨T.setVm vm₁, locs, cells, slots⟩ { g with stack := rest } (.invokevirtual index) mk (Value.ref b :: argsL).toArray X₁ hg hsize hdg hW (X₁.named hnamed) (hpre vm₁ X₁.warmed)
  exact ⟨v, vm₁, B, X₁.warmed, X', hpost, fun target h => hstep₁ _ fun acts => by rw [doInvoke_state]; exact hsteps.trans h⟩
abbrev vx_CVW (R : Room) (s : State) (args : Array Value) (own C : String) (index : Nat) (y : MethodName) (bytes : ByteArray) (maxL : Nat) (ret : Option FieldType) (hh : List (Nat × Nat × Nat × Nat)) (ws : List Cond) (rm : Room) (mc ms n : Nat) : Prop :=
  (rm.cells = mc ∧ rm.slots = ms ∧ rm.frames + 1 ≤ R.frames ∧ 8 + (maxL + 11) + rm.locals ≤ R.locals ∧ (∀ w ∈ ws, ∀ (a' : Array Value) (U : State), s.WarmedH U.vm → w.before a' U = true) ∧ Cond.codeWith y bytes maxL ret hh ∈ ws) ∧
  (Cond.codeWith y bytes maxL ret hh).before args s = true ∧ (Cond.initialized y.cls).before args s = true ∧ (y.cls ≠ "java/lang/invoke/MethodHandle" ∧ y.cls ≠ "java/lang/invoke/VarHandle") ∧
  (∀ sig, parseMethodDescriptor y.desc = some sig → n = sig.parameters.length) ∧ (Cond.methodLink own index y).before args s = true ∧ (Cond.instanceMethod y).before args s = true ∧ (Cond.selects C y y).before args s = true
theorem vx_cwVW {own C : String} {index maxL mc ms : Nat} {y : MethodName} {bytes : ByteArray} {ret : Option FieldType} {hh : List (Nat × Nat × Nat × Nat)} {Ts ws ws' : List Cond} {rm : Room} (n : Nat) (ht : ∀ w ∈ Ts, w.before args s = true) (hT : GoodIn Ts (wsV own index C y ws)) (hw : ws = Cond.codeWith y bytes maxL ret hh :: ws') (hrc : rm.cells = mc) (hrs : rm.slots = ms)
    (hd : y.cls = C ∧ y.cls ≠ "java/lang/invoke/MethodHandle" ∧ y.cls ≠ "java/lang/invoke/VarHandle" ∧ (parseMethodDescriptor y.desc).map (fun d => d.parameters.length) = some n) (hR : rm.frames + 1 ≤ R.frames ∧ 8 + (maxL + 11) + rm.locals ≤ R.locals) :
    vx_CVW R s args own C index y bytes maxL ret hh ws rm mc ms n := by
  obtain ⟨hC, hd⟩ := hd
  subst hC
  have ok : ∀ w ∈ wsV own index y.cls y ws, w.before args s = true := fun w h => ht w (hT w h).1
  have hG : GoodIn Ts ws := fun w h => hT w (by unfold wsV; exact List.mem_append_right _ h)
  have hc : Cond.codeWith y bytes maxL ret hh ∈ ws := by rw [hw]; exact List.mem_cons_self
  refine ⟨⟨hrc, hrs, hR.1, hR.2, pay_in ht hG, hc⟩, ht _ (hG _ hc).1, ok _ (by simp [wsV]), ⟨hd.1, hd.2.1⟩, fun sig h => ?_, ok _ (by simp [wsV]), ok _ (by simp [wsV]), ok _ (by simp [wsV])⟩
  have h2 := hd.2.2
  rw [h] at h2
  exact (Option.some.inj h2).symm
theorem vx_runVW {y : MethodName} {bytes cc : ByteArray} {maxL nL mc ms n index : Nat} {ret : Option FieldType} {hh : List (Nat × Nat × Nat × Nat)} {ws : List Cond} {rm : Room} {Pc : Array Value → State → Prop} {Qc : Array Value → State → Outcome → State → Prop} {free : Addr → Prop} {Ts : List Cond} {own C : String} {b : Addr} {As rest : List Value} {g : JFrame}
    (S : CallFix p m c cc nL s args Ts own) (hM : Met l y ws rm Pc Qc mc ms free) (cw : vx_CVW R s args own C index y bytes maxL ret hh ws rm mc ms n) (hp : PreV s H C b Pc As)
    (hg : g.method = m) (hn : As.length = n) (hsize : g.locals.size = nL) (hstack : g.stack = As.reverse ++ .ref b :: rest) (hW : 2 * g.monitorRoom + (rest.map fun v => v.category).sum ≤ 8) (hdg : decode cc g.pc = .ok (.invokevirtual index, 3)) (hf : cells + mc ≤ R.cells ∧ slots + ms ≤ R.slots) :
    va_Run p l e R s m args below meth c H locs cells slots mc ms g rest (Qc (Value.ref b :: As).toArray) free := by
  obtain ⟨⟨hrc, hrs, hfr, hlo, hws, hcw⟩, hcode, hini, hy, hlen, hl, hin, hse⟩ := cw
  have hK : Back l R p e below s args y 3 8 (PreOf R mc ms Pc) (PostOf Qc mc ms free) := va_backW (hh := hh) (bytes := bytes) (maxL := maxL) (ret := ret) hM hp.1 hrc hrs hfr hlo hws hcw (fun a' U hW => word_at hW (Or.inl (by first | rfl | simp [Cond.onTables, Cond.keeps, Cond.steady])) hini)
  obtain ⟨hx, hb, hml, ho, -⟩ := S
  obtain ⟨-, ⟨cellB, hcB, hoB, hclB⟩, hPc⟩ := hp
  intro T hT X
  obtain ⟨v, vm₁, ⟨U', l2, c2, s2⟩, hW₁, X', ⟨g', mk, t, L, e1, e2, hq, h1, hL, h2, h3⟩, st⟩ := vx_callVW X hx (C := C) (hh := hh) (bytes := bytes) (maxL := maxL) (ret := ret) ho hl hin hse hcode hy hK (by rw [hT]; exact hcB) hoB hclB hg (hsize.trans hml.symm) (argsL := As) (rest := rest) (fun sig h => hn.trans (hlen sig h)) hstack hW (by rw [hb]; exact hdg)
    (fun vm₁ hW₁ => ⟨hf.1, hf.2, hPc (T.setVm vm₁) hT hW₁⟩)
  dsimp only [Pt.U, Pt.locs, Pt.cells, Pt.slots] at X' e1 e2 h1 h2 h3 st
  subst h1; subst h2; subst h3
  exact ⟨v, (T.setVm vm₁).calling g' mk (Value.ref b :: As).toArray, t, U', L, hT, X', hL, e1, e2, hq, st⟩
section
variable {y : MethodName} {bytes cc : ByteArray} {maxL nL mc ms n index : Nat} {ret : Option FieldType} {ws : List Cond} {rm : Room} {Pc : Array Value → State → Prop} {Qc : Array Value → State → Outcome → State → Prop} {XC : String → State → State → Prop} {free : Addr → Prop} {Ts : List Cond} {own C : String} {b : Addr} {As rest : List Value} {g : JFrame}
theorem vx_runVX {hh : List (Nat × Nat × Nat × Nat)} (S : CallFix p m c cc nL s args Ts own) (hM : vx_Met l y ws rm Pc Qc XC mc ms free) (cw : vx_CVW R s args own C index y bytes maxL ret hh ws rm mc ms n) (hp : PreV s H C b Pc As)
    (hg : g.method = m) (hn : As.length = n) (hsize : g.locals.size = nL) (hstack : g.stack = As.reverse ++ .ref b :: rest) (hW : 2 * g.monitorRoom + (rest.map fun v => v.category).sum ≤ 8) (hdg : decode cc g.pc = .ok (.invokevirtual index, 3)) (hf : cells + mc ≤ R.cells ∧ slots + ms ≤ R.slots) :
    vx_Run p l e R s m args below meth c H locs cells slots mc ms g rest (Qc (Value.ref b :: As).toArray) XC free := by
  obtain ⟨⟨hrc, hrs, hfr, hlo, hws, hcw⟩, hcode, hini, hy, hlen, hl, hin, hse⟩ := cw
  have hK : vx_Back l R p e below s args y 3 8 (PreOf R mc ms Pc) (PostOf Qc mc ms free) (vx_Post XC mc ms free) := vx_backW (hh := hh) (bytes := bytes) (maxL := maxL) (ret := ret) hM hp.1 hrc hrs hfr hlo hws hcw (fun a' U hW => word_at hW (Or.inl (by first | rfl | simp [Cond.onTables, Cond.keeps, Cond.steady])) hini)
  obtain ⟨hx, hb, hml, ho, -⟩ := S
  obtain ⟨-, ⟨cellB, hcB, hoB, hclB⟩, hPc⟩ := hp
  intro T hT X
  rcases vx_callVX X hx (C := C) (hh := hh) (bytes := bytes) (maxL := maxL) (ret := ret) ho hl hin hse hcode hy hK (by rw [hT]; exact hcB) hoB hclB hg (hsize.trans hml.symm) (argsL := As) (rest := rest) (fun sig h => hn.trans (hlen sig h)) hstack hW (by rw [hb]; exact hdg)
    (fun vm₁ hW₁ => ⟨hf.1, hf.2, hPc (T.setVm vm₁) hT hW₁⟩) with ⟨v, vm₁, ⟨U', l2, c2, s2⟩, hW₁, X', ⟨g', mk, t, L, e1, e2, hq, h1, hL, h2, h3⟩, st⟩ | ⟨q, vm₁, ⟨U', l2, c2, s2⟩, hW₁, X', ⟨g', mk, t, L, E, ce, e1, e2, hq, hce, hcv, hcl, h1, hL, h2, h3⟩, st⟩
  · dsimp only [Pt.U, Pt.locs, Pt.cells, Pt.slots] at X' e1 e2 h1 h2 h3 st
    subst h1; subst h2; subst h3
    exact Or.inl ⟨v, (T.setVm vm₁).calling g' mk (Value.ref b :: As).toArray, t, U', L, hT, X', hL, e1, e2, hq, st⟩
  · dsimp only [Pt.U, Pt.locs, Pt.cells, Pt.slots] at X' e1 e2 h1 h2 h3 st hcl
    subst h1; subst h2; subst h3
    exact Or.inr ⟨q, (T.setVm vm₁).calling g' mk (Value.ref b :: As).toArray, t, U', L, E, ce, hT, X', hL, e1, e2, hq, hce, hcv, vx_cls hW₁ hcl, st⟩
theorem vx_runSX {hh : List (Nat × Nat × Nat × Nat)} (S : CallFix p m c cc nL s args Ts own) (hM : vx_Met l y ws rm Pc Qc XC mc ms free) (cw : vx_CSW R s args own index y bytes maxL ret hh ws rm mc ms n) (hp : PreS s H Pc As)
    (hg : g.method = m) (hn : As.length = n) (hsize : g.locals.size = nL) (hstack : g.stack = As.reverse ++ rest) (hW : 2 * g.monitorRoom + (rest.map fun v => v.category).sum ≤ 8) (hdg : decode cc g.pc = .ok (.invokestatic index, 3)) (hf : cells + mc ≤ R.cells ∧ slots + ms ≤ R.slots) :
    vx_Run p l e R s m args below meth c H locs cells slots mc ms g rest (Qc As.toArray) XC free := by
  obtain ⟨⟨hrc, hrs, hfr, hlo, hws, hcw⟩, hcode, hini, hy, hlen, hl, hstt⟩ := cw
  have hK : vx_Back l R p e below s args y 3 8 (PreOf R mc ms Pc) (PostOf Qc mc ms free) (vx_Post XC mc ms free) := vx_backW (hh := hh) (bytes := bytes) (maxL := maxL) (ret := ret) hM hp.1 hrc hrs hfr hlo hws hcw (fun a' U hW => word_at hW (Or.inl (by first | rfl | simp [Cond.onTables, Cond.keeps, Cond.steady])) hini)
  obtain ⟨hx, hb, hml, ho, -⟩ := S
  intro T hT X
  rcases vx_callSX X hx (hh := hh) (bytes := bytes) (maxL := maxL) (ret := ret) ho hl hstt hini hcode hy hK hg (hsize.trans hml.symm) (argsL := As) (rest := rest) (fun sig h => hn.trans (hlen sig h)) hstack hW (by rw [hb]; exact hdg)
    (fun vm₁ hW₁ => ⟨hf.1, hf.2, hp.2 (T.setVm vm₁) hT hW₁⟩) with ⟨v, vm₁, ⟨U', l2, c2, s2⟩, hW₁, X', ⟨g', mk, t, L, e1, e2, hq, h1, hL, h2, h3⟩, st⟩ | ⟨q, vm₁, ⟨U', l2, c2, s2⟩, hW₁, X', ⟨g', mk, t, L, E, ce, e1, e2, hq, hce, hcv, hcl, h1, hL, h2, h3⟩, st⟩
  · dsimp only [Pt.U, Pt.locs, Pt.cells, Pt.slots] at X' e1 e2 h1 h2 h3 st
    subst h1; subst h2; subst h3
    exact Or.inl ⟨v, (T.setVm vm₁).calling g' mk As.toArray, t, U', L, hT, X', hL, e1, e2, hq, st⟩
  · dsimp only [Pt.U, Pt.locs, Pt.cells, Pt.slots] at X' e1 e2 h1 h2 h3 st hcl
    subst h1; subst h2; subst h3
    exact Or.inr ⟨q, (T.setVm vm₁).calling g' mk As.toArray, t, U', L, E, ce, hT, X', hL, e1, e2, hq, hce, hcv, vx_cls hW₁ hcl, st⟩
end
end VXH
theorem vx_ofWH {l : Launch} {y : MethodName} {ws ws' : List Cond} {rm : Room} {Pc : Array Value → State → Prop} {Qc : Array Value → State → Outcome → State → Prop} {XC : String → State → State → Prop} {mc ms : Nat} {free : Addr → Prop} {cc : ByteArray} {maxL : Nat} {ret : Option FieldType} {hh : List (Nat × Nat × Nat × Nat)}
    (hy : plainName y.cls = true) (hw : ws = Cond.codeWith y cc maxL ret hh :: ws')
    (body : ∀ p e s m args below meth c s₁, BodyLoose p l y (headSpec ws rm) cc maxL ret e s m args below meth c s₁ → c.maxLocals = maxL → Pc args s →
      W p l e (headSpec ws rm).room s m args below meth c s.heap [] 0 0 (vx_MQ below Qc XC args s mc ms free) (entryFrame m args maxL)) : vx_Met l y ws rm Pc Qc XC mc ms free := by
  refine MetFree.of_bodyS (code := cc) (maxLocals := maxL) (ret := ret) hy ?_ ?_
  · intro args s m h hn
    obtain ⟨m9, meth, c, hn9, h1, h2, h3, h4, -, h5, h6, -⟩ := Cond.codeWith_spec (atoms_spec (ws := ws) h _ (by rw [hw]; exact List.mem_cons_self))
    cases hn.symm.trans hn9
    exact ⟨meth, c, h1, h2, h3, h4, h5, h6⟩
  · intro p e s m args below meth c s₁ B hml hP _
    have hh0 : s₁.heap = s.heap := by rw [B.state]; rfl
    obtain ⟨t, a1, o, b1, b2, b3⟩ := body p e s m args below meth c s₁ B hml hP s₁ hh0 (Stand.of_body B)
    exact ⟨t, o, a1, b1, b2, b3⟩
/-! ===== END ===== -/
end
section
/-! the tables' words, the names of the classes and of their methods (begun from the printed texts) -/
/-- a private method of a class that the tables say can be made, by its rows of tables_1 -/
def lw_okq (q : MethodName × Nat) : Prop := (q.1.cls ≠ "java/lang/invoke/MethodHandle" ∧ q.1.cls ≠ "java/lang/invoke/VarHandle") ∧ Cond.instantiable q.1.cls q.2 ∈ tables_1 ∧ Cond.privateMethod q.1 ∈ tables_1 ∧ Cond.instanceMethod q.1 ∈ tables_1
theorem lw_p0 : lw_okq (⟨"java/lang/Throwable", "fillInStackTrace", "(I)Ljava/lang/Throwable;"⟩, 6) := ⟨⟨by decide +kernel, by decide +kernel⟩, List.mem_of_getElem? (i := 352) (by decide +kernel), List.mem_of_getElem? (i := 350) (by decide +kernel), List.mem_of_getElem? (i := 351) (by decide +kernel)⟩
theorem lw_p1 : lw_okq (⟨"WarnWave", "checkGroup", "(I)V"⟩, 2) := ⟨⟨by decide +kernel, by decide +kernel⟩, List.mem_of_getElem? (i := 19) (by decide +kernel), List.mem_of_getElem? (i := 390) (by decide +kernel), List.mem_of_getElem? (i := 391) (by decide +kernel)⟩
theorem lw_p2 : lw_okq (⟨"WarnWave$Land", "chooseCalls", "()V"⟩, 14) := ⟨⟨by decide +kernel, by decide +kernel⟩, List.mem_of_getElem? (i := 27) (by decide +kernel), List.mem_of_getElem? (i := 447) (by decide +kernel), List.mem_of_getElem? (i := 448) (by decide +kernel)⟩
theorem lw_p3 : lw_okq (⟨"WarnWave$Land", "firstToCall", "(I)I"⟩, 14) := ⟨⟨by decide +kernel, by decide +kernel⟩, List.mem_of_getElem? (i := 27) (by decide +kernel), List.mem_of_getElem? (i := 451) (by decide +kernel), List.mem_of_getElem? (i := 452) (by decide +kernel)⟩
theorem lw_p4 : lw_okq (⟨"WarnWave$Land", "hearAll", "()V"⟩, 14) := ⟨⟨by decide +kernel, by decide +kernel⟩, List.mem_of_getElem? (i := 27) (by decide +kernel), List.mem_of_getElem? (i := 458) (by decide +kernel), List.mem_of_getElem? (i := 459) (by decide +kernel)⟩
theorem lw_p5 : lw_okq (⟨"WarnWave$Land", "publicWays", "(LWarnWave$Group;LWarnWave$Warning;ZZZ)I"⟩, 14) := ⟨⟨by decide +kernel, by decide +kernel⟩, List.mem_of_getElem? (i := 27) (by decide +kernel), List.mem_of_getElem? (i := 472) (by decide +kernel), List.mem_of_getElem? (i := 473) (by decide +kernel)⟩
theorem lw_p6 : lw_okq (⟨"WarnWave$Land", "hearOne", "(III)V"⟩, 14) := ⟨⟨by decide +kernel, by decide +kernel⟩, List.mem_of_getElem? (i := 27) (by decide +kernel), List.mem_of_getElem? (i := 476) (by decide +kernel), List.mem_of_getElem? (i := 477) (by decide +kernel)⟩
theorem lw_p7 : lw_okq (⟨"WarnWave$Land", "believingNeighbour", "(II)I"⟩, 14) := ⟨⟨by decide +kernel, by decide +kernel⟩, List.mem_of_getElem? (i := 27) (by decide +kernel), List.mem_of_getElem? (i := 480) (by decide +kernel), List.mem_of_getElem? (i := 481) (by decide +kernel)⟩
theorem lw_p8 : lw_okq (⟨"WarnWave$Land", "believeAll", "()I"⟩, 14) := ⟨⟨by decide +kernel, by decide +kernel⟩, List.mem_of_getElem? (i := 27) (by decide +kernel), List.mem_of_getElem? (i := 490) (by decide +kernel), List.mem_of_getElem? (i := 491) (by decide +kernel)⟩
theorem lw_p9 : lw_okq (⟨"WarnWave$Land", "believeOne", "(LWarnWave$Group;)I"⟩, 14) := ⟨⟨by decide +kernel, by decide +kernel⟩, List.mem_of_getElem? (i := 27) (by decide +kernel), List.mem_of_getElem? (i := 494) (by decide +kernel), List.mem_of_getElem? (i := 495) (by decide +kernel)⟩
theorem lw_p10 : lw_okq (⟨"WarnWave$Land", "goAll", "()V"⟩, 14) := ⟨⟨by decide +kernel, by decide +kernel⟩, List.mem_of_getElem? (i := 27) (by decide +kernel), List.mem_of_getElem? (i := 511) (by decide +kernel), List.mem_of_getElem? (i := 512) (by decide +kernel)⟩
theorem lw_p11 : lw_okq (⟨"WarnWave$Land", "goOne", "(LWarnWave$Group;)V"⟩, 14) := ⟨⟨by decide +kernel, by decide +kernel⟩, List.mem_of_getElem? (i := 27) (by decide +kernel), List.mem_of_getElem? (i := 515) (by decide +kernel), List.mem_of_getElem? (i := 516) (by decide +kernel)⟩
theorem lw_p12 : lw_okq (⟨"WarnWave$Land", "nearestWithRoom", "(LWarnWave$Group;)I"⟩, 14) := ⟨⟨by decide +kernel, by decide +kernel⟩, List.mem_of_getElem? (i := 27) (by decide +kernel), List.mem_of_getElem? (i := 519) (by decide +kernel), List.mem_of_getElem? (i := 520) (by decide +kernel)⟩
theorem lw_p13 : lw_okq (⟨"WarnWave$Land", "harmAll", "()V"⟩, 14) := ⟨⟨by decide +kernel, by decide +kernel⟩, List.mem_of_getElem? (i := 27) (by decide +kernel), List.mem_of_getElem? (i := 526) (by decide +kernel), List.mem_of_getElem? (i := 527) (by decide +kernel)⟩
theorem lw_p14 : lw_okq (⟨"WarnWave", "mixHeard", "(JI)J"⟩, 2) := ⟨⟨by decide +kernel, by decide +kernel⟩, List.mem_of_getElem? (i := 19) (by decide +kernel), List.mem_of_getElem? (i := 530) (by decide +kernel), List.mem_of_getElem? (i := 531) (by decide +kernel)⟩
theorem lw_p15 : lw_okq (⟨"WarnWave", "checkWarning", "(I)V"⟩, 2) := ⟨⟨by decide +kernel, by decide +kernel⟩, List.mem_of_getElem? (i := 19) (by decide +kernel), List.mem_of_getElem? (i := 538) (by decide +kernel), List.mem_of_getElem? (i := 539) (by decide +kernel)⟩
def lw_privs_1 : List (MethodName × Nat) := [(⟨"java/lang/Throwable", "fillInStackTrace", "(I)Ljava/lang/Throwable;"⟩, 6), (⟨"WarnWave", "checkGroup", "(I)V"⟩, 2), (⟨"WarnWave$Land", "chooseCalls", "()V"⟩, 14), (⟨"WarnWave$Land", "firstToCall", "(I)I"⟩, 14), (⟨"WarnWave$Land", "hearAll", "()V"⟩, 14), (⟨"WarnWave$Land", "publicWays", "(LWarnWave$Group;LWarnWave$Warning;ZZZ)I"⟩, 14), (⟨"WarnWave$Land", "hearOne", "(III)V"⟩, 14), (⟨"WarnWave$Land", "believingNeighbour", "(II)I"⟩, 14), (⟨"WarnWave$Land", "believeAll", "()I"⟩, 14), (⟨"WarnWave$Land", "believeOne", "(LWarnWave$Group;)I"⟩, 14), (⟨"WarnWave$Land", "goAll", "()V"⟩, 14), (⟨"WarnWave$Land", "goOne", "(LWarnWave$Group;)V"⟩, 14), (⟨"WarnWave$Land", "nearestWithRoom", "(LWarnWave$Group;)I"⟩, 14), (⟨"WarnWave$Land", "harmAll", "()V"⟩, 14), (⟨"WarnWave", "mixHeard", "(JI)J"⟩, 2), (⟨"WarnWave", "checkWarning", "(I)V"⟩, 2)]
theorem lw_r1 : ∀ q ∈ lw_privs_1, lw_okq q := List.forall_mem_cons.mpr ⟨lw_p0, List.forall_mem_cons.mpr ⟨lw_p1, List.forall_mem_cons.mpr ⟨lw_p2, List.forall_mem_cons.mpr ⟨lw_p3, List.forall_mem_cons.mpr ⟨lw_p4, List.forall_mem_cons.mpr ⟨lw_p5, List.forall_mem_cons.mpr ⟨lw_p6, List.forall_mem_cons.mpr ⟨lw_p7, List.forall_mem_cons.mpr ⟨lw_p8, List.forall_mem_cons.mpr ⟨lw_p9, List.forall_mem_cons.mpr ⟨lw_p10, List.forall_mem_cons.mpr ⟨lw_p11, List.forall_mem_cons.mpr ⟨lw_p12, List.forall_mem_cons.mpr ⟨lw_p13, List.forall_mem_cons.mpr ⟨lw_p14, List.forall_mem_cons.mpr ⟨lw_p15, fun _ h => absurd h List.not_mem_nil⟩⟩⟩⟩⟩⟩⟩⟩⟩⟩⟩⟩⟩⟩⟩⟩
theorem lw_p16 : lw_okq (⟨"WarnWave", "draft", "(IIIII)I"⟩, 2) := ⟨⟨by decide +kernel, by decide +kernel⟩, List.mem_of_getElem? (i := 19) (by decide +kernel), List.mem_of_getElem? (i := 686) (by decide +kernel), List.mem_of_getElem? (i := 687) (by decide +kernel)⟩
theorem lw_p17 : lw_okq (⟨"WarnWave", "checkInForce", "(I)V"⟩, 2) := ⟨⟨by decide +kernel, by decide +kernel⟩, List.mem_of_getElem? (i := 19) (by decide +kernel), List.mem_of_getElem? (i := 698) (by decide +kernel), List.mem_of_getElem? (i := 699) (by decide +kernel)⟩
theorem lw_p18 : lw_okq (⟨"WarnWave$Land", "isStillAbout", "(LWarnWave$Warning;)Z"⟩, 14) := ⟨⟨by decide +kernel, by decide +kernel⟩, List.mem_of_getElem? (i := 27) (by decide +kernel), List.mem_of_getElem? (i := 736) (by decide +kernel), List.mem_of_getElem? (i := 737) (by decide +kernel)⟩
theorem lw_p19 : lw_okq (⟨"WarnWave$Land", "judge", "(I)V"⟩, 14) := ⟨⟨by decide +kernel, by decide +kernel⟩, List.mem_of_getElem? (i := 27) (by decide +kernel), List.mem_of_getElem? (i := 745) (by decide +kernel), List.mem_of_getElem? (i := 746) (by decide +kernel)⟩
theorem lw_p20 : lw_okq (⟨"WarnWave$Land", "letOut", "()V"⟩, 14) := ⟨⟨by decide +kernel, by decide +kernel⟩, List.mem_of_getElem? (i := 27) (by decide +kernel), List.mem_of_getElem? (i := 753) (by decide +kernel), List.mem_of_getElem? (i := 754) (by decide +kernel)⟩
theorem lw_p21 : lw_okq (⟨"WarnWaveModel", "no", "(I)I"⟩, 3) := ⟨⟨by decide +kernel, by decide +kernel⟩, List.mem_of_getElem? (i := 823) (by decide +kernel), List.mem_of_getElem? (i := 924) (by decide +kernel), List.mem_of_getElem? (i := 925) (by decide +kernel)⟩
theorem lw_p22 : lw_okq (⟨"WarnWaveModel", "clear", "(II)V"⟩, 3) := ⟨⟨by decide +kernel, by decide +kernel⟩, List.mem_of_getElem? (i := 823) (by decide +kernel), List.mem_of_getElem? (i := 929) (by decide +kernel), List.mem_of_getElem? (i := 930) (by decide +kernel)⟩
theorem lw_p23 : lw_okq (⟨"WarnWaveModel", "isGroup", "(I)Z"⟩, 3) := ⟨⟨by decide +kernel, by decide +kernel⟩, List.mem_of_getElem? (i := 823) (by decide +kernel), List.mem_of_getElem? (i := 941) (by decide +kernel), List.mem_of_getElem? (i := 942) (by decide +kernel)⟩
theorem lw_p24 : lw_okq (⟨"WarnWaveModel", "draft", "(IIIII)I"⟩, 3) := ⟨⟨by decide +kernel, by decide +kernel⟩, List.mem_of_getElem? (i := 823) (by decide +kernel), List.mem_of_getElem? (i := 987) (by decide +kernel), List.mem_of_getElem? (i := 988) (by decide +kernel)⟩
theorem lw_p25 : lw_okq (⟨"WarnWaveModel", "isWarning", "(I)Z"⟩, 3) := ⟨⟨by decide +kernel, by decide +kernel⟩, List.mem_of_getElem? (i := 823) (by decide +kernel), List.mem_of_getElem? (i := 995) (by decide +kernel), List.mem_of_getElem? (i := 996) (by decide +kernel)⟩
theorem lw_p26 : lw_okq (⟨"WarnWaveModel", "lacking", "(I)I"⟩, 3) := ⟨⟨by decide +kernel, by decide +kernel⟩, List.mem_of_getElem? (i := 823) (by decide +kernel), List.mem_of_getElem? (i := 1011) (by decide +kernel), List.mem_of_getElem? (i := 1012) (by decide +kernel)⟩
theorem lw_p27 : lw_okq (⟨"WarnWaveModel", "cancelled", "([I)V"⟩, 3) := ⟨⟨by decide +kernel, by decide +kernel⟩, List.mem_of_getElem? (i := 823) (by decide +kernel), List.mem_of_getElem? (i := 1020) (by decide +kernel), List.mem_of_getElem? (i := 1021) (by decide +kernel)⟩
theorem lw_p28 : lw_okq (⟨"WarnWaveModel$Land", "toCall", "(I)I"⟩, 16) := ⟨⟨by decide +kernel, by decide +kernel⟩, List.mem_of_getElem? (i := 829) (by decide +kernel), List.mem_of_getElem? (i := 1061) (by decide +kernel), List.mem_of_getElem? (i := 1062) (by decide +kernel)⟩
theorem lw_p29 : lw_okq (⟨"WarnWaveModel$Land", "isMeant", "(II)Z"⟩, 16) := ⟨⟨by decide +kernel, by decide +kernel⟩, List.mem_of_getElem? (i := 829) (by decide +kernel), List.mem_of_getElem? (i := 1065) (by decide +kernel), List.mem_of_getElem? (i := 1066) (by decide +kernel)⟩
theorem lw_p30 : lw_okq (⟨"WarnWaveModel$Land", "isIn", "(II)Z"⟩, 16) := ⟨⟨by decide +kernel, by decide +kernel⟩, List.mem_of_getElem? (i := 829) (by decide +kernel), List.mem_of_getElem? (i := 1069) (by decide +kernel), List.mem_of_getElem? (i := 1070) (by decide +kernel)⟩
theorem lw_p31 : lw_okq (⟨"WarnWaveModel$Land", "hear", "(IIZZ)V"⟩, 16) := ⟨⟨by decide +kernel, by decide +kernel⟩, List.mem_of_getElem? (i := 829) (by decide +kernel), List.mem_of_getElem? (i := 1073) (by decide +kernel), List.mem_of_getElem? (i := 1074) (by decide +kernel)⟩
def lw_privs_2 : List (MethodName × Nat) := [(⟨"WarnWave", "draft", "(IIIII)I"⟩, 2), (⟨"WarnWave", "checkInForce", "(I)V"⟩, 2), (⟨"WarnWave$Land", "isStillAbout", "(LWarnWave$Warning;)Z"⟩, 14), (⟨"WarnWave$Land", "judge", "(I)V"⟩, 14), (⟨"WarnWave$Land", "letOut", "()V"⟩, 14), (⟨"WarnWaveModel", "no", "(I)I"⟩, 3), (⟨"WarnWaveModel", "clear", "(II)V"⟩, 3), (⟨"WarnWaveModel", "isGroup", "(I)Z"⟩, 3), (⟨"WarnWaveModel", "draft", "(IIIII)I"⟩, 3), (⟨"WarnWaveModel", "isWarning", "(I)Z"⟩, 3), (⟨"WarnWaveModel", "lacking", "(I)I"⟩, 3), (⟨"WarnWaveModel", "cancelled", "([I)V"⟩, 3), (⟨"WarnWaveModel$Land", "toCall", "(I)I"⟩, 16), (⟨"WarnWaveModel$Land", "isMeant", "(II)Z"⟩, 16), (⟨"WarnWaveModel$Land", "isIn", "(II)Z"⟩, 16), (⟨"WarnWaveModel$Land", "hear", "(IIZZ)V"⟩, 16)]
theorem lw_r2 : ∀ q ∈ lw_privs_2, lw_okq q := List.forall_mem_cons.mpr ⟨lw_p16, List.forall_mem_cons.mpr ⟨lw_p17, List.forall_mem_cons.mpr ⟨lw_p18, List.forall_mem_cons.mpr ⟨lw_p19, List.forall_mem_cons.mpr ⟨lw_p20, List.forall_mem_cons.mpr ⟨lw_p21, List.forall_mem_cons.mpr ⟨lw_p22, List.forall_mem_cons.mpr ⟨lw_p23, List.forall_mem_cons.mpr ⟨lw_p24, List.forall_mem_cons.mpr ⟨lw_p25, List.forall_mem_cons.mpr ⟨lw_p26, List.forall_mem_cons.mpr ⟨lw_p27, List.forall_mem_cons.mpr ⟨lw_p28, List.forall_mem_cons.mpr ⟨lw_p29, List.forall_mem_cons.mpr ⟨lw_p30, List.forall_mem_cons.mpr ⟨lw_p31, fun _ h => absurd h List.not_mem_nil⟩⟩⟩⟩⟩⟩⟩⟩⟩⟩⟩⟩⟩⟩⟩⟩
theorem lw_p32 : lw_okq (⟨"WarnWaveModel$Land", "neighbour", "(II)I"⟩, 16) := ⟨⟨by decide +kernel, by decide +kernel⟩, List.mem_of_getElem? (i := 829) (by decide +kernel), List.mem_of_getElem? (i := 1077) (by decide +kernel), List.mem_of_getElem? (i := 1078) (by decide +kernel)⟩
theorem lw_p33 : lw_okq (⟨"WarnWaveModel$Land", "believe", "(II)I"⟩, 16) := ⟨⟨by decide +kernel, by decide +kernel⟩, List.mem_of_getElem? (i := 829) (by decide +kernel), List.mem_of_getElem? (i := 1088) (by decide +kernel), List.mem_of_getElem? (i := 1089) (by decide +kernel)⟩
theorem lw_p34 : lw_okq (⟨"WarnWaveModel$Land", "go", "([II)V"⟩, 16) := ⟨⟨by decide +kernel, by decide +kernel⟩, List.mem_of_getElem? (i := 829) (by decide +kernel), List.mem_of_getElem? (i := 1093) (by decide +kernel), List.mem_of_getElem? (i := 1094) (by decide +kernel)⟩
theorem lw_p35 : lw_okq (⟨"WarnWaveModel", "inForceNow", "()I"⟩, 3) := ⟨⟨by decide +kernel, by decide +kernel⟩, List.mem_of_getElem? (i := 823) (by decide +kernel), List.mem_of_getElem? (i := 1102) (by decide +kernel), List.mem_of_getElem? (i := 1103) (by decide +kernel)⟩
theorem lw_p36 : lw_okq (⟨"WarnWaveModel", "groupNow", "(II)I"⟩, 3) := ⟨⟨by decide +kernel, by decide +kernel⟩, List.mem_of_getElem? (i := 823) (by decide +kernel), List.mem_of_getElem? (i := 1110) (by decide +kernel), List.mem_of_getElem? (i := 1111) (by decide +kernel)⟩
theorem lw_p37 : lw_okq (⟨"WarnWaveModel", "warningNow", "(II)I"⟩, 3) := ⟨⟨by decide +kernel, by decide +kernel⟩, List.mem_of_getElem? (i := 823) (by decide +kernel), List.mem_of_getElem? (i := 1123) (by decide +kernel), List.mem_of_getElem? (i := 1124) (by decide +kernel)⟩
theorem lw_p38 : lw_okq (⟨"WarnWaveModel", "forceNow", "(I)I"⟩, 3) := ⟨⟨by decide +kernel, by decide +kernel⟩, List.mem_of_getElem? (i := 823) (by decide +kernel), List.mem_of_getElem? (i := 1131) (by decide +kernel), List.mem_of_getElem? (i := 1132) (by decide +kernel)⟩
theorem lw_p39 : lw_okq (⟨"WarnWaveModel", "chainNow", "(II)I"⟩, 3) := ⟨⟨by decide +kernel, by decide +kernel⟩, List.mem_of_getElem? (i := 823) (by decide +kernel), List.mem_of_getElem? (i := 1143) (by decide +kernel), List.mem_of_getElem? (i := 1144) (by decide +kernel)⟩
theorem lw_p40 : lw_okq (⟨"WarnWaveModel", "manyNow", "(I)I"⟩, 3) := ⟨⟨by decide +kernel, by decide +kernel⟩, List.mem_of_getElem? (i := 823) (by decide +kernel), List.mem_of_getElem? (i := 1151) (by decide +kernel), List.mem_of_getElem? (i := 1152) (by decide +kernel)⟩
theorem lw_p41 : lw_okq (⟨"WarnWaveModel", "safeNow", "(II)I"⟩, 3) := ⟨⟨by decide +kernel, by decide +kernel⟩, List.mem_of_getElem? (i := 823) (by decide +kernel), List.mem_of_getElem? (i := 1163) (by decide +kernel), List.mem_of_getElem? (i := 1164) (by decide +kernel)⟩
theorem lw_p42 : lw_okq (⟨"WarnWaveModel", "sirenNow", "(III)I"⟩, 3) := ⟨⟨by decide +kernel, by decide +kernel⟩, List.mem_of_getElem? (i := 823) (by decide +kernel), List.mem_of_getElem? (i := 1178) (by decide +kernel), List.mem_of_getElem? (i := 1179) (by decide +kernel)⟩
def lw_privs_3 : List (MethodName × Nat) := [(⟨"WarnWaveModel$Land", "neighbour", "(II)I"⟩, 16), (⟨"WarnWaveModel$Land", "believe", "(II)I"⟩, 16), (⟨"WarnWaveModel$Land", "go", "([II)V"⟩, 16), (⟨"WarnWaveModel", "inForceNow", "()I"⟩, 3), (⟨"WarnWaveModel", "groupNow", "(II)I"⟩, 3), (⟨"WarnWaveModel", "warningNow", "(II)I"⟩, 3), (⟨"WarnWaveModel", "forceNow", "(I)I"⟩, 3), (⟨"WarnWaveModel", "chainNow", "(II)I"⟩, 3), (⟨"WarnWaveModel", "manyNow", "(I)I"⟩, 3), (⟨"WarnWaveModel", "safeNow", "(II)I"⟩, 3), (⟨"WarnWaveModel", "sirenNow", "(III)I"⟩, 3)]
theorem lw_r3 : ∀ q ∈ lw_privs_3, lw_okq q := List.forall_mem_cons.mpr ⟨lw_p32, List.forall_mem_cons.mpr ⟨lw_p33, List.forall_mem_cons.mpr ⟨lw_p34, List.forall_mem_cons.mpr ⟨lw_p35, List.forall_mem_cons.mpr ⟨lw_p36, List.forall_mem_cons.mpr ⟨lw_p37, List.forall_mem_cons.mpr ⟨lw_p38, List.forall_mem_cons.mpr ⟨lw_p39, List.forall_mem_cons.mpr ⟨lw_p40, List.forall_mem_cons.mpr ⟨lw_p41, List.forall_mem_cons.mpr ⟨lw_p42, fun _ h => absurd h List.not_mem_nil⟩⟩⟩⟩⟩⟩⟩⟩⟩⟩⟩
def lw_privs : List (MethodName × Nat) := lw_privs_1 ++ (lw_privs_2 ++ (lw_privs_3))
def lw_tbl : List Cond := k2_sels lw_privs ++ tables_1
theorem lw_privs_ok : ∀ q ∈ lw_privs, lw_okq q := by
  show ∀ q ∈ lw_privs_1 ++ (lw_privs_2 ++ (lw_privs_3)), lw_okq q
  exact List.forall_mem_append.mpr ⟨lw_r1, List.forall_mem_append.mpr ⟨lw_r2, lw_r3⟩⟩
/-- the streams that the claim lets the run draw from -/
abbrev lw_cs : List Choice := [Jvm.Choice.named "NaN.bits"]
theorem lw_bits : nanBits ∈ lw_cs := by first | decide | exact List.mem_cons_self | simp [lw_cs, nanBits]
def RX0 : String := "WarnWave$Group"
def TX0 : u_T := fun k => match k with
  | 0 => ("WarnWave$Group", "cell", "I", false)
  | 1 => ("WarnWave$Group", "people", "I", false)
  | 2 => ("WarnWave$Group", "tongue", "I", false)
  | 3 => ("WarnWave$Group", "trust", "I", false)
  | 4 => ("WarnWave$Group", "isDeaf", "Z", false)
  | 5 => ("WarnWave$Group", "hasRadio", "Z", false)
  | 6 => ("WarnWave$Group", "shelter", "I", false)
  | 7 => ("WarnWave$Group", "harm", "I", false)
  | 8 => ("WarnWave$Group", "ways", "[I", true)
  | 9 => ("WarnWave$Group", "heardAt", "[I", true)
  | 10 => ("WarnWave$Group", "heardBy", "[I", true)
  | 11 => ("WarnWave$Group", "heardFrom", "[I", true)
  | _ => ("WarnWave$Group", "believedAt", "[I", true)
def tyX0 : Nat → FieldType := fun k => match k with
  | 0 => .int
  | 1 => .int
  | 2 => .int
  | 3 => .int
  | 4 => .boolean
  | 5 => .boolean
  | 6 => .int
  | 7 => .int
  | 8 => .array .int
  | 9 => .array .int
  | 10 => .array .int
  | 11 => .array .int
  | _ => .array .int
abbrev wsX00 : List Cond := u_ws RX0 TX0 13
theorem nmX0 : ∀ a, a < 13 → ∀ b, b < 13 → a ≠ b → (TX0 a).2.1 ≠ (TX0 b).2.1 := by decide +kernel
theorem tyX0_ok : ∀ k, k < 13 → parseFieldDescriptor (TX0 k).2.2.1 = some (tyX0 k) := by decide +kernel
abbrev cX0_init : ByteArray := prog_2_method_1_code
def yX0_init : MethodName := ⟨RX0, "<init>", "()V"⟩
abbrev cX0_becomeLike : ByteArray := prog_2_method_2_code
def yX0_becomeLike : MethodName := ⟨RX0, "becomeLike", "(LWarnWave$Group;)V"⟩
abbrev cX0_isGone : ByteArray := prog_2_method_3_code
def yX0_isGone : MethodName := ⟨RX0, "isGone", "()Z"⟩
abbrev cX0_isSafe : ByteArray := prog_2_method_4_code
def yX0_isSafe : MethodName := ⟨RX0, "isSafe", "()Z"⟩
abbrev cX0_waysNeeded : ByteArray := prog_2_method_5_code
def yX0_waysNeeded : MethodName := ⟨RX0, "waysNeeded", "()I"⟩
abbrev cX0_noteWays : ByteArray := prog_2_method_6_code
def yX0_noteWays : MethodName := ⟨RX0, "noteWays", "(IIII)V"⟩
def RX1 : String := "WarnWave$Land"
def TX1 : u_T := fun k => match k with
  | 0 => ("WarnWave$Land", "now", "I", false)
  | 1 => ("WarnWave$Land", "lines", "I", false)
  | 2 => ("WarnWave$Land", "keys", "I", false)
  | 3 => ("WarnWave$Land", "callsMade", "I", false)
  | 4 => ("WarnWave$Land", "groupCount", "I", false)
  | 5 => ("WarnWave$Land", "shelterCount", "I", false)
  | 6 => ("WarnWave$Land", "warningCount", "I", false)
  | 7 => ("WarnWave$Land", "groups", "[LWarnWave$Group;", true)
  | 8 => ("WarnWave$Land", "shelters", "[LWarnWave$Shelter;", true)
  | 9 => ("WarnWave$Land", "warnings", "[LWarnWave$Warning;", true)
  | 10 => ("WarnWave$Land", "sirens", "LWarnWave$Senders;", true)
  | 11 => ("WarnWave$Land", "masts", "LWarnWave$Senders;", true)
  | 12 => ("WarnWave$Land", "dangerFrom", "[I", true)
  | _ => ("WarnWave$Land", "called", "[I", true)
def tyX1 : Nat → FieldType := fun k => match k with
  | 0 => .int
  | 1 => .int
  | 2 => .int
  | 3 => .int
  | 4 => .int
  | 5 => .int
  | 6 => .int
  | 7 => .array (.object "WarnWave$Group")
  | 8 => .array (.object "WarnWave$Shelter")
  | 9 => .array (.object "WarnWave$Warning")
  | 10 => .object "WarnWave$Senders"
  | 11 => .object "WarnWave$Senders"
  | 12 => .array .int
  | _ => .array .int
abbrev wsX10 : List Cond := u_ws RX1 TX1 14
theorem nmX1 : ∀ a, a < 14 → ∀ b, b < 14 → a ≠ b → (TX1 a).2.1 ≠ (TX1 b).2.1 := by decide +kernel
theorem tyX1_ok : ∀ k, k < 14 → parseFieldDescriptor (TX1 k).2.2.1 = some (tyX1 k) := by decide +kernel
abbrev cX1_init : ByteArray := prog_3_method_1_code
def yX1_init : MethodName := ⟨RX1, "<init>", "()V"⟩
abbrev cX1_becomeLike : ByteArray := prog_3_method_2_code
def yX1_becomeLike : MethodName := ⟨RX1, "becomeLike", "(LWarnWave$Land;)V"⟩
abbrev cX1_hourNow : ByteArray := prog_3_method_3_code
def yX1_hourNow : MethodName := ⟨RX1, "hourNow", "()I"⟩
abbrev cX1_isNight : ByteArray := prog_3_method_4_code
def yX1_isNight : MethodName := ⟨RX1, "isNight", "()Z"⟩
abbrev cX1_isAsleep : ByteArray := prog_3_method_5_code
def yX1_isAsleep : MethodName := ⟨RX1, "isAsleep", "(LWarnWave$Group;)Z"⟩
abbrev cX1_isInDanger : ByteArray := prog_3_method_6_code
def yX1_isInDanger : MethodName := ⟨RX1, "isInDanger", "(I)Z"⟩
abbrev cX1_cellsInDanger : ByteArray := prog_3_method_7_code
def yX1_cellsInDanger : MethodName := ⟨RX1, "cellsInDanger", "()I"⟩
abbrev cX1_latestBelieved : ByteArray := prog_3_method_8_code
def yX1_latestBelieved : MethodName := ⟨RX1, "latestBelieved", "(LWarnWave$Group;)I"⟩
abbrev cX1_countInForce : ByteArray := prog_3_method_9_code
def yX1_countInForce : MethodName := ⟨RX1, "countInForce", "()I"⟩
abbrev cX1_countAsleep : ByteArray := prog_3_method_10_code
def yX1_countAsleep : MethodName := ⟨RX1, "countAsleep", "()I"⟩
abbrev cX1_countBelievers : ByteArray := prog_3_method_11_code
def yX1_countBelievers : MethodName := ⟨RX1, "countBelievers", "(I)I"⟩
abbrev cX1_peopleOfAll : ByteArray := prog_3_method_12_code
def yX1_peopleOfAll : MethodName := ⟨RX1, "peopleOfAll", "()I"⟩
abbrev cX1_peopleSafe : ByteArray := prog_3_method_13_code
def yX1_peopleSafe : MethodName := ⟨RX1, "peopleSafe", "()I"⟩
abbrev cX1_peopleGone : ByteArray := prog_3_method_14_code
def yX1_peopleGone : MethodName := ⟨RX1, "peopleGone", "()I"⟩
abbrev cX1_peopleIn : ByteArray := prog_3_method_15_code
def yX1_peopleIn : MethodName := ⟨RX1, "peopleIn", "(I)I"⟩
abbrev cX1_peopleBelieving : ByteArray := prog_3_method_16_code
def yX1_peopleBelieving : MethodName := ⟨RX1, "peopleBelieving", "()I"⟩
abbrev cX1_keysLacking : ByteArray := prog_3_method_17_code
def yX1_keysLacking : MethodName := ⟨RX1, "keysLacking", "(LWarnWave$Warning;)I"⟩
abbrev cX1_isSendable : ByteArray := prog_3_method_18_code
def yX1_isSendable : MethodName := ⟨RX1, "isSendable", "(LWarnWave$Warning;)Z"⟩
abbrev cX1_isStillAbout : ByteArray := prog_3_method_19_code
def yX1_isStillAbout : MethodName := ⟨RX1, "isStillAbout", "(LWarnWave$Warning;)Z"⟩
abbrev cX1_sendOut : ByteArray := prog_3_method_20_code
def yX1_sendOut : MethodName := ⟨RX1, "sendOut", "(LWarnWave$Warning;)V"⟩
abbrev cX1_judge : ByteArray := prog_3_method_21_code
def yX1_judge : MethodName := ⟨RX1, "judge", "(I)V"⟩
abbrev cX1_letOut : ByteArray := prog_3_method_22_code
def yX1_letOut : MethodName := ⟨RX1, "letOut", "()V"⟩
abbrev cX1_playMinutes : ByteArray := prog_3_method_23_code
def yX1_playMinutes : MethodName := ⟨RX1, "playMinutes", "(I)I"⟩
abbrev cX1_chooseCalls : ByteArray := prog_3_method_24_code
def yX1_chooseCalls : MethodName := ⟨RX1, "chooseCalls", "()V"⟩
abbrev cX1_firstToCall : ByteArray := prog_3_method_25_code
def yX1_firstToCall : MethodName := ⟨RX1, "firstToCall", "(I)I"⟩
abbrev cX1_hearAll : ByteArray := prog_3_method_26_code
def yX1_hearAll : MethodName := ⟨RX1, "hearAll", "()V"⟩
abbrev cX1_publicWays : ByteArray := prog_3_method_27_code
def yX1_publicWays : MethodName := ⟨RX1, "publicWays", "(LWarnWave$Group;LWarnWave$Warning;ZZZ)I"⟩
abbrev cX1_hearOne : ByteArray := prog_3_method_28_code
def yX1_hearOne : MethodName := ⟨RX1, "hearOne", "(III)V"⟩
abbrev cX1_believingNeighbour : ByteArray := prog_3_method_29_code
def yX1_believingNeighbour : MethodName := ⟨RX1, "believingNeighbour", "(II)I"⟩
abbrev cX1_believeAll : ByteArray := prog_3_method_30_code
def yX1_believeAll : MethodName := ⟨RX1, "believeAll", "()I"⟩
abbrev cX1_believeOne : ByteArray := prog_3_method_31_code
def yX1_believeOne : MethodName := ⟨RX1, "believeOne", "(LWarnWave$Group;)I"⟩
abbrev cX1_goAll : ByteArray := prog_3_method_32_code
def yX1_goAll : MethodName := ⟨RX1, "goAll", "()V"⟩
abbrev cX1_goOne : ByteArray := prog_3_method_33_code
def yX1_goOne : MethodName := ⟨RX1, "goOne", "(LWarnWave$Group;)V"⟩
abbrev cX1_nearestWithRoom : ByteArray := prog_3_method_34_code
def yX1_nearestWithRoom : MethodName := ⟨RX1, "nearestWithRoom", "(LWarnWave$Group;)I"⟩
abbrev cX1_harmAll : ByteArray := prog_3_method_35_code
def yX1_harmAll : MethodName := ⟨RX1, "harmAll", "()V"⟩
def RX2 : String := "WarnWave$Senders"
def TX2 : u_T := fun k => match k with
  | 0 => ("WarnWave$Senders", "cells", "[I", true)
  | 1 => ("WarnWave$Senders", "reaches", "[I", true)
  | 2 => ("WarnWave$Senders", "hasPower", "[Z", true)
  | _ => ("WarnWave$Senders", "count", "I", false)
def tyX2 : Nat → FieldType := fun k => match k with
  | 0 => .array .int
  | 1 => .array .int
  | 2 => .array .boolean
  | _ => .int
abbrev wsX20 : List Cond := u_ws RX2 TX2 4
theorem nmX2 : ∀ a, a < 4 → ∀ b, b < 4 → a ≠ b → (TX2 a).2.1 ≠ (TX2 b).2.1 := by decide +kernel
theorem tyX2_ok : ∀ k, k < 4 → parseFieldDescriptor (TX2 k).2.2.1 = some (tyX2 k) := by decide +kernel
abbrev cX2_init : ByteArray := prog_4_method_1_code
def yX2_init : MethodName := ⟨RX2, "<init>", "()V"⟩
abbrev cX2_add : ByteArray := prog_4_method_2_code
def yX2_add : MethodName := ⟨RX2, "add", "(II)I"⟩
abbrev cX2_setPower : ByteArray := prog_4_method_3_code
def yX2_setPower : MethodName := ⟨RX2, "setPower", "(IZ)I"⟩
abbrev cX2_cellsReached : ByteArray := prog_4_method_4_code
def yX2_cellsReached : MethodName := ⟨RX2, "cellsReached", "()I"⟩
abbrev cX2_becomeLike : ByteArray := prog_4_method_5_code
def yX2_becomeLike : MethodName := ⟨RX2, "becomeLike", "(LWarnWave$Senders;)V"⟩
def RX3 : String := "WarnWave$Shelter"
def TX3 : u_T := fun k => match k with
  | 0 => ("WarnWave$Shelter", "cell", "I", false)
  | _ => ("WarnWave$Shelter", "room", "I", false)
def tyX3 : Nat → FieldType := fun k => match k with
  | 0 => .int
  | _ => .int
abbrev wsX30 : List Cond := u_ws RX3 TX3 2
theorem nmX3 : ∀ a, a < 2 → ∀ b, b < 2 → a ≠ b → (TX3 a).2.1 ≠ (TX3 b).2.1 := by decide +kernel
theorem tyX3_ok : ∀ k, k < 2 → parseFieldDescriptor (TX3 k).2.2.1 = some (tyX3 k) := by decide +kernel
abbrev cX3_init : ByteArray := prog_5_method_1_code
def yX3_init : MethodName := ⟨RX3, "<init>", "()V"⟩
def RX4 : String := "WarnWave$Warning"
def TX4 : u_T := fun k => match k with
  | 0 => ("WarnWave$Warning", "kind", "I", false)
  | 1 => ("WarnWave$Warning", "other", "I", false)
  | 2 => ("WarnWave$Warning", "area", "I", false)
  | 3 => ("WarnWave$Warning", "advice", "I", false)
  | 4 => ("WarnWave$Warning", "tongues", "I", false)
  | 5 => ("WarnWave$Warning", "approvals", "I", false)
  | 6 => ("WarnWave$Warning", "sentAt", "I", false)
  | _ => ("WarnWave$Warning", "isInForce", "Z", false)
def tyX4 : Nat → FieldType := fun k => match k with
  | 0 => .int
  | 1 => .int
  | 2 => .int
  | 3 => .int
  | 4 => .int
  | 5 => .int
  | 6 => .int
  | _ => .boolean
abbrev wsX40 : List Cond := u_ws RX4 TX4 8
theorem nmX4 : ∀ a, a < 8 → ∀ b, b < 8 → a ≠ b → (TX4 a).2.1 ≠ (TX4 b).2.1 := by decide +kernel
theorem tyX4_ok : ∀ k, k < 8 → parseFieldDescriptor (TX4 k).2.2.1 = some (tyX4 k) := by decide +kernel
abbrev cX4_init : ByteArray := prog_6_method_1_code
def yX4_init : MethodName := ⟨RX4, "<init>", "()V"⟩
abbrev cX4_becomeLike : ByteArray := prog_6_method_2_code
def yX4_becomeLike : MethodName := ⟨RX4, "becomeLike", "(LWarnWave$Warning;)V"⟩
def RX5 : String := "WarnWave"
def TX5 : u_T := fun k => match k with
  | 0 => ("WarnWave", "land", "LWarnWave$Land;", true)
  | _ => ("WarnWave", "trial", "LWarnWave$Land;", true)
def tyX5 : Nat → FieldType := fun k => match k with
  | 0 => .object "WarnWave$Land"
  | _ => .object "WarnWave$Land"
abbrev wsX50 : List Cond := u_ws RX5 TX5 2
theorem nmX5 : ∀ a, a < 2 → ∀ b, b < 2 → a ≠ b → (TX5 a).2.1 ≠ (TX5 b).2.1 := by decide +kernel
theorem tyX5_ok : ∀ k, k < 2 → parseFieldDescriptor (TX5 k).2.2.1 = some (tyX5 k) := by decide +kernel
abbrev cX5_init : ByteArray := prog_1_method_1_code
def yX5_init : MethodName := ⟨RX5, "<init>", "()V"⟩
abbrev cX5_group : ByteArray := prog_1_method_2_code
def yX5_group : MethodName := ⟨RX5, "group", "(IIIZZ)I"⟩
abbrev cX5_trust : ByteArray := prog_1_method_3_code
def yX5_trust : MethodName := ⟨RX5, "trust", "(II)I"⟩
abbrev cX5_shelter : ByteArray := prog_1_method_4_code
def yX5_shelter : MethodName := ⟨RX5, "shelter", "(II)I"⟩
abbrev cX5_siren : ByteArray := prog_1_method_5_code
def yX5_siren : MethodName := ⟨RX5, "siren", "(II)I"⟩
abbrev cX5_mast : ByteArray := prog_1_method_6_code
def yX5_mast : MethodName := ⟨RX5, "mast", "(II)I"⟩
abbrev cX5_power : ByteArray := prog_1_method_7_code
def yX5_power : MethodName := ⟨RX5, "power", "(IZ)I"⟩
abbrev cX5_lines : ByteArray := prog_1_method_8_code
def yX5_lines : MethodName := ⟨RX5, "lines", "(I)I"⟩
abbrev cX5_danger : ByteArray := prog_1_method_9_code
def yX5_danger : MethodName := ⟨RX5, "danger", "(II)I"⟩
abbrev cX5_key : ByteArray := prog_1_method_10_code
def yX5_key : MethodName := ⟨RX5, "key", "(IZ)Z"⟩
abbrev cX5_alert : ByteArray := prog_1_method_11_code
def yX5_alert : MethodName := ⟨RX5, "alert", "(III)I"⟩
abbrev cX5_update : ByteArray := prog_1_method_12_code
def yX5_update : MethodName := ⟨RX5, "update", "(IIII)I"⟩
abbrev cX5_cancel : ByteArray := prog_1_method_13_code
def yX5_cancel : MethodName := ⟨RX5, "cancel", "(I)I"⟩
abbrev cX5_approve : ByteArray := prog_1_method_14_code
def yX5_approve : MethodName := ⟨RX5, "approve", "(II)I"⟩
abbrev cX5_send : ByteArray := prog_1_method_15_code
def yX5_send : MethodName := ⟨RX5, "send", "(I)I"⟩
abbrev cX5_pass : ByteArray := prog_1_method_16_code
def yX5_pass : MethodName := ⟨RX5, "pass", "(I)I"⟩
abbrev cX5_until : ByteArray := prog_1_method_17_code
def yX5_until : MethodName := ⟨RX5, "until", "(I)I"⟩
abbrev cX5_ofGroup : ByteArray := prog_1_method_18_code
def yX5_ofGroup : MethodName := ⟨RX5, "ofGroup", "(II)I"⟩
abbrev cX5_heard : ByteArray := prog_1_method_19_code
def yX5_heard : MethodName := ⟨RX5, "heard", "(III)I"⟩
abbrev cX5_ofWarning : ByteArray := prog_1_method_20_code
def yX5_ofWarning : MethodName := ⟨RX5, "ofWarning", "(II)I"⟩
abbrev cX5_inForce : ByteArray := prog_1_method_21_code
def yX5_inForce : MethodName := ⟨RX5, "inForce", "(I)I"⟩
abbrev cX5_roomIn : ByteArray := prog_1_method_22_code
def yX5_roomIn : MethodName := ⟨RX5, "roomIn", "(I)I"⟩
abbrev cX5_chain : ByteArray := prog_1_method_23_code
def yX5_chain : MethodName := ⟨RX5, "chain", "(II)I"⟩
abbrev cX5_many : ByteArray := prog_1_method_24_code
def yX5_many : MethodName := ⟨RX5, "many", "(I)I"⟩
abbrev cX5_meanDelay : ByteArray := prog_1_method_25_code
def yX5_meanDelay : MethodName := ⟨RX5, "meanDelay", "(I)D"⟩
abbrev cX5_safeIn : ByteArray := prog_1_method_26_code
def yX5_safeIn : MethodName := ⟨RX5, "safeIn", "(II)I"⟩
abbrev cX5_sirenWould : ByteArray := prog_1_method_27_code
def yX5_sirenWould : MethodName := ⟨RX5, "sirenWould", "(III)I"⟩
abbrev cX5_digest : ByteArray := prog_1_method_28_code
def yX5_digest : MethodName := ⟨RX5, "digest", "()J"⟩
abbrev cX5_mixHeard : ByteArray := prog_1_method_29_code
def yX5_mixHeard : MethodName := ⟨RX5, "mixHeard", "(JI)J"⟩
abbrev cX5_mix : ByteArray := prog_1_method_30_code
def yX5_mix : MethodName := ⟨RX5, "mix", "(JI)J"⟩
abbrev cX5_draft : ByteArray := prog_1_method_31_code
def yX5_draft : MethodName := ⟨RX5, "draft", "(IIIII)I"⟩
abbrev cX5_checkCell : ByteArray := prog_1_method_32_code
def yX5_checkCell : MethodName := ⟨RX5, "checkCell", "(I)V"⟩
abbrev cX5_checkOfficer : ByteArray := prog_1_method_33_code
def yX5_checkOfficer : MethodName := ⟨RX5, "checkOfficer", "(I)V"⟩
abbrev cX5_checkGroup : ByteArray := prog_1_method_34_code
def yX5_checkGroup : MethodName := ⟨RX5, "checkGroup", "(I)V"⟩
abbrev cX5_checkWarning : ByteArray := prog_1_method_35_code
def yX5_checkWarning : MethodName := ⟨RX5, "checkWarning", "(I)V"⟩
abbrev cX5_checkInForce : ByteArray := prog_1_method_36_code
def yX5_checkInForce : MethodName := ⟨RX5, "checkInForce", "(I)V"⟩
abbrev cX5_checkWords : ByteArray := prog_1_method_37_code
def yX5_checkWords : MethodName := ⟨RX5, "checkWords", "(III)V"⟩
abbrev cX5_checkRange : ByteArray := prog_1_method_38_code
def yX5_checkRange : MethodName := ⟨RX5, "checkRange", "(III)V"⟩
abbrev cX5_isIn : ByteArray := prog_1_method_39_code
def yX5_isIn : MethodName := ⟨RX5, "isIn", "(II)Z"⟩
abbrev cX5_distance : ByteArray := prog_1_method_40_code
def yX5_distance : MethodName := ⟨RX5, "distance", "(II)I"⟩
abbrev cX5_stepTowards : ByteArray := prog_1_method_41_code
def yX5_stepTowards : MethodName := ⟨RX5, "stepTowards", "(II)I"⟩
def RX6 : String := "WarnWaveModel$Land"
def TX6 : u_T := fun k => match k with
  | 0 => ("WarnWaveModel$Land", "groups", "[[I", true)
  | 1 => ("WarnWaveModel$Land", "warnings", "[[I", true)
  | 2 => ("WarnWaveModel$Land", "heard", "[[I", true)
  | 3 => ("WarnWaveModel$Land", "shelters", "[[I", true)
  | 4 => ("WarnWaveModel$Land", "sirens", "[[I", true)
  | 5 => ("WarnWaveModel$Land", "masts", "[[I", true)
  | 6 => ("WarnWaveModel$Land", "danger", "[I", true)
  | 7 => ("WarnWaveModel$Land", "believed", "[Z", true)
  | 8 => ("WarnWaveModel$Land", "now", "I", false)
  | 9 => ("WarnWaveModel$Land", "groupCount", "I", false)
  | 10 => ("WarnWaveModel$Land", "warningCount", "I", false)
  | 11 => ("WarnWaveModel$Land", "shelterCount", "I", false)
  | 12 => ("WarnWaveModel$Land", "sirenCount", "I", false)
  | 13 => ("WarnWaveModel$Land", "mastCount", "I", false)
  | 14 => ("WarnWaveModel$Land", "lines", "I", false)
  | _ => ("WarnWaveModel$Land", "calls", "I", false)
def tyX6 : Nat → FieldType := fun k => match k with
  | 0 => .array (.array .int)
  | 1 => .array (.array .int)
  | 2 => .array (.array .int)
  | 3 => .array (.array .int)
  | 4 => .array (.array .int)
  | 5 => .array (.array .int)
  | 6 => .array .int
  | 7 => .array .boolean
  | 8 => .int
  | 9 => .int
  | 10 => .int
  | 11 => .int
  | 12 => .int
  | 13 => .int
  | 14 => .int
  | _ => .int
abbrev wsX60 : List Cond := u_ws RX6 TX6 16
theorem nmX6 : ∀ a, a < 16 → ∀ b, b < 16 → a ≠ b → (TX6 a).2.1 ≠ (TX6 b).2.1 := by decide +kernel
theorem tyX6_ok : ∀ k, k < 16 → parseFieldDescriptor (TX6 k).2.2.1 = some (tyX6 k) := by decide +kernel
abbrev cX6_init : ByteArray := prog_9_method_1_code
def yX6_init : MethodName := ⟨RX6, "<init>", "()V"⟩
abbrev cX6_copy : ByteArray := prog_9_method_2_code
def yX6_copy : MethodName := ⟨RX6, "copy", "()LWarnWaveModel$Land;"⟩
abbrev cX6_isInForce : ByteArray := prog_9_method_3_code
def yX6_isInForce : MethodName := ⟨RX6, "isInForce", "(I)Z"⟩
abbrev cX6_isGone : ByteArray := prog_9_method_4_code
def yX6_isGone : MethodName := ⟨RX6, "isGone", "(I)Z"⟩
abbrev cX6_of : ByteArray := prog_9_method_5_code
def yX6_of : MethodName := ⟨RX6, "of", "(II)[I"⟩
abbrev cX6_believes : ByteArray := prog_9_method_6_code
def yX6_believes : MethodName := ⟨RX6, "believes", "(II)Z"⟩
abbrev cX6_latest : ByteArray := prog_9_method_7_code
def yX6_latest : MethodName := ⟨RX6, "latest", "(I)I"⟩
abbrev cX6_sleeps : ByteArray := prog_9_method_8_code
def yX6_sleeps : MethodName := ⟨RX6, "sleeps", "(I)Z"⟩
abbrev cX6_isDanger : ByteArray := prog_9_method_9_code
def yX6_isDanger : MethodName := ⟨RX6, "isDanger", "(I)Z"⟩
abbrev cX6_reaches : ByteArray := prog_9_method_10_code
def yX6_reaches : MethodName := ⟨RX6, "reaches", "([[III)Z"⟩
abbrev cX6_minute : ByteArray := prog_9_method_11_code
def yX6_minute : MethodName := ⟨RX6, "minute", "()I"⟩
abbrev cX6_isMeant : ByteArray := prog_9_method_12_code
def yX6_isMeant : MethodName := ⟨RX6, "isMeant", "(II)Z"⟩
abbrev cX6_isIn : ByteArray := prog_9_method_13_code
def yX6_isIn : MethodName := ⟨RX6, "isIn", "(II)Z"⟩
abbrev cX6_toCall : ByteArray := prog_9_method_14_code
def yX6_toCall : MethodName := ⟨RX6, "toCall", "(I)I"⟩
abbrev cX6_neighbour : ByteArray := prog_9_method_15_code
def yX6_neighbour : MethodName := ⟨RX6, "neighbour", "(II)I"⟩
abbrev cX6_hear : ByteArray := prog_9_method_16_code
def yX6_hear : MethodName := ⟨RX6, "hear", "(IIZZ)V"⟩
abbrev cX6_believe : ByteArray := prog_9_method_17_code
def yX6_believe : MethodName := ⟨RX6, "believe", "(II)I"⟩
abbrev cX6_go : ByteArray := prog_9_method_18_code
def yX6_go : MethodName := ⟨RX6, "go", "([II)V"⟩
abbrev cX6_believers : ByteArray := prog_9_method_19_code
def yX6_believers : MethodName := ⟨RX6, "believers", "()I"⟩
def RX7 : String := "WarnWaveModel"
def TX7 : u_T := fun k => match k with
  | 0 => ("WarnWaveModel", "thrown", "I", false)
  | 1 => ("WarnWaveModel", "land", "LWarnWaveModel$Land;", true)
  | _ => ("WarnWaveModel", "keys", "I", false)
def tyX7 : Nat → FieldType := fun k => match k with
  | 0 => .int
  | 1 => .object "WarnWaveModel$Land"
  | _ => .int
abbrev wsX70 : List Cond := u_ws RX7 TX7 3
theorem nmX7 : ∀ a, a < 3 → ∀ b, b < 3 → a ≠ b → (TX7 a).2.1 ≠ (TX7 b).2.1 := by decide +kernel
theorem tyX7_ok : ∀ k, k < 3 → parseFieldDescriptor (TX7 k).2.2.1 = some (tyX7 k) := by decide +kernel
abbrev cX7_init : ByteArray := prog_8_method_1_code
def yX7_init : MethodName := ⟨RX7, "<init>", "()V"⟩
abbrev cX7_thrown : ByteArray := prog_8_method_2_code
def yX7_thrown : MethodName := ⟨RX7, "thrown", "()I"⟩
abbrev cX7_no : ByteArray := prog_8_method_3_code
def yX7_no : MethodName := ⟨RX7, "no", "(I)I"⟩
abbrev cX7_in : ByteArray := prog_8_method_4_code
def yX7_in : MethodName := ⟨RX7, "in", "(III)Z"⟩
abbrev cX7_far : ByteArray := prog_8_method_5_code
def yX7_far : MethodName := ⟨RX7, "far", "(II)I"⟩
abbrev cX7_isNight : ByteArray := prog_8_method_6_code
def yX7_isNight : MethodName := ⟨RX7, "isNight", "(I)Z"⟩
abbrev cX7_isCell : ByteArray := prog_8_method_7_code
def yX7_isCell : MethodName := ⟨RX7, "isCell", "(I)Z"⟩
abbrev cX7_isGroup : ByteArray := prog_8_method_8_code
def yX7_isGroup : MethodName := ⟨RX7, "isGroup", "(I)Z"⟩
abbrev cX7_isWarning : ByteArray := prog_8_method_9_code
def yX7_isWarning : MethodName := ⟨RX7, "isWarning", "(I)Z"⟩
abbrev cX7_group : ByteArray := prog_8_method_10_code
def yX7_group : MethodName := ⟨RX7, "group", "(IIIZZ)I"⟩
abbrev cX7_clear : ByteArray := prog_8_method_11_code
def yX7_clear : MethodName := ⟨RX7, "clear", "(II)V"⟩
abbrev cX7_trust : ByteArray := prog_8_method_12_code
def yX7_trust : MethodName := ⟨RX7, "trust", "(II)I"⟩
abbrev cX7_shelter : ByteArray := prog_8_method_13_code
def yX7_shelter : MethodName := ⟨RX7, "shelter", "(II)I"⟩
abbrev cX7_lay : ByteArray := prog_8_method_14_code
def yX7_lay : MethodName := ⟨RX7, "lay", "([III)V"⟩
abbrev cX7_siren : ByteArray := prog_8_method_15_code
def yX7_siren : MethodName := ⟨RX7, "siren", "(II)I"⟩
abbrev cX7_mast : ByteArray := prog_8_method_16_code
def yX7_mast : MethodName := ⟨RX7, "mast", "(II)I"⟩
abbrev cX7_power : ByteArray := prog_8_method_17_code
def yX7_power : MethodName := ⟨RX7, "power", "([[IIII)I"⟩
abbrev cX7_power_ : ByteArray := prog_8_method_18_code
def yX7_power_ : MethodName := ⟨RX7, "power", "(IZ)I"⟩
abbrev cX7_lines : ByteArray := prog_8_method_19_code
def yX7_lines : MethodName := ⟨RX7, "lines", "(I)I"⟩
abbrev cX7_danger : ByteArray := prog_8_method_20_code
def yX7_danger : MethodName := ⟨RX7, "danger", "(II)I"⟩
abbrev cX7_key : ByteArray := prog_8_method_21_code
def yX7_key : MethodName := ⟨RX7, "key", "(IZ)Z"⟩
abbrev cX7_isText : ByteArray := prog_8_method_22_code
def yX7_isText : MethodName := ⟨RX7, "isText", "(III)Z"⟩
abbrev cX7_draft : ByteArray := prog_8_method_23_code
def yX7_draft : MethodName := ⟨RX7, "draft", "(IIIII)I"⟩
abbrev cX7_alert : ByteArray := prog_8_method_24_code
def yX7_alert : MethodName := ⟨RX7, "alert", "(III)I"⟩
abbrev cX7_update : ByteArray := prog_8_method_25_code
def yX7_update : MethodName := ⟨RX7, "update", "(IIII)I"⟩
abbrev cX7_cancel : ByteArray := prog_8_method_26_code
def yX7_cancel : MethodName := ⟨RX7, "cancel", "(I)I"⟩
abbrev cX7_lacking : ByteArray := prog_8_method_27_code
def yX7_lacking : MethodName := ⟨RX7, "lacking", "(I)I"⟩
abbrev cX7_approve : ByteArray := prog_8_method_28_code
def yX7_approve : MethodName := ⟨RX7, "approve", "(II)I"⟩
abbrev cX7_send : ByteArray := prog_8_method_29_code
def yX7_send : MethodName := ⟨RX7, "send", "(I)I"⟩
abbrev cX7_cancelled : ByteArray := prog_8_method_30_code
def yX7_cancelled : MethodName := ⟨RX7, "cancelled", "([I)V"⟩
abbrev cX7_pass : ByteArray := prog_8_method_31_code
def yX7_pass : MethodName := ⟨RX7, "pass", "(I)I"⟩
abbrev cX7_inForceNow : ByteArray := prog_8_method_32_code
def yX7_inForceNow : MethodName := ⟨RX7, "inForceNow", "()I"⟩
abbrev cX7_until : ByteArray := prog_8_method_33_code
def yX7_until : MethodName := ⟨RX7, "until", "(I)I"⟩
abbrev cX7_groupNow : ByteArray := prog_8_method_34_code
def yX7_groupNow : MethodName := ⟨RX7, "groupNow", "(II)I"⟩
abbrev cX7_ofGroup : ByteArray := prog_8_method_35_code
def yX7_ofGroup : MethodName := ⟨RX7, "ofGroup", "(II)I"⟩
abbrev cX7_heard : ByteArray := prog_8_method_36_code
def yX7_heard : MethodName := ⟨RX7, "heard", "(III)I"⟩
abbrev cX7_warningNow : ByteArray := prog_8_method_37_code
def yX7_warningNow : MethodName := ⟨RX7, "warningNow", "(II)I"⟩
abbrev cX7_ofWarning : ByteArray := prog_8_method_38_code
def yX7_ofWarning : MethodName := ⟨RX7, "ofWarning", "(II)I"⟩
abbrev cX7_forceNow : ByteArray := prog_8_method_39_code
def yX7_forceNow : MethodName := ⟨RX7, "forceNow", "(I)I"⟩
abbrev cX7_inForce : ByteArray := prog_8_method_40_code
def yX7_inForce : MethodName := ⟨RX7, "inForce", "(I)I"⟩
abbrev cX7_roomIn : ByteArray := prog_8_method_41_code
def yX7_roomIn : MethodName := ⟨RX7, "roomIn", "(I)I"⟩
abbrev cX7_chainNow : ByteArray := prog_8_method_42_code
def yX7_chainNow : MethodName := ⟨RX7, "chainNow", "(II)I"⟩
abbrev cX7_chain : ByteArray := prog_8_method_43_code
def yX7_chain : MethodName := ⟨RX7, "chain", "(II)I"⟩
abbrev cX7_manyNow : ByteArray := prog_8_method_44_code
def yX7_manyNow : MethodName := ⟨RX7, "manyNow", "(I)I"⟩
abbrev cX7_many : ByteArray := prog_8_method_45_code
def yX7_many : MethodName := ⟨RX7, "many", "(I)I"⟩
abbrev cX7_meanDelay : ByteArray := prog_8_method_46_code
def yX7_meanDelay : MethodName := ⟨RX7, "meanDelay", "(I)D"⟩
abbrev cX7_safeNow : ByteArray := prog_8_method_47_code
def yX7_safeNow : MethodName := ⟨RX7, "safeNow", "(II)I"⟩
abbrev cX7_safeIn : ByteArray := prog_8_method_48_code
def yX7_safeIn : MethodName := ⟨RX7, "safeIn", "(II)I"⟩
abbrev cX7_sirenNow : ByteArray := prog_8_method_49_code
def yX7_sirenNow : MethodName := ⟨RX7, "sirenNow", "(III)I"⟩
abbrev cX7_sirenWould : ByteArray := prog_8_method_50_code
def yX7_sirenWould : MethodName := ⟨RX7, "sirenWould", "(III)I"⟩
abbrev cX7_digest : ByteArray := prog_8_method_51_code
def yX7_digest : MethodName := ⟨RX7, "digest", "()J"⟩
def RJ6 : String := "java/lang/Integer"
abbrev cJ6_bitCount_0f7a4 : ByteArray := prog_14_method_49_code
def yJ6_bitCount_0f7a4 : MethodName := ⟨RJ6, "bitCount", "(I)I"⟩
def RJ9 : String := "java/lang/Math"
abbrev cJ9_floorMod_7cf53 : ByteArray := prog_15_method_50_code
def yJ9_floorMod_7cf53 : MethodName := ⟨RJ9, "floorMod", "(II)I"⟩
abbrev cJ9_abs_0f7a4 : ByteArray := prog_15_method_59_code
def yJ9_abs_0f7a4 : MethodName := ⟨RJ9, "abs", "(I)I"⟩
abbrev cJ9_max_7cf53 : ByteArray := prog_15_method_65_code
def yJ9_max_7cf53 : MethodName := ⟨RJ9, "max", "(II)I"⟩
abbrev cJ9_min_7cf53 : ByteArray := prog_15_method_69_code
def yJ9_min_7cf53 : MethodName := ⟨RJ9, "min", "(II)I"⟩
def RJ0 : String := "java/lang/String"
def RJ10 : String := "java/lang/System"
def RL : String := "WarnWaveLaw"
abbrev cL_group : ByteArray := method_3_code
def yL_group : MethodName := ⟨RL, "group", "(LWarnWave;IIIZZ[J)I"⟩
abbrev cL_trust : ByteArray := method_4_code
def yL_trust : MethodName := ⟨RL, "trust", "(LWarnWave;II[J)I"⟩
abbrev cL_shelter : ByteArray := method_5_code
def yL_shelter : MethodName := ⟨RL, "shelter", "(LWarnWave;II[J)I"⟩
abbrev cL_siren : ByteArray := method_6_code
def yL_siren : MethodName := ⟨RL, "siren", "(LWarnWave;II[J)I"⟩
abbrev cL_mast : ByteArray := method_7_code
def yL_mast : MethodName := ⟨RL, "mast", "(LWarnWave;II[J)I"⟩
abbrev cL_power : ByteArray := method_8_code
def yL_power : MethodName := ⟨RL, "power", "(LWarnWave;IZ[J)I"⟩
abbrev cL_lines : ByteArray := method_9_code
def yL_lines : MethodName := ⟨RL, "lines", "(LWarnWave;I[J)I"⟩
abbrev cL_danger : ByteArray := method_10_code
def yL_danger : MethodName := ⟨RL, "danger", "(LWarnWave;II[J)I"⟩
abbrev cL_key : ByteArray := method_11_code
def yL_key : MethodName := ⟨RL, "key", "(LWarnWave;IZ[J)I"⟩
abbrev cL_alert : ByteArray := method_12_code
def yL_alert : MethodName := ⟨RL, "alert", "(LWarnWave;III[J)I"⟩
abbrev cL_update : ByteArray := method_13_code
def yL_update : MethodName := ⟨RL, "update", "(LWarnWave;IIII[J)I"⟩
abbrev cL_cancel : ByteArray := method_14_code
def yL_cancel : MethodName := ⟨RL, "cancel", "(LWarnWave;I[J)I"⟩
abbrev cL_approve : ByteArray := method_15_code
def yL_approve : MethodName := ⟨RL, "approve", "(LWarnWave;II[J)I"⟩
abbrev cL_send : ByteArray := method_16_code
def yL_send : MethodName := ⟨RL, "send", "(LWarnWave;I[J)I"⟩
abbrev cL_pass : ByteArray := method_17_code
def yL_pass : MethodName := ⟨RL, "pass", "(LWarnWave;I[J)I"⟩
abbrev cL_until : ByteArray := method_18_code
def yL_until : MethodName := ⟨RL, "until", "(LWarnWave;I[J)I"⟩
abbrev cL_ofGroup : ByteArray := method_19_code
def yL_ofGroup : MethodName := ⟨RL, "ofGroup", "(LWarnWave;II[J)I"⟩
abbrev cL_heard : ByteArray := method_20_code
def yL_heard : MethodName := ⟨RL, "heard", "(LWarnWave;III[J)I"⟩
abbrev cL_ofWarning : ByteArray := method_21_code
def yL_ofWarning : MethodName := ⟨RL, "ofWarning", "(LWarnWave;II[J)I"⟩
abbrev cL_inForce : ByteArray := method_22_code
def yL_inForce : MethodName := ⟨RL, "inForce", "(LWarnWave;I[J)I"⟩
abbrev cL_roomIn : ByteArray := method_23_code
def yL_roomIn : MethodName := ⟨RL, "roomIn", "(LWarnWave;I[J)I"⟩
abbrev cL_chain : ByteArray := method_24_code
def yL_chain : MethodName := ⟨RL, "chain", "(LWarnWave;II[J)I"⟩
abbrev cL_many : ByteArray := method_25_code
def yL_many : MethodName := ⟨RL, "many", "(LWarnWave;I[J)I"⟩
abbrev cL_meanDelay : ByteArray := method_26_code
def yL_meanDelay : MethodName := ⟨RL, "meanDelay", "(LWarnWave;I[D)I"⟩
abbrev cL_safeIn : ByteArray := method_27_code
def yL_safeIn : MethodName := ⟨RL, "safeIn", "(LWarnWave;II[J)I"⟩
abbrev cL_sirenWould : ByteArray := method_28_code
def yL_sirenWould : MethodName := ⟨RL, "sirenWould", "(LWarnWave;III[J)I"⟩
abbrev cL_law : ByteArray := code
def yL_law : MethodName := ⟨RL, "law", "([I)Z"⟩
end
section
/-! A small machine over names: what a method does to a world of fixed shape, as a pure predicate (vg_Go), and that the machine does it (vg_met). A name stands for a cell; a world is the ints of all cells. -/
abbrev vgN : Type := Nat × Nat × Nat
abbrev vgV : Type := Value ⊕ vgN
abbrev vgL : Type := List (Nat × vgV)
abbrev vgT : Type := List vgV
abbrev vgS : Type := vgN → Nat → Int32
abbrev vgH : Type := (Nat × List (Option vgN)) ⊕ ((Nat × Nat) ⊕ (Nat × Nat × (Nat → vgN)))
abbrev vgK : Type := Nat → vgL → vgT → vgS → Prop
abbrev vgO : Type := Option vgV → vgS → Prop
abbrev vgF : Type := vgO → vgK → vgL → vgT → vgS → Prop
def vg_look {α : Type} : List (Nat × α) → Nat → Option α
  | [], _ => none
  | q :: t, i => bif Nat.beq q.1 i then some q.2 else vg_look t i
theorem vg_look_mem {α : Type} {i : Nat} {a : α} : ∀ {l : List (Nat × α)}, vg_look l i = some a → (i, a) ∈ l
  | [], h => by cases h
  | q :: t, h => by
    unfold vg_look at h
    cases hq : Nat.beq q.1 i with
    | true =>
      rw [hq] at h
      cases h
      have e : q.1 = i := Nat.eq_of_beq_eq_true hq
      rw [← e]
      exact List.mem_cons_self
    | false =>
      rw [hq] at h
      exact List.mem_cons_of_mem _ (vg_look_mem h)
/-- a name's address, a value's -/
def vg_cv (ad : vgN → Nat) : vgV → Value
  | .inl v => v
  | .inr n => .ref (ad n)
def vg_ok (nm : List vgN) : vgV → Prop
  | .inl _ => True
  | .inr n => n ∈ nm
def vg_c2 : vgV → Bool
  | .inl (.long _) => true
  | .inl (.double _) => true
  | _ => false
theorem vg_c2_eq (ad : vgN → Nat) (v : vgV) : ((vg_cv ad v).category == 2) = vg_c2 v := by
  cases v with
  | inl v => cases v <;> rfl
  | inr n => rfl
def vg_put (lv : vgL) (i : Nat) (v : vgV) : vgL := (i, v) :: lv.filter (fun q => !(q.1 == i) && !(q.1 + 1 == i && vg_c2 q.2))
def vg_put2 (lv : vgL) (i : Nat) (v : vgV) : vgL := (i, v) :: lv.filter (fun q => !(q.1 == i) && (!(q.1 == i + 1) && !(q.1 + 1 == i && vg_c2 q.2)))
def vg_lm (ad : vgN → Nat) (lv : vgL) : List (Nat × Value) := lv.map (fun q => (q.1, vg_cv ad q.2))
theorem vg_lm_put (ad : vgN → Nat) (lv : vgL) (i : Nat) (v : vgV) : (i, vg_cv ad v) :: (vg_lm ad lv).filter (fun q => !(q.1 == i) && !(q.1 + 1 == i && q.2.category == 2)) = vg_lm ad (vg_put lv i v) := by
  unfold vg_lm vg_put
  rw [List.map_cons, List.filter_map]
  congr 2
  apply List.filter_congr
  intro q _
  show (!(q.1 == i) && !(q.1 + 1 == i && (vg_cv ad q.2).category == 2)) = _
  rw [vg_c2_eq]
theorem vg_lm_put2 (ad : vgN → Nat) (lv : vgL) (i : Nat) (v : vgV) : (i, vg_cv ad v) :: (vg_lm ad lv).filter (fun q => !(q.1 == i) && (!(q.1 == i + 1) && !(q.1 + 1 == i && q.2.category == 2))) = vg_lm ad (vg_put2 lv i v) := by
  unfold vg_lm vg_put2
  rw [List.map_cons, List.filter_map]
  congr 2
  apply List.filter_congr
  intro q _
  show (!(q.1 == i) && (!(q.1 == i + 1) && !(q.1 + 1 == i && (vg_cv ad q.2).category == 2))) = _
  rw [vg_c2_eq]
theorem vg_ok_put {nm : List vgN} {lv : vgL} {i : Nat} {v : vgV} (h : ∀ q ∈ lv, vg_ok nm q.2) (hv : vg_ok nm v) : ∀ q ∈ vg_put lv i v, vg_ok nm q.2 := by
  intro q hq
  rcases List.mem_cons.mp hq with rfl | hq
  · exact hv
  · exact h q (List.mem_filter.mp hq).1
theorem vg_ok_put2 {nm : List vgN} {lv : vgL} {i : Nat} {v : vgV} (h : ∀ q ∈ lv, vg_ok nm q.2) (hv : vg_ok nm v) : ∀ q ∈ vg_put2 lv i v, vg_ok nm q.2 := by
  intro q hq
  rcases List.mem_cons.mp hq with rfl | hq
  · exact hv
  · exact h q (List.mem_filter.mp hq).1
theorem vg_lm_at {ad : vgN → Nat} {lv : vgL} {ls : Array Slot} {nL i : Nat} {v : vgV} (h : lv_has ls nL (vg_lm ad lv)) (hv : vg_look lv i = some v) : ls[i]? = some (.val (vg_cv ad v)) :=
  h.2.2 (i, vg_cv ad v) (List.mem_map.mpr ⟨(i, v), vg_look_mem hv, rfl⟩)
/-- the cells of a world -/
def vg_fs (ad : vgN → Nat) (f : Nat → Int32) : Nat → List (Option vgN) → List Value
  | _, [] => []
  | k, none :: t => .int (f k) :: vg_fs ad f (k + 1) t
  | k, some n :: t => .ref (ad n) :: vg_fs ad f (k + 1) t
def vg_ty (tys : List (ClassId × FieldType)) (t : Nat) : ClassId := match tys[t]? with
  | some q => q.1
  | none => 0
def vg_e (ad : vgN → Nat) (tys : List (ClassId × FieldType)) (h : vgH) (f : Nat → Int32) : va_E := match h with
  | .inl q => .inr (q.1, vg_fs ad f 0 q.2)
  | .inr (.inl q) => .inl (vg_ty tys q.1, q.2, .inl f)
  | .inr (.inr q) => .inl (vg_ty tys q.1, q.2.1, .inr (.inr (.inr (.inr (fun i => some (ad (q.2.2 i)))))))
def vg_ws (shp : vgN → vgH) (nm : List vgN) (ad : vgN → Nat) (tys : List (ClassId × FieldType)) (σ : vgS) : va_W := nm.map (fun n => (ad n, vg_e ad tys (shp n) (σ n)))
def vg_st (σ : vgS) (n : vgN) (k : Nat) (x : Int32) : vgS := fun n' j => if n' = n ∧ j = k then x else σ n' j
def vg_cp (σ : vgS) (m d : vgN) (len : Nat) : vgS := fun n' j => if n' = d ∧ j < len then σ m j else σ n' j
theorem vg_fs_get (ad : vgN → Nat) (f : Nat → Int32) : ∀ (sl : List (Option vgN)) (b k : Nat), (vg_fs ad f b sl)[k]? = (sl[k]?).map (fun o => match o with | none => Value.int (f (b + k)) | some n => .ref (ad n))
  | [], b, k => by simp [vg_fs]
  | none :: t, b, 0 => by simp [vg_fs]
  | some n :: t, b, 0 => by simp [vg_fs]
  | none :: t, b, k + 1 => by
    show (vg_fs ad f (b + 1) t)[k]? = _
    rw [vg_fs_get ad f t (b + 1) k, show b + 1 + k = b + (k + 1) by omega]
    rfl
  | some n :: t, b, k + 1 => by
    show (vg_fs ad f (b + 1) t)[k]? = _
    rw [vg_fs_get ad f t (b + 1) k, show b + 1 + k = b + (k + 1) by omega]
    rfl
theorem vg_fs_len (ad : vgN → Nat) (f : Nat → Int32) : ∀ (sl : List (Option vgN)) (b : Nat), (vg_fs ad f b sl).length = sl.length
  | [], b => rfl
  | none :: t, b => by simp [vg_fs, vg_fs_len ad f t]
  | some n :: t, b => by simp [vg_fs, vg_fs_len ad f t]
theorem vg_fs_set (ad : vgN → Nat) (f : Nat → Int32) (x : Int32) (sl : List (Option vgN)) (k : Nat) (h : sl[k]? = some none) : (vg_fs ad f 0 sl).set k (.int x) = vg_fs ad (fun j => if j = k then x else f j) 0 sl := by
  apply List.ext_getElem?
  intro j
  rw [List.getElem?_set, vg_fs_get, vg_fs_len, vg_fs_get]
  have hl : k < sl.length := (List.getElem?_eq_some_iff.mp h).1
  by_cases hj : k = j
  · subst hj
    rw [if_pos rfl, if_pos hl, h]
    simp
  · rw [if_neg hj]
    cases hs : sl[j]? with
    | none => rfl
    | some o =>
      cases o with
      | none => simp [Ne.symm hj]
      | some n => rfl
theorem vg_ws_get {shp : vgN → vgH} {nm : List vgN} {ad : vgN → Nat} {tys : List (ClassId × FieldType)} {σ : vgS} {n : vgN} (h : n ∈ nm) : ∃ q : Nat, nm[q]? = some n ∧ (vg_ws shp nm ad tys σ)[q]? = some (ad n, vg_e ad tys (shp n) (σ n)) := by
  obtain ⟨q, hq⟩ := List.getElem?_of_mem h
  exact ⟨q, hq, by unfold vg_ws; rw [List.getElem?_map, hq]; rfl⟩
theorem vg_ws_set {shp : vgN → vgH} {nm : List vgN} {ad : vgN → Nat} {tys : List (ClassId × FieldType)} {σ σ' : vgS} {A : Nat → Prop} {n : vgN} {q : Nat} {e : va_E} (hD : va_D A (vg_ws shp nm ad tys σ)) (hq : nm[q]? = some n) (he : e = vg_e ad tys (shp n) (σ' n)) (ho : ∀ n', n' ≠ n → σ' n' = σ n') : (vg_ws shp nm ad tys σ).set q (ad n, e) = vg_ws shp nm ad tys σ' := by
  apply List.ext_getElem?
  intro j
  have hl : q < nm.length := (List.getElem?_eq_some_iff.mp hq).1
  have hw : ∀ (σ : vgS) (j : Nat), (vg_ws shp nm ad tys σ)[j]? = (nm[j]?).map (fun n => (ad n, vg_e ad tys (shp n) (σ n))) := fun σ j => by unfold vg_ws; rw [List.getElem?_map]
  rw [List.getElem?_set]
  by_cases hj : q = j
  · subst hj
    rw [if_pos rfl, if_pos (by unfold vg_ws; rw [List.length_map]; exact hl), hw, hq, he]
    rfl
  · rw [if_neg hj, hw, hw]
    cases hn : nm[j]? with
    | none => rfl
    | some n' =>
      have hne : n' ≠ n := fun z => by
        subst z
        exact hj (hD.1 q j (ad n', vg_e ad tys (shp n') (σ n')) (ad n', vg_e ad tys (shp n') (σ n')) (by rw [hw, hq]; rfl) (by rw [hw, hn]; rfl) rfl)
      show some (ad n', vg_e ad tys (shp n') (σ n')) = some (ad n', vg_e ad tys (shp n') (σ' n'))
      rw [ho n' hne]
theorem vg_ws_D {shp : vgN → vgH} {nm : List vgN} {ad : vgN → Nat} {tys : List (ClassId × FieldType)} {σ : vgS} {A : Nat → Prop} (hD : va_D A (vg_ws shp nm ad tys σ)) (σ' : vgS) : va_D A (vg_ws shp nm ad tys σ') := by
  have key : ∀ (k : Nat) (q : Nat × va_E), (vg_ws shp nm ad tys σ')[k]? = some q → ∃ q', (vg_ws shp nm ad tys σ)[k]? = some q' ∧ q'.1 = q.1 := by
    intro k q hk
    unfold vg_ws at hk ⊢
    rw [List.getElem?_map] at hk ⊢
    cases hn : nm[k]? with
    | none => rw [hn] at hk; cases hk
    | some n => rw [hn] at hk; cases hk; exact ⟨_, rfl, rfl⟩
  refine ⟨fun i j p q hi hj he => ?_, fun k q hk => ?_⟩
  · obtain ⟨p', h1, h2⟩ := key i p hi
    obtain ⟨q', h3, h4⟩ := key j q hj
    exact hD.1 i j p' q' h1 h3 (h2.trans (he.trans h4.symm))
  · obtain ⟨q', h1, h2⟩ := key k q hk
    rw [← h2]
    exact hD.2 k q' h1
/-- the names in a shape are names of the world -/
def vg_closed (shp : vgN → vgH) (nm : List vgN) : Prop := ∀ n ∈ nm, match shp n with
  | .inl q => ∀ m, some m ∈ q.2 → m ∈ nm
  | .inr (.inl _) => True
  | .inr (.inr q) => ∀ i, i < q.2.1 → q.2.2 i ∈ nm
def vg_nw (nw : List (String × Nat × MethodName × String)) (s : State) : Prop := ∀ q ∈ nw, va_Nw (.methodLinkNest q.1 q.2.1 q.2.2.1 q.2.2.2) s
def vg_rm (d : Nat) : Room := { frames := d, cells := 0, slots := 0, locals := 32 * d }
/-- which cells a method may change -/
def vg_A (nm : List vgN) (ad : vgN → Nat) (sz : Nat) : Nat → Prop := fun q => (∃ n, n ∈ nm ∧ ad n = q) ∨ sz ≤ q
/-- a method's end -/
def vg_Q (shp : vgN → vgH) (nm : List vgN) (cl : List vw_C) (D : va_G) (tys : List (ClassId × FieldType)) (ad : vgN → Nat) (A : Nat → Prop) (P : vgO) : Array Value → State → Outcome → State → Prop := fun _ st oc t =>
  (∃ (r : Option vgV) (σ : vgS), oc = .returned (r.map (vg_cv ad)) ∧ P r σ ∧ (∀ v, r = some v → vg_ok nm v) ∧ va_P D cl (vg_ws shp nm ad tys σ) t.heap) ∧ va_F A st t
/-- what stands fast in a method's walk -/
def vg_C (tb : List Cond) (nw : List (String × Nat × MethodName × String)) (shp : vgN → vgH) (nm : List vgN) (cl : List vw_C) (tyl : List FieldType) (cc : ByteArray) (nL : Nat) (own : String) (ret : Option FieldType) (d : Nat) (p : Program) (R : Room) (s : State) (m : MethodId) (args : Array Value) (meth : Method) (c : Code) (D : va_G) (tys : List (ClassId × FieldType)) (ad : vgN → Nat) (A : Nat → Prop) : Prop :=
  p.tables.exec = Jvm.exec ∧ c.code = cc ∧ c.maxLocals = nL ∧ s.vm.findClass own = some m.cls ∧ (∀ w ∈ tb, w.before args s = true) ∧ va_K D cl tys s ∧ tys.map (fun q => q.2) = tyl ∧ meth.sig.returnType = ret ∧ meth.locks = false ∧ R = vg_rm d ∧ (∀ q, s.heap.size ≤ q → A q) ∧ (∀ σ, va_D A (vg_ws shp nm ad tys σ)) ∧ vg_closed shp nm ∧ vg_nw nw s
/-- the machine, from here on -/
def vg_X (shp : vgN → vgH) (nm : List vgN) (cl : List vw_C) (nL : Nat) (p : Program) (l : Launch) (e : Env) (R : Room) (s : State) (m : MethodId) (args : Array Value) (below : List Frame) (meth : Method) (c : Code) (D : va_G) (tys : List (ClassId × FieldType)) (ad : vgN → Nat) (A : Nat → Prop) (P : vgO) : vgK := fun pc lv st σ =>
  ∀ (H : Heap) (locs : List Loc) (ls : Array Slot), lv_has ls nL (vg_lm ad lv) → (∀ q ∈ lv, vg_ok nm q.2) → (∀ v ∈ st, vg_ok nm v) → va_P D cl (vg_ws shp nm ad tys σ) H → va_S A s.heap H locs →
    W p l e R s m args below meth c H locs 0 0 (MQ below (vg_Q shp nm cl D tys ad A P) args s 0 0 A) (F0 m pc ls (st.map (vg_cv ad)))
def vg_Mono (F : vgF) : Prop := ∀ (P : vgO) (K K' : vgK), (∀ pc lv st σ, K pc lv st σ → K' pc lv st σ) → ∀ lv st σ, F P K lv st σ → F P K' lv st σ
/-- an instruction's row -/
def vg_Snd (tb : List Cond) (nw : List (String × Nat × MethodName × String)) (shp : vgN → vgH) (nm : List vgN) (cl : List vw_C) (tyl : List FieldType) (cc : ByteArray) (nL : Nat) (own : String) (ret : Option FieldType) (d : Nat) (pc : Nat) (F : vgF) : Prop :=
  vg_Mono F ∧ ∀ (p : Program) (l : Launch) (e : Env) (R : Room) (s : State) (m : MethodId) (args : Array Value) (below : List Frame) (meth : Method) (c : Code) (D : va_G) (tys : List (ClassId × FieldType)) (ad : vgN → Nat) (A : Nat → Prop) (P : vgO),
    vg_C tb nw shp nm cl tyl cc nL own ret d p R s m args meth c D tys ad A → ∀ lv st σ, F P (vg_X shp nm cl nL p l e R s m args below meth c D tys ad A P) lv st σ → vg_X shp nm cl nL p l e R s m args below meth c D tys ad A P pc lv st σ
/-- the locals of some numbers alone -/
def vg_sel (ks : List Nat) (lv : vgL) : vgL := match ks with
  | [] => []
  | i :: r => match vg_look lv i with
    | some v => (i, v) :: vg_sel r lv
    | none => vg_sel r lv
theorem vg_sel_in {lv : vgL} : ∀ (ks : List Nat) (q : Nat × vgV), q ∈ vg_sel ks lv → q ∈ lv
  | [], q, h => by cases h
  | i :: r, q, h => by
    unfold vg_sel at h
    split at h
    next v hv =>
      rcases List.mem_cons.mp h with rfl | h
      · exact vg_look_mem hv
      · exact vg_sel_in r q h
    next => exact vg_sel_in r q h
/-- from here the method comes to an end with P: the least such predicate -/
def vg_Go (code : List (Nat × vgF)) (P : vgO) : vgK := fun pc lv st σ =>
  ∀ X : vgK, (∀ pc lv st σ, (match vg_look code pc with | some F => F P X lv st σ | none => False) → X pc lv st σ) → (∀ pc lv lv' st σ, (∀ q : Nat × vgV, q ∈ lv' → q ∈ lv) → X pc lv' st σ → X pc lv st σ) → X pc lv st σ
def vg_Code (code : List (Nat × vgF)) : Prop := ∀ q ∈ code, vg_Mono q.2
theorem vg_step {code : List (Nat × vgF)} (hm : vg_Code code) {P : vgO} {pc : Nat} {lv : vgL} {st : vgT} {σ : vgS} (h : match vg_look code pc with | some F => F P (vg_Go code P) lv st σ | none => False) : vg_Go code P pc lv st σ := by
  intro X hX hW
  refine hX pc lv st σ ?_
  cases hF : vg_look code pc with
  | none => rw [hF] at h; exact h
  | some F =>
    rw [hF] at h
    exact hm _ (vg_look_mem hF) P _ _ (fun pc lv st σ g => g X hX hW) lv st σ h
theorem vg_weak {code : List (Nat × vgF)} {P : vgO} {pc : Nat} {lv lv' : vgL} {st : vgT} {σ : vgS} (hs : ∀ q : Nat × vgV, q ∈ lv' → q ∈ lv) (h : vg_Go code P pc lv' st σ) : vg_Go code P pc lv st σ :=
  fun X hX hW => hW pc lv lv' st σ hs (h X hX hW)
/-- some steps on end; at a cut the walk stops, with the locals named there -/
def vg_R (cuts : List (Nat × List Nat)) (code : List (Nat × vgF)) (P : vgO) : Nat → vgK
  | 0 => vg_Go code P
  | n + 1 => fun pc lv st σ => match vg_look code pc with
    | some F => F P (fun pc' lv' st' σ' => match vg_look cuts pc' with
      | some ks => vg_Go code P pc' (vg_sel ks lv') st' σ'
      | none => vg_R cuts code P n pc' lv' st' σ') lv st σ
    | none => False
theorem vg_run {cuts : List (Nat × List Nat)} {code : List (Nat × vgF)} (hm : vg_Code code) {P : vgO} : ∀ (n : Nat) {pc : Nat} {lv : vgL} {st : vgT} {σ : vgS}, vg_R cuts code P n pc lv st σ → vg_Go code P pc lv st σ
  | 0, _, _, _, _, h => h
  | n + 1, pc, lv, st, σ, h => by
    refine vg_step hm ?_
    unfold vg_R at h
    cases hF : vg_look code pc with
    | none => rw [hF] at h; exact h
    | some F =>
      rw [hF] at h
      refine hm _ (vg_look_mem hF) P _ _ (fun pc' lv' st' σ' g => ?_) lv st σ h
      cases hc : vg_look cuts pc' with
      | some ks => rw [hc] at g; exact vg_weak (fun q hq => vg_sel_in ks q hq) g
      | none => rw [hc] at g; exact vg_run hm n g
/-- the machine does it -/
theorem vg_sound {tb : List Cond} {nw : List (String × Nat × MethodName × String)} {shp : vgN → vgH} {nm : List vgN} {cl : List vw_C} {tyl : List FieldType} {cc : ByteArray} {nL : Nat} {own : String} {ret : Option FieldType} {d : Nat} {code : List (Nat × vgF)} (hs : ∀ q ∈ code, vg_Snd tb nw shp nm cl tyl cc nL own ret d q.1 q.2)
    {p : Program} {l : Launch} {e : Env} {R : Room} {s : State} {m : MethodId} {args : Array Value} {below : List Frame} {meth : Method} {c : Code} {D : va_G} {tys : List (ClassId × FieldType)} {ad : vgN → Nat} {A : Nat → Prop} {P : vgO}
    (C0 : vg_C tb nw shp nm cl tyl cc nL own ret d p R s m args meth c D tys ad A) {pc : Nat} {lv : vgL} {st : vgT} {σ : vgS} (h : vg_Go code P pc lv st σ) : vg_X shp nm cl nL p l e R s m args below meth c D tys ad A P pc lv st σ := by
  refine h _ (fun pc lv st σ g => ?_) (fun pc lv lv' st σ hsub g H locs ls hl ho hs hP hS => g H locs ls ⟨hl.1, hl.2.1, fun q hq => ?_⟩ (fun q hq => ho q (hsub q hq)) hs hP hS)
  · cases hL : vg_look code pc with
    | none => rw [hL] at g; exact g.elim
    | some F =>
      rw [hL] at g
      exact (hs _ (vg_look_mem hL)).2 p l e R s m args below meth c D tys ad A P C0 lv st σ g
  · obtain ⟨q', hq', rfl⟩ := List.mem_map.mp hq
    exact hl.2.2 _ (List.mem_map.mpr ⟨q', hsub q' hq', rfl⟩)
/-- a contract: from every world of the shape, with arguments for which 'pre' holds, the method ends with 'post' -/
def vg_Met (tb : List Cond) (nw : List (String × Nat × MethodName × String)) (shp : vgN → vgH) (nm : List vgN) (cl : List vw_C) (tyl : List FieldType) (y : MethodName) (cc : ByteArray) (nL : Nat) (ret : Option FieldType) (d : Nat) (pre : vgT → vgS → Prop) (post : vgT → vgS → vgO) : Prop :=
  ∀ (l : Launch) (D : va_G) (tys : List (ClassId × FieldType)) (ad : vgN → Nat) (sz : Nat) (av : vgT) (σ : vgS), tys.map (fun q => q.2) = tyl → (∀ v ∈ av, vg_ok nm v) → pre av σ →
    Met l y (.code y cc nL ret :: tb) (vg_rm d) (va_Pc (av.map (vg_cv ad)) (fun U => U.heap.size = sz ∧ va_P D cl (vg_ws shp nm ad tys σ) U.heap ∧ va_K D cl tys U ∧ va_D (fun _ => True) (vg_ws shp nm ad tys σ) ∧ vg_nw nw U)) (vg_Q shp nm cl D tys ad (vg_A nm ad sz) (post av σ)) 0 0 (vg_A nm ad sz)
def vg_args : Nat → vgT → vgL
  | _, [] => []
  | i, v :: vs => (i, v) :: vg_args (if vg_c2 v then i + 2 else i + 1) vs
theorem vg_args_eq (ad : vgN → Nat) : ∀ (vs : vgT) (i : Nat), lv_args i (vs.map (vg_cv ad)) = vg_lm ad (vg_args i vs)
  | [], i => rfl
  | v :: vs, i => by
    show (i, vg_cv ad v) :: lv_args (if (vg_cv ad v).category = 2 then i + 2 else i + 1) (vs.map (vg_cv ad)) = (i, vg_cv ad v) :: vg_lm ad (vg_args (if vg_c2 v then i + 2 else i + 1) vs)
    have e : (if (vg_cv ad v).category = 2 then i + 2 else i + 1) = (if vg_c2 v then i + 2 else i + 1) := by
      have h := vg_c2_eq ad v
      cases hc : vg_c2 v with
      | true =>
        rw [hc] at h
        simp [beq_iff_eq.mp h]
      | false =>
        rw [hc] at h
        have h2 : ¬ (vg_cv ad v).category = 2 := fun z => by rw [z] at h; cases h
        simp [h2]
    rw [e, vg_args_eq ad vs]
theorem vg_args_ok {nm : List vgN} : ∀ (vs : vgT) (i : Nat), (∀ v ∈ vs, vg_ok nm v) → ∀ q ∈ vg_args i vs, vg_ok nm q.2
  | [], i, _, q, hq => by cases hq
  | v :: vs, i, h, q, hq => by
    rcases List.mem_cons.mp hq with rfl | hq
    · exact h v List.mem_cons_self
    · exact vg_args_ok vs _ (fun w hw => h w (List.mem_cons_of_mem _ hw)) q hq
def vg_wd (vs : vgT) : Nat := (vs.map (fun v => if vg_c2 v then 2 else 1)).sum
theorem vg_wd_eq (ad : vgN → Nat) : ∀ vs : vgT, (lg_sl (vs.map (vg_cv ad))).length = vg_wd vs
  | [] => rfl
  | v :: vs => by
    have ih := vg_wd_eq ad vs
    have e : (lg_sl ((v :: vs).map (vg_cv ad))).length = (if (vg_cv ad v).category = 2 then 2 else 1) + (lg_sl (vs.map (vg_cv ad))).length := by
      by_cases hc : (vg_cv ad v).category = 2 <;> simp [lg_sl, hc] <;> omega
    have h := vg_c2_eq ad v
    rw [e, ih]
    show _ = (if vg_c2 v then 2 else 1) + vg_wd vs
    cases hc : vg_c2 v with
    | true => rw [hc] at h; simp [beq_iff_eq.mp h]
    | false =>
      rw [hc] at h
      have h2 : ¬ (vg_cv ad v).category = 2 := fun z => by rw [z] at h; cases h
      simp [h2]
theorem vg_met {tb : List Cond} {nw : List (String × Nat × MethodName × String)} {shp : vgN → vgH} {nm : List vgN} {cl : List vw_C} {tyl : List FieldType} {y : MethodName} {cc : ByteArray} {nL : Nat} {own : String} {ret : Option FieldType} {d : Nat} {pre : vgT → vgS → Prop} {post : vgT → vgS → vgO} {code : List (Nat × vgF)}
    (hcl : vg_closed shp nm) (hy : plainName y.cls = true) (hown : y.cls = own) (hs : ∀ q ∈ code, vg_Snd tb nw shp nm cl tyl cc nL own ret d q.1 q.2)
    (hw : ∀ av σ, pre av σ → vg_wd av ≤ nL) (go : ∀ av σ, pre av σ → vg_Go code (post av σ) 0 (vg_args 0 av) [] σ) : vg_Met tb nw shp nm cl tyl y cc nL ret d pre post := by
  intro l D tys ad sz av σ hty hok hpre
  refine Met.ofW (cc := cc) (maxL := nL) (ret := ret) hy rfl ?_
  intro p e s m args below meth c s₁ B hml hv
  obtain ⟨rfl, hsz, hP, hK, hD, hnw⟩ := hv
  have hx := B.exec
  have hb := B.bytes
  have hr := B.returns
  have hts : ∀ w ∈ tb, w.before (av.map (vg_cv ad)).toArray s = true := fun w h => atoms_spec (ws := .code y cc nL ret :: tb) B.pre w (List.mem_cons_of_mem _ h)
  have ho : s.vm.findClass own = some m.cls := by rw [← hown]; exact findClass_of_methodNamed B.named
  have hlocks := B.notSynchronized
  subst hsz
  have hDA : ∀ σ', va_D (vg_A nm ad s.heap.size) (vg_ws shp nm ad tys σ') := fun σ' => (vg_ws_D hD σ').weaken (fun k q hk _ => by
    unfold vg_ws at hk
    rw [List.getElem?_map] at hk
    cases hn : nm[k]? with
    | none => rw [hn] at hk; cases hk
    | some n => rw [hn] at hk; cases hk; exact Or.inl ⟨n, List.mem_of_getElem? hn, rfl⟩)
  have C0 : vg_C tb nw shp nm cl tyl cc nL own ret d p (vg_rm d) s m (av.map (vg_cv ad)).toArray meth c D tys ad (vg_A nm ad s.heap.size) := ⟨hx, hb, hml, ho, hts, hK, hty, hr, hlocks, rfl, fun q h => Or.inr h, hDA, hcl, hnw⟩
  have hl := lv_entry (av.map (vg_cv ad)) (n := nL) (by rw [vg_wd_eq]; exact hw av σ hpre)
  rw [vg_args_eq] at hl
  rw [lg_entry_eq]
  exact vg_sound hs C0 (go av σ hpre) s.heap [] _ hl (vg_args_ok av 0 hok) (fun v h => by cases h) hP va_S.rf
end
section
/-! the instructions: what each does to names and ints, and its row over the machine -/
def vi_no : vgF := fun _ _ _ _ _ => False
def vi_icst (v : Int32) (n : Nat) : vgF := fun _ K lv st σ => K n lv (.inl (.int v) :: st) σ
def vi_lcst (v : Int64) (n : Nat) : vgF := fun _ K lv st σ => K n lv (.inl (.long v) :: st) σ
def vi_iload (i n : Nat) : vgF := fun _ K lv st σ => match vg_look lv i with
  | some (.inl (.int x)) => K n lv (.inl (.int x) :: st) σ
  | _ => False
def vi_lload (i n : Nat) : vgF := fun _ K lv st σ => match vg_look lv i with
  | some (.inl (.long x)) => K n lv (.inl (.long x) :: st) σ
  | _ => False
def vi_aload (i n : Nat) : vgF := fun _ K lv st σ => match vg_look lv i with
  | some (.inr x) => K n lv (.inr x :: st) σ
  | _ => False
def vi_istore (i n : Nat) : vgF := fun _ K lv st σ => match st with
  | .inl (.int x) :: t => K n (vg_put lv i (.inl (.int x))) t σ
  | _ => False
def vi_lstore (i n : Nat) : vgF := fun _ K lv st σ => match st with
  | .inl (.long x) :: t => K n (vg_put2 lv i (.inl (.long x))) t σ
  | _ => False
def vi_astore (i n : Nat) : vgF := fun _ K lv st σ => match st with
  | .inr x :: t => K n (vg_put lv i (.inr x)) t σ
  | _ => False
def vi_iinc (i : Nat) (v : Int32) (n : Nat) : vgF := fun _ K lv st σ => match vg_look lv i with
  | some (.inl (.int x)) => K n (vg_put lv i (.inl (.int (x + v)))) st σ
  | _ => False
def vi_bin (f : Int32 → Int32 → Int32) (n : Nat) : vgF := fun _ K lv st σ => match st with
  | .inl (.int y) :: .inl (.int x) :: t => K n lv (.inl (.int (f x y)) :: t) σ
  | _ => False
def vi_div (f : Int32 → Int32 → Int32) (n : Nat) : vgF := fun _ K lv st σ => match st with
  | .inl (.int y) :: .inl (.int x) :: t => ¬ y = 0 ∧ K n lv (.inl (.int (f x y)) :: t) σ
  | _ => False
def vi_un (f : Int32 → Int32) (n : Nat) : vgF := fun _ K lv st σ => match st with
  | .inl (.int x) :: t => K n lv (.inl (.int (f x)) :: t) σ
  | _ => False
def vi_lbin (f : Int64 → Int64 → Int64) (n : Nat) : vgF := fun _ K lv st σ => match st with
  | .inl (.long y) :: .inl (.long x) :: t => K n lv (.inl (.long (f x y)) :: t) σ
  | _ => False
def vi_i2l (n : Nat) : vgF := fun _ K lv st σ => match st with
  | .inl (.int x) :: t => K n lv (.inl (.long x.toInt64) :: t) σ
  | _ => False
def vi_if (c : Int32 → Prop) (g n : Nat) : vgF := fun _ K lv st σ => match st with
  | .inl (.int x) :: t => (c x → K g lv t σ) ∧ (¬ c x → K n lv t σ)
  | _ => False
def vi_cmp (c : Int32 → Int32 → Prop) (g n : Nat) : vgF := fun _ K lv st σ => match st with
  | .inl (.int y) :: .inl (.int x) :: t => (c x y → K g lv t σ) ∧ (¬ c x y → K n lv t σ)
  | _ => False
def vi_goto (g : Nat) : vgF := fun _ K lv st σ => K g lv st σ
def vi_sw0 (x : Int32) (d : Prop) : List (Int32 × Prop) → Prop
  | [] => d
  | q :: r => (x = q.1 → q.2) ∧ (¬ x = q.1 → vi_sw0 x d r)
def vi_sw (cs : List (Int32 × Nat)) (d : Nat) : vgF := fun _ K lv st σ => match st with
  | .inl (.int x) :: t => vi_sw0 x (K d lv t σ) (cs.map (fun q => (q.1, K q.2 lv t σ)))
  | _ => False
def vi_dup (n : Nat) : vgF := fun _ K lv st σ => match st with
  | a :: t => vg_c2 a = false ∧ K n lv (a :: a :: t) σ
  | _ => False
def vi_pop (n : Nat) : vgF := fun _ K lv st σ => match st with
  | a :: t => vg_c2 a = false ∧ K n lv t σ
  | _ => False
def vi_dupx1 (n : Nat) : vgF := fun _ K lv st σ => match st with
  | a :: b :: t => (vg_c2 a = false ∧ vg_c2 b = false) ∧ K n lv (a :: b :: a :: t) σ
  | _ => False
def vi_dup2 (n : Nat) : vgF := fun _ K lv st σ => match st with
  | a :: b :: t => (vg_c2 a = false ∧ vg_c2 b = false) ∧ K n lv (a :: b :: a :: b :: t) σ
  | _ => False
def vg_nth : List (Option vgN) → Nat → Option (Option vgN)
  | [], _ => none
  | a :: _, 0 => some a
  | _ :: t, k + 1 => vg_nth t k
theorem vg_nth_eq : ∀ (l : List (Option vgN)) (k : Nat), vg_nth l k = l[k]?
  | [], k => by simp [vg_nth]
  | a :: t, 0 => by simp [vg_nth]
  | a :: t, k + 1 => by simp [vg_nth, vg_nth_eq t k]
def vi_get (shp : vgN → vgH) (ci k n : Nat) : vgF := fun _ K lv st σ => match st with
  | .inr m :: t => (match shp m with
    | .inl q => bif Nat.beq q.1 ci then (match vg_nth q.2 k with
      | some none => K n lv (.inl (.int (σ m k)) :: t) σ
      | some (some z) => K n lv (.inr z :: t) σ
      | none => False) else False
    | _ => False)
  | _ => False
def vi_put (shp : vgN → vgH) (ci k n : Nat) : vgF := fun _ K lv st σ => match st with
  | .inl (.int x) :: .inr m :: t => (match shp m with
    | .inl q => bif Nat.beq q.1 ci then (match vg_nth q.2 k with
      | some none => K n lv t (vg_st σ m k x)
      | _ => False) else False
    | _ => False)
  | _ => False
def vi_putZ (shp : vgN → vgH) (ci k n : Nat) : vgF := fun _ K lv st σ => match st with
  | .inl (.int x) :: .inr m :: t => (match shp m with
    | .inl q => bif Nat.beq q.1 ci then (match vg_nth q.2 k with
      | some none => (x = 0 ∨ x = 1) ∧ K n lv t (vg_st σ m k x)
      | _ => False) else False
    | _ => False)
  | _ => False
def vi_ald (shp : vgN → vgH) (t0 n : Nat) : vgF := fun _ K lv st σ => match st with
  | .inl (.int i) :: .inr m :: t => (match shp m with
    | .inr (.inl q) => bif Nat.beq q.1 t0 then (vp_in i q.2 ∧ K n lv (.inl (.int (σ m i.toNatClampNeg)) :: t) σ) else False
    | _ => False)
  | _ => False
def vi_ast (shp : vgN → vgH) (t0 n : Nat) : vgF := fun _ K lv st σ => match st with
  | .inl (.int x) :: .inl (.int i) :: .inr m :: t => (match shp m with
    | .inr (.inl q) => bif Nat.beq q.1 t0 then (vp_in i q.2 ∧ K n lv t (vg_st σ m i.toNatClampNeg x)) else False
    | _ => False)
  | _ => False
def vi_astZ (shp : vgN → vgH) (t0 n : Nat) : vgF := fun _ K lv st σ => match st with
  | .inl (.int x) :: .inl (.int i) :: .inr m :: t => (match shp m with
    | .inr (.inl q) => bif Nat.beq q.1 t0 then ((vp_in i q.2 ∧ (x = 0 ∨ x = 1)) ∧ K n lv t (vg_st σ m i.toNatClampNeg x)) else False
    | _ => False)
  | _ => False
def vi_aald (shp : vgN → vgH) (t0 n : Nat) : vgF := fun _ K lv st σ => match st with
  | .inl (.int i) :: .inr m :: t => (match shp m with
    | .inr (.inr q) => bif Nat.beq q.1 t0 then (vp_in i q.2.1 ∧ K n lv (.inr (q.2.2 i.toNatClampNeg) :: t) σ) else False
    | _ => False)
  | _ => False
/-- System.arraycopy of a whole row of ints -/
def vi_cpy (shp : vgN → vgH) (t0 n : Nat) : vgF := fun _ K lv st σ => match st with
  | .inl (.int len) :: .inl (.int dp) :: .inr d :: .inl (.int sp) :: .inr m :: t => (match shp m, shp d with
    | .inr (.inl q), .inr (.inl r) => bif Nat.beq q.1 t0 && Nat.beq r.1 t0 && Nat.ble (vg_wd t) 8 then ((sp = 0 ∧ dp = 0 ∧ ¬ len < 0 ∧ len.toNatClampNeg ≤ q.2 ∧ len.toNatClampNeg ≤ r.2) ∧ K n lv t (vg_cp σ m d len.toNatClampNeg)) else False
    | _, _ => False)
  | _ => False
def vg_pop : Nat → vgT → vgT → Option (vgT × vgT)
  | 0, acc, st => some (acc, st)
  | k + 1, acc, v :: st => vg_pop k (v :: acc) st
  | _ + 1, _, [] => none
abbrev vgC : Type := vgT → vgS → Prop × Option vgV × vgS
def vg_k (K : vgK) (n : Nat) (lv : vgL) (st : vgT) (r : Option vgV) (σ : vgS) : Prop := match r with
  | none => K n lv st σ
  | some v => K n lv (v :: st) σ
/-- a call of a static method by its contract -/
def vi_callS (sp : vgC) (k n : Nat) : vgF := fun _ K lv st σ => match vg_pop k [] st with
  | some q => bif Nat.ble (vg_wd q.2) 8 then (match sp q.1 σ with | (pr, r, σ1) => pr ∧ vg_k K n lv q.2 r σ1) else False
  | none => False
/-- a call of an object's method -/
def vi_callV (shp : vgN → vgH) (ci : Nat) (sp : vgC) (k n : Nat) : vgF := fun _ K lv st σ => match vg_pop (k + 1) [] st with
  | some (.inr m :: as, t) => (match shp m with
    | .inl o => bif Nat.beq o.1 ci && Nat.ble (vg_wd t) 8 then (match sp (.inr m :: as) σ with | (pr, r, σ1) => pr ∧ vg_k K n lv t r σ1) else False
    | _ => False)
  | _ => False
def vi_max (n : Nat) : vgF := fun _ K lv st σ => match st with
  | .inl (.int y) :: .inl (.int x) :: t => bif Nat.ble (vg_wd t) 8 then K n lv (.inl (.int (if x < y then y else x)) :: t) σ else False
  | _ => False
def vi_min (n : Nat) : vgF := fun _ K lv st σ => match st with
  | .inl (.int y) :: .inl (.int x) :: t => bif Nat.ble (vg_wd t) 8 then K n lv (.inl (.int (if y < x then y else x)) :: t) σ else False
  | _ => False
def vi_abs (n : Nat) : vgF := fun _ K lv st σ => match st with
  | .inl (.int x) :: t => bif Nat.ble (vg_wd t) 8 then K n lv (.inl (.int (if 0 ≤ x then x else 0 - x)) :: t) σ else False
  | _ => False
def vi_ret : vgF := fun P _ _ st σ => match st with
  | [.inl (.int x)] => P (some (.inl (.int x))) σ
  | _ => False
def vi_retZ : vgF := fun P _ _ st σ => match st with
  | [.inl (.int x)] => (x = 0 ∨ x = 1) ∧ P (some (.inl (.int x))) σ
  | _ => False
def vi_retL : vgF := fun P _ _ st σ => match st with
  | [.inl (.long x)] => P (some (.inl (.long x))) σ
  | _ => False
def vi_retV : vgF := fun P _ _ st σ => match st with
  | [] => P none σ
  | _ => False
section VS
variable {tb : List Cond} {nw : List (String × Nat × MethodName × String)} {shp : vgN → vgH} {nm : List vgN} {cl : List vw_C} {tyl : List FieldType} {cc : ByteArray} {nL : Nat} {own : String} {ret : Option FieldType} {d pc n : Nat}
theorem vg_okc {v : vgV} {t : vgT} (hv : vg_ok nm v) (h : ∀ w ∈ t, vg_ok nm w) : ∀ w ∈ v :: t, vg_ok nm w := fun w hw => (List.mem_cons.mp hw).elim (fun e => e ▸ hv) (h w)
theorem vg_okt {v : vgV} {t : vgT} (h : ∀ w ∈ v :: t, vg_ok nm w) : ∀ w ∈ t, vg_ok nm w := fun w hw => h w (List.mem_cons_of_mem _ hw)
theorem vg_okh {v : vgV} {t : vgT} (h : ∀ w ∈ v :: t, vg_ok nm w) : vg_ok nm v := h v List.mem_cons_self
theorem vg_okl {lv : vgL} {i : Nat} {v : vgV} (h : ∀ q ∈ lv, vg_ok nm q.2) (hv : vg_look lv i = some v) : vg_ok nm v := h (i, v) (vg_look_mem hv)
theorem vg_lms {ad : vgN → Nat} {lv : vgL} {ls : Array Slot} {nL i : Nat} (h : lv_has ls nL (vg_lm ad lv)) {v : vgV} (hv : vg_look lv i = some v) : i < nL := by
  have := vg_lm_at h hv
  rw [← h.1]
  exact (Array.getElem?_eq_some_iff.mp this).1
theorem vs_no : vg_Snd tb nw shp nm cl tyl cc nL own ret d pc vi_no := ⟨fun _ _ _ _ _ _ _ h => h, fun _ _ _ _ _ _ _ _ _ _ _ _ _ _ _ _ _ _ _ h => h.elim⟩
theorem vs_iconst {z : Int} {v : Int32} (hd : decode cc pc = .ok (.iconst z, 1)) (hv : Int32.ofInt z = v) (hn : pc + 1 = n) : vg_Snd tb nw shp nm cl tyl cc nL own ret d pc (vi_icst v n) := by
  subst hn
  refine ⟨fun P K K' h lv st σ g => h _ _ _ _ g, ?_⟩
  intro p l e R s m args below meth c D tys ad A P C0 lv st σ h H locs ls hl ho hs hP hS
  exact lv_iconst C0.1 C0.2.1 hd hv (h H locs ls hl ho (vg_okc trivial hs) hP hS)
theorem vs_bipush {z : Int} {v : Int32} (hd : decode cc pc = .ok (.bipush z, 2)) (hv : (Int8.ofInt z).toInt32 = v) (hn : pc + 2 = n) : vg_Snd tb nw shp nm cl tyl cc nL own ret d pc (vi_icst v n) := by
  subst hn
  refine ⟨fun P K K' h lv st σ g => h _ _ _ _ g, ?_⟩
  intro p l e R s m args below meth c D tys ad A P C0 lv st σ h H locs ls hl ho hs hP hS
  exact lv_bipush C0.1 C0.2.1 hd hv (h H locs ls hl ho (vg_okc trivial hs) hP hS)
theorem vs_sipush {z : Int} {v : Int32} (hd : decode cc pc = .ok (.sipush z, 3)) (hv : (Int16.ofInt z).toInt32 = v) (hn : pc + 3 = n) : vg_Snd tb nw shp nm cl tyl cc nL own ret d pc (vi_icst v n) := by
  subst hn
  refine ⟨fun P K K' h lv st σ g => h _ _ _ _ g, ?_⟩
  intro p l e R s m args below meth c D tys ad A P C0 lv st σ h H locs ls hl ho hs hP hS
  exact lv_sipush C0.1 C0.2.1 hd hv (h H locs ls hl ho (vg_okc trivial hs) hP hS)
theorem vs_ldc {ix : Nat} {v : Int32} (hd : decode cc pc = .ok (.ldc ix, 2)) (hw : Cond.constant own ix v ∈ tb) (hn : pc + 2 = n) : vg_Snd tb nw shp nm cl tyl cc nL own ret d pc (vi_icst v n) := by
  subst hn
  refine ⟨fun P K K' h lv st σ g => h _ _ _ _ g, ?_⟩
  intro p l e R s m args below meth c D tys ad A P C0 lv st σ h H locs ls hl ho hs hP hS
  exact lv_ldc C0.1 C0.2.1 C0.2.2.2.1 (C0.2.2.2.2.1 _ hw) hd (h H locs ls hl ho (vg_okc trivial hs) hP hS)
theorem vs_ldcw {ix : Nat} {v : Int32} (hd : decode cc pc = .ok (.ldc_w ix, 3)) (hw : Cond.constant own ix v ∈ tb) (hn : pc + 3 = n) : vg_Snd tb nw shp nm cl tyl cc nL own ret d pc (vi_icst v n) := by
  subst hn
  refine ⟨fun P K K' h lv st σ g => h _ _ _ _ g, ?_⟩
  intro p l e R s m args below meth c D tys ad A P C0 lv st σ h H locs ls hl ho hs hP hS
  exact lv_ldcw C0.1 C0.2.1 C0.2.2.2.1 (C0.2.2.2.2.1 _ hw) hd (h H locs ls hl ho (vg_okc trivial hs) hP hS)
theorem vs_ldc2 {ix : Nat} {v : Int64} (hd : decode cc pc = .ok (.ldc2_w ix, 3)) (hw : Cond.constantLong own ix v ∈ tb) (hn : pc + 3 = n) : vg_Snd tb nw shp nm cl tyl cc nL own ret d pc (vi_lcst v n) := by
  subst hn
  refine ⟨fun P K K' h lv st σ g => h _ _ _ _ g, ?_⟩
  intro p l e R s m args below meth c D tys ad A P C0 lv st σ h H locs ls hl ho hs hP hS
  exact lv_ldc2 C0.1 C0.2.1 C0.2.2.2.1 (C0.2.2.2.2.1 _ hw) hd (h H locs ls hl ho (vg_okc trivial hs) hP hS)
theorem vs_m1 {F : (vgK → vgL → vgT → vgS → Prop)} (h : ∀ (K K' : vgK), (∀ pc lv st σ, K pc lv st σ → K' pc lv st σ) → ∀ lv st σ, F K lv st σ → F K' lv st σ) : vg_Mono (fun _ => F) := fun _ K K' => h K K'
theorem vs_iload_n {k : Fin 4} {i : Nat} (hd : decode cc pc = .ok (.iload_n k, 1)) (hi : (k : Nat) = i) (hn : pc + 1 = n) : vg_Snd tb nw shp nm cl tyl cc nL own ret d pc (vi_iload i n) := by
  subst hn
  refine ⟨vs_m1 fun K K' h lv st σ g => ?_, ?_⟩
  · split at g
    · exact h _ _ _ _ g
    · exact g
  intro p l e R s m args below meth c D tys ad A P C0 lv st σ h H locs ls hl ho hs hP hS
  unfold vi_iload at h
  split at h
  next x hx => exact lv_iload_n C0.1 C0.2.1 hd hi (vg_lm_at hl hx) (h H locs ls hl ho (vg_okc trivial hs) hP hS)
  next => exact h.elim
theorem vs_iload {i : Nat} (hd : decode cc pc = .ok (.iload i, 2)) (hn : pc + 2 = n) : vg_Snd tb nw shp nm cl tyl cc nL own ret d pc (vi_iload i n) := by
  subst hn
  refine ⟨vs_m1 fun K K' h lv st σ g => ?_, ?_⟩
  · split at g
    · exact h _ _ _ _ g
    · exact g
  intro p l e R s m args below meth c D tys ad A P C0 lv st σ h H locs ls hl ho hs hP hS
  unfold vi_iload at h
  split at h
  next x hx => exact lv_iload C0.1 C0.2.1 hd (vg_lm_at hl hx) (h H locs ls hl ho (vg_okc trivial hs) hP hS)
  next => exact h.elim
theorem vs_lload_n {k : Fin 4} {i : Nat} (hd : decode cc pc = .ok (.lload_n k, 1)) (hi : (k : Nat) = i) (hn : pc + 1 = n) : vg_Snd tb nw shp nm cl tyl cc nL own ret d pc (vi_lload i n) := by
  subst hn
  refine ⟨vs_m1 fun K K' h lv st σ g => ?_, ?_⟩
  · split at g
    · exact h _ _ _ _ g
    · exact g
  intro p l e R s m args below meth c D tys ad A P C0 lv st σ h H locs ls hl ho hs hP hS
  unfold vi_lload at h
  split at h
  next x hx => exact lv_lload_n C0.1 C0.2.1 hd hi (vg_lm_at hl hx) (h H locs ls hl ho (vg_okc trivial hs) hP hS)
  next => exact h.elim
theorem vs_lload {i : Nat} (hd : decode cc pc = .ok (.lload i, 2)) (hn : pc + 2 = n) : vg_Snd tb nw shp nm cl tyl cc nL own ret d pc (vi_lload i n) := by
  subst hn
  refine ⟨vs_m1 fun K K' h lv st σ g => ?_, ?_⟩
  · split at g
    · exact h _ _ _ _ g
    · exact g
  intro p l e R s m args below meth c D tys ad A P C0 lv st σ h H locs ls hl ho hs hP hS
  unfold vi_lload at h
  split at h
  next x hx => exact lv_lload C0.1 C0.2.1 hd (vg_lm_at hl hx) (h H locs ls hl ho (vg_okc trivial hs) hP hS)
  next => exact h.elim
theorem vs_aload_n {k : Fin 4} {i : Nat} (hd : decode cc pc = .ok (.aload_n k, 1)) (hi : (k : Nat) = i) (hn : pc + 1 = n) : vg_Snd tb nw shp nm cl tyl cc nL own ret d pc (vi_aload i n) := by
  subst hn
  refine ⟨vs_m1 fun K K' h lv st σ g => ?_, ?_⟩
  · split at g
    · exact h _ _ _ _ g
    · exact g
  intro p l e R s m args below meth c D tys ad A P C0 lv st σ h H locs ls hl ho hs hP hS
  unfold vi_aload at h
  split at h
  next x hx => exact lv_aload_n C0.1 C0.2.1 hd hi (vg_lm_at hl hx) (h H locs ls hl ho (vg_okc (vg_okl ho hx) hs) hP hS)
  next => exact h.elim
theorem vs_aload {i : Nat} (hd : decode cc pc = .ok (.aload i, 2)) (hn : pc + 2 = n) : vg_Snd tb nw shp nm cl tyl cc nL own ret d pc (vi_aload i n) := by
  subst hn
  refine ⟨vs_m1 fun K K' h lv st σ g => ?_, ?_⟩
  · split at g
    · exact h _ _ _ _ g
    · exact g
  intro p l e R s m args below meth c D tys ad A P C0 lv st σ h H locs ls hl ho hs hP hS
  unfold vi_aload at h
  split at h
  next x hx => exact lv_aload C0.1 C0.2.1 hd (vg_lm_at hl hx) (h H locs ls hl ho (vg_okc (vg_okl ho hx) hs) hP hS)
  next => exact h.elim
theorem vs_istore_n {k : Fin 4} {i : Nat} (hd : decode cc pc = .ok (.istore_n k, 1)) (hi : (k : Nat) = i) (hL : i < nL) (hn : pc + 1 = n) : vg_Snd tb nw shp nm cl tyl cc nL own ret d pc (vi_istore i n) := by
  subst hn
  refine ⟨vs_m1 fun K K' h lv st σ g => ?_, ?_⟩
  · split at g
    · exact h _ _ _ _ g
    · exact g
  intro p l e R s m args below meth c D tys ad A P C0 lv st σ h H locs ls hl ho hs hP hS
  unfold vi_istore at h
  split at h
  next x t => exact lv_istore_n C0.1 C0.2.1 hd hi hl hL (vg_lm_put ad lv i (.inl (.int x))) (fun ls' hl' => h H locs ls' hl' (vg_ok_put ho trivial) (vg_okt hs) hP hS)
  next => exact h.elim
theorem vs_istore {i : Nat} (hd : decode cc pc = .ok (.istore i, 2)) (hL : i < nL) (hn : pc + 2 = n) : vg_Snd tb nw shp nm cl tyl cc nL own ret d pc (vi_istore i n) := by
  subst hn
  refine ⟨vs_m1 fun K K' h lv st σ g => ?_, ?_⟩
  · split at g
    · exact h _ _ _ _ g
    · exact g
  intro p l e R s m args below meth c D tys ad A P C0 lv st σ h H locs ls hl ho hs hP hS
  unfold vi_istore at h
  split at h
  next x t => exact lv_istore C0.1 C0.2.1 hd hl hL (vg_lm_put ad lv i (.inl (.int x))) (fun ls' hl' => h H locs ls' hl' (vg_ok_put ho trivial) (vg_okt hs) hP hS)
  next => exact h.elim
theorem vs_lstore_n {k : Fin 4} {i : Nat} (hd : decode cc pc = .ok (.lstore_n k, 1)) (hi : (k : Nat) = i) (hL : i + 1 < nL) (hn : pc + 1 = n) : vg_Snd tb nw shp nm cl tyl cc nL own ret d pc (vi_lstore i n) := by
  subst hn
  refine ⟨vs_m1 fun K K' h lv st σ g => ?_, ?_⟩
  · split at g
    · exact h _ _ _ _ g
    · exact g
  intro p l e R s m args below meth c D tys ad A P C0 lv st σ h H locs ls hl ho hs hP hS
  unfold vi_lstore at h
  split at h
  next x t => exact lv_lstore_n C0.1 C0.2.1 hd hi hl hL (vg_lm_put2 ad lv i (.inl (.long x))) (fun ls' hl' => h H locs ls' hl' (vg_ok_put2 ho trivial) (vg_okt hs) hP hS)
  next => exact h.elim
theorem vs_lstore {i : Nat} (hd : decode cc pc = .ok (.lstore i, 2)) (hL : i + 1 < nL) (hn : pc + 2 = n) : vg_Snd tb nw shp nm cl tyl cc nL own ret d pc (vi_lstore i n) := by
  subst hn
  refine ⟨vs_m1 fun K K' h lv st σ g => ?_, ?_⟩
  · split at g
    · exact h _ _ _ _ g
    · exact g
  intro p l e R s m args below meth c D tys ad A P C0 lv st σ h H locs ls hl ho hs hP hS
  unfold vi_lstore at h
  split at h
  next x t => exact lv_lstore C0.1 C0.2.1 hd hl hL (vg_lm_put2 ad lv i (.inl (.long x))) (fun ls' hl' => h H locs ls' hl' (vg_ok_put2 ho trivial) (vg_okt hs) hP hS)
  next => exact h.elim
theorem vs_astore_n {k : Fin 4} {i : Nat} (hd : decode cc pc = .ok (.astore_n k, 1)) (hi : (k : Nat) = i) (hL : i < nL) (hn : pc + 1 = n) : vg_Snd tb nw shp nm cl tyl cc nL own ret d pc (vi_astore i n) := by
  subst hn
  refine ⟨vs_m1 fun K K' h lv st σ g => ?_, ?_⟩
  · split at g
    · exact h _ _ _ _ g
    · exact g
  intro p l e R s m args below meth c D tys ad A P C0 lv st σ h H locs ls hl ho hs hP hS
  unfold vi_astore at h
  split at h
  next x t => exact lv_astore_n C0.1 C0.2.1 hd hi hl hL (vg_lm_put ad lv i (.inr x)) (fun ls' hl' => h H locs ls' hl' (vg_ok_put ho (vg_okh hs)) (vg_okt hs) hP hS)
  next => exact h.elim
theorem vs_astore {i : Nat} (hd : decode cc pc = .ok (.astore i, 2)) (hL : i < nL) (hn : pc + 2 = n) : vg_Snd tb nw shp nm cl tyl cc nL own ret d pc (vi_astore i n) := by
  subst hn
  refine ⟨vs_m1 fun K K' h lv st σ g => ?_, ?_⟩
  · split at g
    · exact h _ _ _ _ g
    · exact g
  intro p l e R s m args below meth c D tys ad A P C0 lv st σ h H locs ls hl ho hs hP hS
  unfold vi_astore at h
  split at h
  next x t => exact lv_astore C0.1 C0.2.1 hd hl hL (vg_lm_put ad lv i (.inr x)) (fun ls' hl' => h H locs ls' hl' (vg_ok_put ho (vg_okh hs)) (vg_okt hs) hP hS)
  next => exact h.elim
theorem vs_iinc {i : Nat} {z : Int} {v : Int32} (hd : decode cc pc = .ok (.iinc i z, 3)) (hv : Int32.ofInt z = v) (hn : pc + 3 = n) : vg_Snd tb nw shp nm cl tyl cc nL own ret d pc (vi_iinc i v n) := by
  subst hn
  refine ⟨vs_m1 fun K K' h lv st σ g => ?_, ?_⟩
  · split at g
    · exact h _ _ _ _ g
    · exact g
  intro p l e R s m args below meth c D tys ad A P C0 lv st σ h H locs ls hl ho hs hP hS
  unfold vi_iinc at h
  split at h
  next x hx =>
    obtain ⟨k, hk⟩ := List.getElem?_of_mem (vg_look_mem hx)
    exact lv_iinc (k := k) C0.1 C0.2.1 hd hl (by unfold vg_lm; rw [List.getElem?_map, hk]; rfl) (by rw [hv]) (vg_lms hl hx) (vg_lm_put ad lv i (.inl (.int (x + v)))) (fun ls' hl' => h H locs ls' hl' (vg_ok_put ho trivial) hs hP hS)
  next => exact h.elim
theorem vs_iadd (hd : decode cc pc = .ok (.iadd, 1)) (hn : pc + 1 = n) : vg_Snd tb nw shp nm cl tyl cc nL own ret d pc (vi_bin (fun x y => x + y) n) := by
  subst hn
  refine ⟨vs_m1 fun K K' h lv st σ g => ?_, ?_⟩
  · split at g
    · exact h _ _ _ _ g
    · exact g
  intro p l e R s m args below meth c D tys ad A P C0 lv st σ h H locs ls hl ho hs hP hS
  unfold vi_bin at h
  split at h
  next y x t => exact lv_iadd C0.1 C0.2.1 hd (h H locs ls hl ho (vg_okc trivial (vg_okt (vg_okt hs))) hP hS)
  next => exact h.elim
theorem vs_isub (hd : decode cc pc = .ok (.isub, 1)) (hn : pc + 1 = n) : vg_Snd tb nw shp nm cl tyl cc nL own ret d pc (vi_bin (fun x y => x - y) n) := by
  subst hn
  refine ⟨vs_m1 fun K K' h lv st σ g => ?_, ?_⟩
  · split at g
    · exact h _ _ _ _ g
    · exact g
  intro p l e R s m args below meth c D tys ad A P C0 lv st σ h H locs ls hl ho hs hP hS
  unfold vi_bin at h
  split at h
  next y x t => exact lv_isub C0.1 C0.2.1 hd (h H locs ls hl ho (vg_okc trivial (vg_okt (vg_okt hs))) hP hS)
  next => exact h.elim
theorem vs_imul (hd : decode cc pc = .ok (.imul, 1)) (hn : pc + 1 = n) : vg_Snd tb nw shp nm cl tyl cc nL own ret d pc (vi_bin (fun x y => x * y) n) := by
  subst hn
  refine ⟨vs_m1 fun K K' h lv st σ g => ?_, ?_⟩
  · split at g
    · exact h _ _ _ _ g
    · exact g
  intro p l e R s m args below meth c D tys ad A P C0 lv st σ h H locs ls hl ho hs hP hS
  unfold vi_bin at h
  split at h
  next y x t => exact lv_imul C0.1 C0.2.1 hd (h H locs ls hl ho (vg_okc trivial (vg_okt (vg_okt hs))) hP hS)
  next => exact h.elim
theorem vs_iand (hd : decode cc pc = .ok (.iand, 1)) (hn : pc + 1 = n) : vg_Snd tb nw shp nm cl tyl cc nL own ret d pc (vi_bin (fun x y => x &&& y) n) := by
  subst hn
  refine ⟨vs_m1 fun K K' h lv st σ g => ?_, ?_⟩
  · split at g
    · exact h _ _ _ _ g
    · exact g
  intro p l e R s m args below meth c D tys ad A P C0 lv st σ h H locs ls hl ho hs hP hS
  unfold vi_bin at h
  split at h
  next y x t => exact lv_iand C0.1 C0.2.1 hd (h H locs ls hl ho (vg_okc trivial (vg_okt (vg_okt hs))) hP hS)
  next => exact h.elim
theorem vs_ior (hd : decode cc pc = .ok (.ior, 1)) (hn : pc + 1 = n) : vg_Snd tb nw shp nm cl tyl cc nL own ret d pc (vi_bin (fun x y => x ||| y) n) := by
  subst hn
  refine ⟨vs_m1 fun K K' h lv st σ g => ?_, ?_⟩
  · split at g
    · exact h _ _ _ _ g
    · exact g
  intro p l e R s m args below meth c D tys ad A P C0 lv st σ h H locs ls hl ho hs hP hS
  unfold vi_bin at h
  split at h
  next y x t => exact lv_ior C0.1 C0.2.1 hd (h H locs ls hl ho (vg_okc trivial (vg_okt (vg_okt hs))) hP hS)
  next => exact h.elim
theorem vs_ixor (hd : decode cc pc = .ok (.ixor, 1)) (hn : pc + 1 = n) : vg_Snd tb nw shp nm cl tyl cc nL own ret d pc (vi_bin (fun x y => x ^^^ y) n) := by
  subst hn
  refine ⟨vs_m1 fun K K' h lv st σ g => ?_, ?_⟩
  · split at g
    · exact h _ _ _ _ g
    · exact g
  intro p l e R s m args below meth c D tys ad A P C0 lv st σ h H locs ls hl ho hs hP hS
  unfold vi_bin at h
  split at h
  next y x t => exact lv_ixor C0.1 C0.2.1 hd (h H locs ls hl ho (vg_okc trivial (vg_okt (vg_okt hs))) hP hS)
  next => exact h.elim
theorem vs_ishl (hd : decode cc pc = .ok (.ishl, 1)) (hn : pc + 1 = n) : vg_Snd tb nw shp nm cl tyl cc nL own ret d pc (vi_bin (fun x y => x <<< (y &&& 31)) n) := by
  subst hn
  refine ⟨vs_m1 fun K K' h lv st σ g => ?_, ?_⟩
  · split at g
    · exact h _ _ _ _ g
    · exact g
  intro p l e R s m args below meth c D tys ad A P C0 lv st σ h H locs ls hl ho hs hP hS
  unfold vi_bin at h
  split at h
  next y x t => exact lv_ishl C0.1 C0.2.1 hd (h H locs ls hl ho (vg_okc trivial (vg_okt (vg_okt hs))) hP hS)
  next => exact h.elim
theorem vs_ishr (hd : decode cc pc = .ok (.ishr, 1)) (hn : pc + 1 = n) : vg_Snd tb nw shp nm cl tyl cc nL own ret d pc (vi_bin (fun x y => x >>> (y &&& 31)) n) := by
  subst hn
  refine ⟨vs_m1 fun K K' h lv st σ g => ?_, ?_⟩
  · split at g
    · exact h _ _ _ _ g
    · exact g
  intro p l e R s m args below meth c D tys ad A P C0 lv st σ h H locs ls hl ho hs hP hS
  unfold vi_bin at h
  split at h
  next y x t => exact lv_ishr C0.1 C0.2.1 hd (h H locs ls hl ho (vg_okc trivial (vg_okt (vg_okt hs))) hP hS)
  next => exact h.elim
theorem vs_idiv (hd : decode cc pc = .ok (.idiv, 1)) (hn : pc + 1 = n) : vg_Snd tb nw shp nm cl tyl cc nL own ret d pc (vi_div (fun x y => x / y) n) := by
  subst hn
  refine ⟨vs_m1 fun K K' h lv st σ g => ?_, ?_⟩
  · split at g
    · exact ⟨g.1, h _ _ _ _ g.2⟩
    · exact g
  intro p l e R s m args below meth c D tys ad A P C0 lv st σ h H locs ls hl ho hs hP hS
  unfold vi_div at h
  split at h
  next y x t => exact lv_idiv C0.1 C0.2.1 hd h.1 (h.2 H locs ls hl ho (vg_okc trivial (vg_okt (vg_okt hs))) hP hS)
  next => exact h.elim
theorem vs_irem (hd : decode cc pc = .ok (.irem, 1)) (hn : pc + 1 = n) : vg_Snd tb nw shp nm cl tyl cc nL own ret d pc (vi_div (fun x y => x - x / y * y) n) := by
  subst hn
  refine ⟨vs_m1 fun K K' h lv st σ g => ?_, ?_⟩
  · split at g
    · exact ⟨g.1, h _ _ _ _ g.2⟩
    · exact g
  intro p l e R s m args below meth c D tys ad A P C0 lv st σ h H locs ls hl ho hs hP hS
  unfold vi_div at h
  split at h
  next y x t => exact lv_irem C0.1 C0.2.1 hd h.1 (h.2 H locs ls hl ho (vg_okc trivial (vg_okt (vg_okt hs))) hP hS)
  next => exact h.elim
theorem vs_ladd (hd : decode cc pc = .ok (.ladd, 1)) (hn : pc + 1 = n) : vg_Snd tb nw shp nm cl tyl cc nL own ret d pc (vi_lbin (fun x y => x + y) n) := by
  subst hn
  refine ⟨vs_m1 fun K K' h lv st σ g => ?_, ?_⟩
  · split at g
    · exact h _ _ _ _ g
    · exact g
  intro p l e R s m args below meth c D tys ad A P C0 lv st σ h H locs ls hl ho hs hP hS
  unfold vi_lbin at h
  split at h
  next y x t => exact lv_ladd C0.1 C0.2.1 hd (h H locs ls hl ho (vg_okc trivial (vg_okt (vg_okt hs))) hP hS)
  next => exact h.elim
theorem vs_lmul (hd : decode cc pc = .ok (.lmul, 1)) (hn : pc + 1 = n) : vg_Snd tb nw shp nm cl tyl cc nL own ret d pc (vi_lbin (fun x y => x * y) n) := by
  subst hn
  refine ⟨vs_m1 fun K K' h lv st σ g => ?_, ?_⟩
  · split at g
    · exact h _ _ _ _ g
    · exact g
  intro p l e R s m args below meth c D tys ad A P C0 lv st σ h H locs ls hl ho hs hP hS
  unfold vi_lbin at h
  split at h
  next y x t => exact lv_lmul C0.1 C0.2.1 hd (h H locs ls hl ho (vg_okc trivial (vg_okt (vg_okt hs))) hP hS)
  next => exact h.elim
theorem vs_i2l (hd : decode cc pc = .ok (.i2l, 1)) (hn : pc + 1 = n) : vg_Snd tb nw shp nm cl tyl cc nL own ret d pc (vi_i2l n) := by
  subst hn
  refine ⟨vs_m1 fun K K' h lv st σ g => ?_, ?_⟩
  · split at g
    · exact h _ _ _ _ g
    · exact g
  intro p l e R s m args below meth c D tys ad A P C0 lv st σ h H locs ls hl ho hs hP hS
  unfold vi_i2l at h
  split at h
  next x t => exact lv_i2l C0.1 C0.2.1 hd rfl (h H locs ls hl ho (vg_okc trivial (vg_okt hs)) hP hS)
  next => exact h.elim
theorem vs_if_eq {off : Int} {g : Nat} (hd : decode cc pc = .ok (.ifCond .eq off, 3)) (ht : (pc : Int) + off = (g : Int)) (hn : pc + 3 = n) : vg_Snd tb nw shp nm cl tyl cc nL own ret d pc (vi_if (fun x => x = 0) g n) := by
  subst hn
  refine ⟨vs_m1 fun K K' h lv st σ g => ?_, ?_⟩
  · split at g
    · exact ⟨fun q => h _ _ _ _ (g.1 q), fun q => h _ _ _ _ (g.2 q)⟩
    · exact g
  intro p l e R s m args below meth c D tys ad A P C0 lv st σ h H locs ls hl ho hs hP hS
  unfold vi_if at h
  split at h
  next x t => exact lv_if_eq C0.1 C0.2.1 hd ht (fun q => h.1 q H locs ls hl ho (vg_okt hs) hP hS) (fun q => h.2 q H locs ls hl ho (vg_okt hs) hP hS)
  next => exact h.elim
theorem vs_if_ne {off : Int} {g : Nat} (hd : decode cc pc = .ok (.ifCond .ne off, 3)) (ht : (pc : Int) + off = (g : Int)) (hn : pc + 3 = n) : vg_Snd tb nw shp nm cl tyl cc nL own ret d pc (vi_if (fun x => x = 0) n g) := by
  subst hn
  refine ⟨vs_m1 fun K K' h lv st σ g => ?_, ?_⟩
  · split at g
    · exact ⟨fun q => h _ _ _ _ (g.1 q), fun q => h _ _ _ _ (g.2 q)⟩
    · exact g
  intro p l e R s m args below meth c D tys ad A P C0 lv st σ h H locs ls hl ho hs hP hS
  unfold vi_if at h
  split at h
  next x t => exact lv_if_ne C0.1 C0.2.1 hd ht (fun q => h.2 q H locs ls hl ho (vg_okt hs) hP hS) (fun q => h.1 q H locs ls hl ho (vg_okt hs) hP hS)
  next => exact h.elim
theorem vs_if_lt {off : Int} {g : Nat} (hd : decode cc pc = .ok (.ifCond .lt off, 3)) (ht : (pc : Int) + off = (g : Int)) (hn : pc + 3 = n) : vg_Snd tb nw shp nm cl tyl cc nL own ret d pc (vi_if (fun x => x < 0) g n) := by
  subst hn
  refine ⟨vs_m1 fun K K' h lv st σ g => ?_, ?_⟩
  · split at g
    · exact ⟨fun q => h _ _ _ _ (g.1 q), fun q => h _ _ _ _ (g.2 q)⟩
    · exact g
  intro p l e R s m args below meth c D tys ad A P C0 lv st σ h H locs ls hl ho hs hP hS
  unfold vi_if at h
  split at h
  next x t => exact lv_if_lt C0.1 C0.2.1 hd ht (fun q => h.1 q H locs ls hl ho (vg_okt hs) hP hS) (fun q => h.2 q H locs ls hl ho (vg_okt hs) hP hS)
  next => exact h.elim
theorem vs_if_ge {off : Int} {g : Nat} (hd : decode cc pc = .ok (.ifCond .ge off, 3)) (ht : (pc : Int) + off = (g : Int)) (hn : pc + 3 = n) : vg_Snd tb nw shp nm cl tyl cc nL own ret d pc (vi_if (fun x => 0 ≤ x) g n) := by
  subst hn
  refine ⟨vs_m1 fun K K' h lv st σ g => ?_, ?_⟩
  · split at g
    · exact ⟨fun q => h _ _ _ _ (g.1 q), fun q => h _ _ _ _ (g.2 q)⟩
    · exact g
  intro p l e R s m args below meth c D tys ad A P C0 lv st σ h H locs ls hl ho hs hP hS
  unfold vi_if at h
  split at h
  next x t => exact lv_if_ge C0.1 C0.2.1 hd ht (fun q => h.1 q H locs ls hl ho (vg_okt hs) hP hS) (fun q => h.2 q H locs ls hl ho (vg_okt hs) hP hS)
  next => exact h.elim
theorem vs_if_gt {off : Int} {g : Nat} (hd : decode cc pc = .ok (.ifCond .gt off, 3)) (ht : (pc : Int) + off = (g : Int)) (hn : pc + 3 = n) : vg_Snd tb nw shp nm cl tyl cc nL own ret d pc (vi_if (fun x => 0 < x) g n) := by
  subst hn
  refine ⟨vs_m1 fun K K' h lv st σ g => ?_, ?_⟩
  · split at g
    · exact ⟨fun q => h _ _ _ _ (g.1 q), fun q => h _ _ _ _ (g.2 q)⟩
    · exact g
  intro p l e R s m args below meth c D tys ad A P C0 lv st σ h H locs ls hl ho hs hP hS
  unfold vi_if at h
  split at h
  next x t => exact lv_if_gt C0.1 C0.2.1 hd ht (fun q => h.1 q H locs ls hl ho (vg_okt hs) hP hS) (fun q => h.2 q H locs ls hl ho (vg_okt hs) hP hS)
  next => exact h.elim
theorem vs_if_le {off : Int} {g : Nat} (hd : decode cc pc = .ok (.ifCond .le off, 3)) (ht : (pc : Int) + off = (g : Int)) (hn : pc + 3 = n) : vg_Snd tb nw shp nm cl tyl cc nL own ret d pc (vi_if (fun x => x ≤ 0) g n) := by
  subst hn
  refine ⟨vs_m1 fun K K' h lv st σ g => ?_, ?_⟩
  · split at g
    · exact ⟨fun q => h _ _ _ _ (g.1 q), fun q => h _ _ _ _ (g.2 q)⟩
    · exact g
  intro p l e R s m args below meth c D tys ad A P C0 lv st σ h H locs ls hl ho hs hP hS
  unfold vi_if at h
  split at h
  next x t => exact lv_if_le C0.1 C0.2.1 hd ht (fun q => h.1 q H locs ls hl ho (vg_okt hs) hP hS) (fun q => h.2 q H locs ls hl ho (vg_okt hs) hP hS)
  next => exact h.elim
theorem vs_cmp_eq {off : Int} {g : Nat} (hd : decode cc pc = .ok (.if_icmp .eq off, 3)) (ht : (pc : Int) + off = (g : Int)) (hn : pc + 3 = n) : vg_Snd tb nw shp nm cl tyl cc nL own ret d pc (vi_cmp (fun x y => x = y) g n) := by
  subst hn
  refine ⟨vs_m1 fun K K' h lv st σ g => ?_, ?_⟩
  · split at g
    · exact ⟨fun q => h _ _ _ _ (g.1 q), fun q => h _ _ _ _ (g.2 q)⟩
    · exact g
  intro p l e R s m args below meth c D tys ad A P C0 lv st σ h H locs ls hl ho hs hP hS
  unfold vi_cmp at h
  split at h
  next y x t => exact lv_icmp_eq C0.1 C0.2.1 hd ht (fun q => h.1 q H locs ls hl ho (vg_okt (vg_okt hs)) hP hS) (fun q => h.2 q H locs ls hl ho (vg_okt (vg_okt hs)) hP hS)
  next => exact h.elim
theorem vs_cmp_ne {off : Int} {g : Nat} (hd : decode cc pc = .ok (.if_icmp .ne off, 3)) (ht : (pc : Int) + off = (g : Int)) (hn : pc + 3 = n) : vg_Snd tb nw shp nm cl tyl cc nL own ret d pc (vi_cmp (fun x y => x = y) n g) := by
  subst hn
  refine ⟨vs_m1 fun K K' h lv st σ g => ?_, ?_⟩
  · split at g
    · exact ⟨fun q => h _ _ _ _ (g.1 q), fun q => h _ _ _ _ (g.2 q)⟩
    · exact g
  intro p l e R s m args below meth c D tys ad A P C0 lv st σ h H locs ls hl ho hs hP hS
  unfold vi_cmp at h
  split at h
  next y x t => exact lv_icmp_ne C0.1 C0.2.1 hd ht (fun q => h.2 q H locs ls hl ho (vg_okt (vg_okt hs)) hP hS) (fun q => h.1 q H locs ls hl ho (vg_okt (vg_okt hs)) hP hS)
  next => exact h.elim
theorem vs_cmp_lt {off : Int} {g : Nat} (hd : decode cc pc = .ok (.if_icmp .lt off, 3)) (ht : (pc : Int) + off = (g : Int)) (hn : pc + 3 = n) : vg_Snd tb nw shp nm cl tyl cc nL own ret d pc (vi_cmp (fun x y => x < y) g n) := by
  subst hn
  refine ⟨vs_m1 fun K K' h lv st σ g => ?_, ?_⟩
  · split at g
    · exact ⟨fun q => h _ _ _ _ (g.1 q), fun q => h _ _ _ _ (g.2 q)⟩
    · exact g
  intro p l e R s m args below meth c D tys ad A P C0 lv st σ h H locs ls hl ho hs hP hS
  unfold vi_cmp at h
  split at h
  next y x t => exact lv_icmp_lt C0.1 C0.2.1 hd ht (fun q => h.1 q H locs ls hl ho (vg_okt (vg_okt hs)) hP hS) (fun q => h.2 q H locs ls hl ho (vg_okt (vg_okt hs)) hP hS)
  next => exact h.elim
theorem vs_cmp_ge {off : Int} {g : Nat} (hd : decode cc pc = .ok (.if_icmp .ge off, 3)) (ht : (pc : Int) + off = (g : Int)) (hn : pc + 3 = n) : vg_Snd tb nw shp nm cl tyl cc nL own ret d pc (vi_cmp (fun x y => y ≤ x) g n) := by
  subst hn
  refine ⟨vs_m1 fun K K' h lv st σ g => ?_, ?_⟩
  · split at g
    · exact ⟨fun q => h _ _ _ _ (g.1 q), fun q => h _ _ _ _ (g.2 q)⟩
    · exact g
  intro p l e R s m args below meth c D tys ad A P C0 lv st σ h H locs ls hl ho hs hP hS
  unfold vi_cmp at h
  split at h
  next y x t => exact lv_icmp_ge C0.1 C0.2.1 hd ht (fun q => h.1 q H locs ls hl ho (vg_okt (vg_okt hs)) hP hS) (fun q => h.2 q H locs ls hl ho (vg_okt (vg_okt hs)) hP hS)
  next => exact h.elim
theorem vs_cmp_gt {off : Int} {g : Nat} (hd : decode cc pc = .ok (.if_icmp .gt off, 3)) (ht : (pc : Int) + off = (g : Int)) (hn : pc + 3 = n) : vg_Snd tb nw shp nm cl tyl cc nL own ret d pc (vi_cmp (fun x y => y < x) g n) := by
  subst hn
  refine ⟨vs_m1 fun K K' h lv st σ g => ?_, ?_⟩
  · split at g
    · exact ⟨fun q => h _ _ _ _ (g.1 q), fun q => h _ _ _ _ (g.2 q)⟩
    · exact g
  intro p l e R s m args below meth c D tys ad A P C0 lv st σ h H locs ls hl ho hs hP hS
  unfold vi_cmp at h
  split at h
  next y x t => exact lv_icmp_gt C0.1 C0.2.1 hd ht (fun q => h.1 q H locs ls hl ho (vg_okt (vg_okt hs)) hP hS) (fun q => h.2 q H locs ls hl ho (vg_okt (vg_okt hs)) hP hS)
  next => exact h.elim
theorem vs_cmp_le {off : Int} {g : Nat} (hd : decode cc pc = .ok (.if_icmp .le off, 3)) (ht : (pc : Int) + off = (g : Int)) (hn : pc + 3 = n) : vg_Snd tb nw shp nm cl tyl cc nL own ret d pc (vi_cmp (fun x y => x ≤ y) g n) := by
  subst hn
  refine ⟨vs_m1 fun K K' h lv st σ g => ?_, ?_⟩
  · split at g
    · exact ⟨fun q => h _ _ _ _ (g.1 q), fun q => h _ _ _ _ (g.2 q)⟩
    · exact g
  intro p l e R s m args below meth c D tys ad A P C0 lv st σ h H locs ls hl ho hs hP hS
  unfold vi_cmp at h
  split at h
  next y x t => exact lv_icmp_le C0.1 C0.2.1 hd ht (fun q => h.1 q H locs ls hl ho (vg_okt (vg_okt hs)) hP hS) (fun q => h.2 q H locs ls hl ho (vg_okt (vg_okt hs)) hP hS)
  next => exact h.elim
theorem vs_goto {off : Int} {g : Nat} (hd : decode cc pc = .ok (.goto off, 3)) (ht : (pc : Int) + off = (g : Int)) : vg_Snd tb nw shp nm cl tyl cc nL own ret d pc (vi_goto g) := by
  refine ⟨vs_m1 fun K K' h lv st σ g => h _ _ _ _ g, ?_⟩
  intro p l e R s m args below meth c D tys ad A P C0 lv st σ h H locs ls hl ho hs hP hS
  exact lv_goto C0.1 C0.2.1 hd ht (h H locs ls hl ho hs hP hS)
theorem vi_sw0_mono {x : Int32} {d d' : Prop} (hd : d → d') {α : Type} {f f' : α → Prop} (hf : ∀ a, f a → f' a) : ∀ (l : List (Int32 × α)), vi_sw0 x d (l.map (fun q => (q.1, f q.2))) → vi_sw0 x d' (l.map (fun q => (q.1, f' q.2)))
  | [], h => hd h
  | q :: r, h => ⟨fun z => hf _ (h.1 z), fun z => vi_sw0_mono hd hf r (h.2 z)⟩
theorem vs_tsw0 {x : Int32} {dP : Prop} {α : Type} {f : α → Prop} : ∀ (cs : List (Int32 × α)), vi_sw0 x dP (cs.map (fun q => (q.1, f q.2))) → (∃ (i : Nat) (q : Int32 × α), cs[i]? = some q ∧ x = q.1 ∧ f q.2) ∨ ((∀ (i : Nat) (q : Int32 × α), cs[i]? = some q → ¬ x = q.1) ∧ dP)
  | [], h => Or.inr ⟨fun i q hq => by simp at hq, h⟩
  | q :: r, h => by
    by_cases hx : x = q.1
    · exact Or.inl ⟨0, q, rfl, hx, h.1 hx⟩
    · rcases vs_tsw0 r (h.2 hx) with ⟨i, a, h1, h2, h3⟩ | ⟨h1, h2⟩
      · exact Or.inl ⟨i + 1, a, h1, h2, h3⟩
      · refine Or.inr ⟨fun i a ha => ?_, h2⟩
        cases i with
        | zero => cases ha; exact hx
        | succ i => exact h1 i a ha
/-- a tableswitch from 0: its targets in a row -/
theorem vs_tsw {dflt hi : Int} {offs : Array Int} {len g : Nat} {cs : List (Int32 × Nat)} (hd : decode cc pc = .ok (.tableswitch dflt 0 hi offs, len)) (hg : (pc : Int) + dflt = (g : Int)) (hh : hi + 1 = (cs.length : Int))
    (hc : ∀ i : Nat, i < cs.length → ∃ q off, cs[i]? = some q ∧ offs[i]? = some off ∧ q.1.toInt = (i : Int) ∧ (pc : Int) + off = (q.2 : Int)) : vg_Snd tb nw shp nm cl tyl cc nL own ret d pc (vi_sw cs g) := by
  refine ⟨vs_m1 fun K K' h lv st σ g => ?_, ?_⟩
  · split at g
    · exact vi_sw0_mono (h _ _ _ _) (f := fun q => K q lv _ σ) (f' := fun q => K' q lv _ σ) (fun q => h _ _ _ _) cs g
    · exact g
  intro p l e R s m args below meth c D tys ad A P C0 lv st σ h H locs ls hl ho hs hP hS
  unfold vi_sw at h
  split at h
  next x t =>
    rcases vs_tsw0 (f := fun q => vg_X shp nm cl nL p l e R s m args below meth c D tys ad A P q lv t σ) cs h with ⟨i, q, h1, h2, h3⟩ | ⟨h1, h2⟩
    · have hi := (List.getElem?_eq_some_iff.mp h1).1
      obtain ⟨q', off, e1, e2, e3, e4⟩ := hc i hi
      cases e1.symm.trans h1
      refine lv_tableIn C0.1 C0.2.1 hd (by rw [h2, e3]; omega) (by rw [h2, e3]; omega) (off := off) ?_ e4 (h3 H locs ls hl ho (vg_okt hs) hP hS)
      rw [h2, e3, Int.sub_zero, Int.toNat_natCast]
      exact e2
    · refine lv_tableOut C0.1 C0.2.1 hd ?_ hg (h2 H locs ls hl ho (vg_okt hs) hP hS)
      rcases Int.lt_or_le x.toInt 0 with z | z
      · exact Or.inl z
      · refine Or.inr (Int.not_le.mp fun y => ?_)
        have hi : x.toInt.toNat < cs.length := by omega
        obtain ⟨q', off, e1, e2, e3, e4⟩ := hc _ hi
        exact h1 _ q' e1 (Int32.toInt_inj.mp (by rw [e3]; omega))
  next => exact h.elim
theorem vg_cat1 {ad : vgN → Nat} {v : vgV} (h : vg_c2 v = false) : (vg_cv ad v).category = 1 := by
  cases v with
  | inl v => cases v <;> first | rfl | cases h
  | inr n => rfl
theorem vg_wd_sum (ad : vgN → Nat) : ∀ t : vgT, ((t.map (vg_cv ad)).map fun v => v.category).sum = vg_wd t
  | [] => rfl
  | v :: t => by
    have ih := vg_wd_sum ad t
    have h := vg_c2_eq ad v
    show (vg_cv ad v).category + ((t.map (vg_cv ad)).map fun v => v.category).sum = (if vg_c2 v then 2 else 1) + vg_wd t
    rw [ih]
    cases hc : vg_c2 v with
    | true => rw [hc] at h; simp [beq_iff_eq.mp h]
    | false => simp [vg_cat1 hc]
theorem vs_dup (hd : decode cc pc = .ok (.dup, 1)) (hn : pc + 1 = n) : vg_Snd tb nw shp nm cl tyl cc nL own ret d pc (vi_dup n) := by
  subst hn
  refine ⟨vs_m1 fun K K' h lv st σ g => ?_, ?_⟩
  · split at g
    · exact ⟨g.1, h _ _ _ _ g.2⟩
    · exact g
  intro p l e R s m args below meth c D tys ad A P C0 lv st σ h H locs ls hl ho hs hP hS
  unfold vi_dup at h
  split at h
  next a t => exact lv_dup C0.1 C0.2.1 hd (vg_cat1 h.1) (h.2 H locs ls hl ho (vg_okc (vg_okh hs) hs) hP hS)
  next => exact h.elim
theorem vs_pop (hd : decode cc pc = .ok (.pop, 1)) (hn : pc + 1 = n) : vg_Snd tb nw shp nm cl tyl cc nL own ret d pc (vi_pop n) := by
  subst hn
  refine ⟨vs_m1 fun K K' h lv st σ g => ?_, ?_⟩
  · split at g
    · exact ⟨g.1, h _ _ _ _ g.2⟩
    · exact g
  intro p l e R s m args below meth c D tys ad A P C0 lv st σ h H locs ls hl ho hs hP hS
  unfold vi_pop at h
  split at h
  next a t => exact lv_pop C0.1 C0.2.1 hd (vg_cat1 h.1) (h.2 H locs ls hl ho (vg_okt hs) hP hS)
  next => exact h.elim
theorem vs_dup_x1 (hd : decode cc pc = .ok (.dup_x1, 1)) (hn : pc + 1 = n) : vg_Snd tb nw shp nm cl tyl cc nL own ret d pc (vi_dupx1 n) := by
  subst hn
  refine ⟨vs_m1 fun K K' h lv st σ g => ?_, ?_⟩
  · split at g
    · exact ⟨g.1, h _ _ _ _ g.2⟩
    · exact g
  intro p l e R s m args below meth c D tys ad A P C0 lv st σ h H locs ls hl ho hs hP hS
  unfold vi_dupx1 at h
  split at h
  next a b t => exact lv_dup_x1 C0.1 C0.2.1 hd (vg_cat1 h.1.1) (vg_cat1 h.1.2) (h.2 H locs ls hl ho (vg_okc (vg_okh hs) (vg_okc (vg_okh (vg_okt hs)) (vg_okc (vg_okh hs) (vg_okt (vg_okt hs))))) hP hS)
  next => exact h.elim
theorem vs_dup2 (hd : decode cc pc = .ok (.dup2, 1)) (hn : pc + 1 = n) : vg_Snd tb nw shp nm cl tyl cc nL own ret d pc (vi_dup2 n) := by
  subst hn
  refine ⟨vs_m1 fun K K' h lv st σ g => ?_, ?_⟩
  · split at g
    · exact ⟨g.1, h _ _ _ _ g.2⟩
    · exact g
  intro p l e R s m args below meth c D tys ad A P C0 lv st σ h H locs ls hl ho hs hP hS
  unfold vi_dup2 at h
  split at h
  next a b t => exact lv_dup2_11 C0.1 C0.2.1 hd (vg_cat1 h.1.1) (vg_cat1 h.1.2) (h.2 H locs ls hl ho (vg_okc (vg_okh hs) (vg_okc (vg_okh (vg_okt hs)) hs)) hP hS)
  next => exact h.elim
theorem vs_ireturn (hd : decode cc pc = .ok (.ireturn, 1)) (hr : ret = some .int) : vg_Snd tb nw shp nm cl tyl cc nL own ret d pc vi_ret := by
  refine ⟨fun P K K' h lv st σ g => g, ?_⟩
  intro p l e R s m args below meth c D tys ad A P C0 lv st σ h H locs ls hl ho hs hP hS
  unfold vi_ret at h
  split at h
  next x => exact W.iret (v := x) C0.1 C0.2.1 (C0.2.2.2.2.2.2.2.1.trans hr) (fun t ht hW => ⟨⟨some (.inl (.int x)), σ, rfl, h, fun v hv => by cases hv; exact trivial, by rw [ht]; exact hP⟩, hS.F ht⟩) hS.2.2 hd C0.2.2.2.2.2.2.2.2.1
  next => exact h.elim
theorem vs_zreturn (hd : decode cc pc = .ok (.ireturn, 1)) (hr : ret = some .boolean) : vg_Snd tb nw shp nm cl tyl cc nL own ret d pc vi_retZ := by
  refine ⟨fun P K K' h lv st σ g => g, ?_⟩
  intro p l e R s m args below meth c D tys ad A P C0 lv st σ h H locs ls hl ho hs hP hS
  unfold vi_retZ at h
  split at h
  next x => exact W.zret (v := x) C0.1 C0.2.1 (C0.2.2.2.2.2.2.2.1.trans hr) (by rcases h.1 with rfl | rfl <;> rfl) (fun t ht hW => ⟨⟨some (.inl (.int x)), σ, rfl, h.2, fun v hv => by cases hv; exact trivial, by rw [ht]; exact hP⟩, hS.F ht⟩) hS.2.2 hd C0.2.2.2.2.2.2.2.2.1
  next => exact h.elim
theorem vs_lreturn (hd : decode cc pc = .ok (.lreturn, 1)) (hr : ret = some .long) : vg_Snd tb nw shp nm cl tyl cc nL own ret d pc vi_retL := by
  refine ⟨fun P K K' h lv st σ g => g, ?_⟩
  intro p l e R s m args below meth c D tys ad A P C0 lv st σ h H locs ls hl ho hs hP hS
  unfold vi_retL at h
  split at h
  next x => exact W.lret (v := x) C0.1 C0.2.1 (C0.2.2.2.2.2.2.2.1.trans hr) (fun t ht hW => ⟨⟨some (.inl (.long x)), σ, rfl, h, fun v hv => by cases hv; exact trivial, by rw [ht]; exact hP⟩, hS.F ht⟩) hS.2.2 hd C0.2.2.2.2.2.2.2.2.1
  next => exact h.elim
theorem vs_return (hd : decode cc pc = .ok (.return_, 1)) (hr : ret = none) : vg_Snd tb nw shp nm cl tyl cc nL own ret d pc vi_retV := by
  refine ⟨fun P K K' h lv st σ g => g, ?_⟩
  intro p l e R s m args below meth c D tys ad A P C0 lv st σ h H locs ls hl ho hs hP hS
  unfold vi_retV at h
  split at h
  next => exact W.vret C0.1 C0.2.1 (C0.2.2.2.2.2.2.2.1.trans hr) (fun t ht hW => ⟨⟨none, σ, rfl, h, fun v hv => (by cases hv), by rw [ht]; exact hP⟩, hS.F ht⟩) hS.2.2 hd C0.2.2.2.2.2.2.2.2.1
  next => exact h.elim
end VS
end
section
/-! rows that read and write cells, and calls -/
section VS2
variable {tb : List Cond} {nw : List (String × Nat × MethodName × String)} {shp : vgN → vgH} {nm : List vgN} {cl : List vw_C} {tyl : List FieldType} {cc : ByteArray} {nL : Nat} {own : String} {ret : Option FieldType} {d pc n : Nat}
theorem vg_tys {tys : List (ClassId × FieldType)} {tyl : List FieldType} {t : Nat} {ty : FieldType} (h : tys.map (fun q => q.2) = tyl) (ht : tyl[t]? = some ty) : tys[t]? = some (vg_ty tys t, ty) := by
  subst h
  rw [List.getElem?_map] at ht
  unfold vg_ty
  cases hq : tys[t]? with
  | none => rw [hq] at ht; cases ht
  | some q => rw [hq] at ht; cases ht; rfl
theorem vs_getfield {ci k ix : Nat} {C : String} {T : u_T} {N : Nat} (hd : decode cc pc = .ok (.getfield ix, 3)) (hc : cl[ci]? = some (C, T, N)) (hk : k < N) (hin : ∀ w ∈ u_ws C T N, w ∈ tb) (hw : Cond.fieldLink own ix (T k).1 (T k).2.1 (T k).2.2.1 ∈ tb) (hn : pc + 3 = n) : vg_Snd tb nw shp nm cl tyl cc nL own ret d pc (vi_get shp ci k n) := by
  subst hn
  refine ⟨vs_m1 fun K K' h lv st σ g => ?_, ?_⟩
  · split at g
    · split at g
      next q _ =>
        cases hb : Nat.beq q.1 ci with
        | false => rw [hb] at g; exact g.elim
        | true =>
          rw [hb] at g
          show (match vg_nth q.2 k with | some none => _ | some (some z) => _ | none => False)
          have g' : (match vg_nth q.2 k with | some none => _ | some (some z) => _ | none => False) := g
          split at g'
          · exact h _ _ _ _ g'
          · exact h _ _ _ _ g'
          · exact g'
      next => exact g
    · exact g
  intro p l e R s m args below meth c D tys ad A P C0 lv st σ h H locs ls hl ho hs hP hS
  unfold vi_get at h
  split at h
  next m0 t =>
    split at h
    next q hq =>
      cases hb : Nat.beq q.1 ci with
      | false => rw [hb] at h; exact h.elim
      | true =>
        rw [hb] at h
        have e : q.1 = ci := Nat.eq_of_beq_eq_true hb
        have h' : (match vg_nth q.2 k with | some none => _ | some (some z) => _ | none => False) := h
        obtain ⟨q0, hq0, hws⟩ := vg_ws_get (shp := shp) (ad := ad) (tys := tys) (σ := σ) (show m0 ∈ nm from vg_okh hs)
        rw [hq] at hws
        have hws2 : (vg_ws shp nm ad tys σ)[q0]? = some (ad m0, .inr (ci, vg_fs ad (σ m0) 0 q.2)) := by rw [hws]; show some (ad m0, Sum.inr (q.1, _)) = _; rw [e]
        have hg := vg_fs_get ad (σ m0) q.2 0 k
        rw [← vg_nth_eq, Nat.zero_add] at hg
        split at h'
        next hz =>
          rw [hz] at hg
          exact va_get (D := D) C0.1 C0.2.1 C0.2.2.2.2.1 hin C0.2.2.2.1 C0.2.2.2.2.2.1 hP q0 hws2 hc k hk (C0.2.2.2.2.1 _ hw) (fun _ z => z) hg hd (h' H locs ls hl ho (vg_okc trivial (vg_okt hs)) hP hS)
        next z hz =>
          rw [hz] at hg
          have hcl := C0.2.2.2.2.2.2.2.2.2.2.2.2.1 m0 (vg_okh hs)
          rw [hq] at hcl
          have hm : z ∈ nm := hcl z (by rw [vg_nth_eq] at hz; exact List.mem_of_getElem? hz)
          exact va_get (D := D) C0.1 C0.2.1 C0.2.2.2.2.1 hin C0.2.2.2.1 C0.2.2.2.2.2.1 hP q0 hws2 hc k hk (C0.2.2.2.2.1 _ hw) (fun _ z => z) hg hd (h' H locs ls hl ho (vg_okc hm (vg_okt hs)) hP hS)
        next => exact h'.elim
    next => exact h.elim
  next => exact h.elim
theorem vg_put_ws {σ : vgS} {ad : vgN → Nat} {tys : List (ClassId × FieldType)} {A : Nat → Prop} {m0 : vgN} {q0 ci k : Nat} {sl : List (Option vgN)} {x : Int32} (hD : va_D A (vg_ws shp nm ad tys σ)) (hq0 : nm[q0]? = some m0) (hq : shp m0 = .inl (ci, sl)) (hz : sl[k]? = some none) : (vg_ws shp nm ad tys σ).set q0 (ad m0, .inr (ci, (vg_fs ad (σ m0) 0 sl).set k (.int x))) = vg_ws shp nm ad tys (vg_st σ m0 k x) := by
  refine vg_ws_set hD hq0 ?_ (fun n' hn' => ?_)
  · rw [hq, vg_fs_set ad (σ m0) x sl k hz]
    show _ = Sum.inr (ci, vg_fs ad (vg_st σ m0 k x m0) 0 sl)
    congr 3
    funext j
    unfold vg_st
    simp
  · funext j
    unfold vg_st
    simp [hn']
theorem vs_putfield {ci k ix : Nat} {C : String} {T : u_T} {N : Nat} (ty0 : Nat → FieldType) (hd : decode cc pc = .ok (.putfield ix, 3)) (hc : cl[ci]? = some (C, T, N)) (hk : k < N) (hin : ∀ w ∈ u_ws C T N, w ∈ tb) (hty : ∀ k, k < N → parseFieldDescriptor (T k).2.2.1 = some (ty0 k)) (hnm : ∀ a, a < N → ∀ b, b < N → a ≠ b → (T a).2.1 ≠ (T b).2.1) (hfin : (T k).2.2.2 = false) (hti : ty0 k = .int)
    (hw : Cond.fieldLink own ix (T k).1 (T k).2.1 (T k).2.2.1 ∈ tb) (hn : pc + 3 = n) : vg_Snd tb nw shp nm cl tyl cc nL own ret d pc (vi_put shp ci k n) := by
  subst hn
  refine ⟨vs_m1 fun K K' h lv st σ g => ?_, ?_⟩
  · split at g
    · split at g
      next q _ =>
        cases hb : Nat.beq q.1 ci with
        | false => rw [hb] at g; exact g.elim
        | true =>
          rw [hb] at g
          show (match vg_nth q.2 k with | some none => _ | _ => False)
          have g' : (match vg_nth q.2 k with | some none => _ | _ => False) := g
          split at g'
          · exact h _ _ _ _ g'
          · exact g'
      next => exact g
    · exact g
  intro p l e R s m args below meth c D tys ad A P C0 lv st σ h H locs ls hl ho hs hP hS
  unfold vi_put at h
  split at h
  next x m0 t =>
    split at h
    next q hq =>
      cases hb : Nat.beq q.1 ci with
      | false => rw [hb] at h; exact h.elim
      | true =>
        rw [hb] at h
        have e : q.1 = ci := Nat.eq_of_beq_eq_true hb
        have h' : (match vg_nth q.2 k with | some none => _ | _ => False) := h
        obtain ⟨q0, hq0, hws⟩ := vg_ws_get (shp := shp) (ad := ad) (tys := tys) (σ := σ) (show m0 ∈ nm from vg_okh (vg_okt hs))
        rw [hq] at hws
        have hws2 : (vg_ws shp nm ad tys σ)[q0]? = some (ad m0, .inr (ci, vg_fs ad (σ m0) 0 q.2)) := by rw [hws]; show some (ad m0, Sum.inr (q.1, _)) = _; rw [e]
        have hDA := C0.2.2.2.2.2.2.2.2.2.2.2.1
        split at h'
        next hz =>
          rw [vg_nth_eq] at hz
          have hl2 : k < q.2.length := (List.getElem?_eq_some_iff.mp hz).1
          refine va_put (D := D) (A := A) C0.1 C0.2.1 C0.2.2.2.2.1 hin ty0 hty hnm C0.2.2.2.1 C0.2.2.2.2.2.1 hP (hDA σ) hS q0 hws2 hc k hk (C0.2.2.2.2.1 _ hw) (fun _ z => z) hfin (ty := .int) (v := .int x) (by rw [hty k hk, hti]) rfl rfl (by rw [vg_fs_len]; exact hl2) hd (fun H1 locs1 hP1 _ hS1 => ?_)
          rw [vg_put_ws (hDA σ) hq0 (by rw [hq, ← e]) hz] at hP1
          exact h' H1 locs1 ls hl ho (vg_okt (vg_okt hs)) hP1 hS1
        next => exact h'.elim
    next => exact h.elim
  next => exact h.elim
theorem vs_putfieldZ {ci k ix : Nat} {C : String} {T : u_T} {N : Nat} (ty0 : Nat → FieldType) (hd : decode cc pc = .ok (.putfield ix, 3)) (hc : cl[ci]? = some (C, T, N)) (hk : k < N) (hin : ∀ w ∈ u_ws C T N, w ∈ tb) (hty : ∀ k, k < N → parseFieldDescriptor (T k).2.2.1 = some (ty0 k)) (hnm : ∀ a, a < N → ∀ b, b < N → a ≠ b → (T a).2.1 ≠ (T b).2.1) (hfin : (T k).2.2.2 = false) (hti : ty0 k = .boolean)
    (hw : Cond.fieldLink own ix (T k).1 (T k).2.1 (T k).2.2.1 ∈ tb) (hn : pc + 3 = n) : vg_Snd tb nw shp nm cl tyl cc nL own ret d pc (vi_putZ shp ci k n) := by
  subst hn
  refine ⟨vs_m1 fun K K' h lv st σ g => ?_, ?_⟩
  · split at g
    · split at g
      next q _ =>
        cases hb : Nat.beq q.1 ci with
        | false => rw [hb] at g; exact g.elim
        | true =>
          rw [hb] at g
          show (match vg_nth q.2 k with | some none => _ | _ => False)
          have g' : (match vg_nth q.2 k with | some none => _ | _ => False) := g
          split at g'
          · exact ⟨g'.1, h _ _ _ _ g'.2⟩
          · exact g'
      next => exact g
    · exact g
  intro p l e R s m args below meth c D tys ad A P C0 lv st σ h H locs ls hl ho hs hP hS
  unfold vi_putZ at h
  split at h
  next x m0 t =>
    split at h
    next q hq =>
      cases hb : Nat.beq q.1 ci with
      | false => rw [hb] at h; exact h.elim
      | true =>
        rw [hb] at h
        have e : q.1 = ci := Nat.eq_of_beq_eq_true hb
        have h' : (match vg_nth q.2 k with | some none => _ | _ => False) := h
        obtain ⟨q0, hq0, hws⟩ := vg_ws_get (shp := shp) (ad := ad) (tys := tys) (σ := σ) (show m0 ∈ nm from vg_okh (vg_okt hs))
        rw [hq] at hws
        have hws2 : (vg_ws shp nm ad tys σ)[q0]? = some (ad m0, .inr (ci, vg_fs ad (σ m0) 0 q.2)) := by rw [hws]; show some (ad m0, Sum.inr (q.1, _)) = _; rw [e]
        have hDA := C0.2.2.2.2.2.2.2.2.2.2.2.1
        split at h'
        next hz =>
          rw [vg_nth_eq] at hz
          have hl2 : k < q.2.length := (List.getElem?_eq_some_iff.mp hz).1
          refine va_put (D := D) (A := A) C0.1 C0.2.1 C0.2.2.2.2.1 hin ty0 hty hnm C0.2.2.2.1 C0.2.2.2.2.2.1 hP (hDA σ) hS q0 hws2 hc k hk (C0.2.2.2.2.1 _ hw) (fun _ z => z) hfin (ty := .boolean) (v := .int x) (by rw [hty k hk, hti]) (by rcases h'.1 with rfl | rfl <;> rfl) (by rcases h'.1 with rfl | rfl <;> rfl) (by rw [vg_fs_len]; exact hl2) hd (fun H1 locs1 hP1 _ hS1 => ?_)
          rw [vg_put_ws (hDA σ) hq0 (by rw [hq, ← e]) hz] at hP1
          exact h'.2 H1 locs1 ls hl ho (vg_okt (vg_okt hs)) hP1 hS1
        next => exact h'.elim
    next => exact h.elim
  next => exact h.elim
theorem vs_iaload {t0 : Nat} (hd : decode cc pc = .ok (.iaload, 1)) (ht : tyl[t0]? = some .int) (hn : pc + 1 = n) : vg_Snd tb nw shp nm cl tyl cc nL own ret d pc (vi_ald shp t0 n) := by
  subst hn
  refine ⟨vs_m1 fun K K' h lv st σ g => ?_, ?_⟩
  · split at g
    · split at g
      next q _ =>
        cases hb : Nat.beq q.1 t0 with
        | false => rw [hb] at g; exact g.elim
        | true =>
          rw [hb] at g
          exact ⟨g.1, h _ _ _ _ g.2⟩
      next => exact g
    · exact g
  intro p l e R s m args below meth c D tys ad A P C0 lv st σ h H locs ls hl ho hs hP hS
  unfold vi_ald at h
  split at h
  next i m0 t =>
    split at h
    next q hq =>
      cases hb : Nat.beq q.1 t0 with
      | false => rw [hb] at h; exact h.elim
      | true =>
        rw [hb] at h
        have e : q.1 = t0 := Nat.eq_of_beq_eq_true hb
        obtain ⟨q0, hq0, hws⟩ := vg_ws_get (shp := shp) (ad := ad) (tys := tys) (σ := σ) (show m0 ∈ nm from vg_okh (vg_okt hs))
        rw [hq] at hws
        exact va_iald (D := D) C0.1 C0.2.1 C0.2.2.2.2.2.1 hP q0 t0 (by rw [← e]; exact hws) (vg_tys C0.2.2.2.2.2.2.1 ht) h.1 hd (h.2 H locs ls hl ho (vg_okc trivial (vg_okt (vg_okt hs))) hP hS)
    next => exact h.elim
  next => exact h.elim
theorem vs_zaload {t0 : Nat} (hd : decode cc pc = .ok (.baload, 1)) (ht : tyl[t0]? = some .boolean) (hn : pc + 1 = n) : vg_Snd tb nw shp nm cl tyl cc nL own ret d pc (vi_ald shp t0 n) := by
  subst hn
  refine ⟨vs_m1 fun K K' h lv st σ g => ?_, ?_⟩
  · split at g
    · split at g
      next q _ =>
        cases hb : Nat.beq q.1 t0 with
        | false => rw [hb] at g; exact g.elim
        | true =>
          rw [hb] at g
          exact ⟨g.1, h _ _ _ _ g.2⟩
      next => exact g
    · exact g
  intro p l e R s m args below meth c D tys ad A P C0 lv st σ h H locs ls hl ho hs hP hS
  unfold vi_ald at h
  split at h
  next i m0 t =>
    split at h
    next q hq =>
      cases hb : Nat.beq q.1 t0 with
      | false => rw [hb] at h; exact h.elim
      | true =>
        rw [hb] at h
        have e : q.1 = t0 := Nat.eq_of_beq_eq_true hb
        obtain ⟨q0, hq0, hws⟩ := vg_ws_get (shp := shp) (ad := ad) (tys := tys) (σ := σ) (show m0 ∈ nm from vg_okh (vg_okt hs))
        rw [hq] at hws
        exact va_zald (D := D) C0.1 C0.2.1 C0.2.2.2.2.2.1 hP q0 t0 (by rw [← e]; exact hws) (vg_tys C0.2.2.2.2.2.2.1 ht) h.1 hd (h.2 H locs ls hl ho (vg_okc trivial (vg_okt (vg_okt hs))) hP hS)
    next => exact h.elim
  next => exact h.elim
theorem vg_ast_ws {σ : vgS} {ad : vgN → Nat} {tys : List (ClassId × FieldType)} {A : Nat → Prop} {m0 : vgN} {q0 t0 len k : Nat} {x : Int32} (hD : va_D A (vg_ws shp nm ad tys σ)) (hq0 : nm[q0]? = some m0) (hq : shp m0 = .inr (.inl (t0, len))) : (vg_ws shp nm ad tys σ).set q0 (ad m0, .inl (vg_ty tys t0, len, .inl (upd (σ m0) k x))) = vg_ws shp nm ad tys (vg_st σ m0 k x) := by
  refine vg_ws_set hD hq0 ?_ (fun n' hn' => ?_)
  · rw [hq]
    show _ = Sum.inl (vg_ty tys t0, len, Sum.inl (vg_st σ m0 k x m0))
    congr 4
    funext j
    unfold vg_st upd
    simp
  · funext j
    unfold vg_st
    simp [hn']
theorem vs_iastore {t0 : Nat} (hd : decode cc pc = .ok (.iastore, 1)) (ht : tyl[t0]? = some .int) (hn : pc + 1 = n) : vg_Snd tb nw shp nm cl tyl cc nL own ret d pc (vi_ast shp t0 n) := by
  subst hn
  refine ⟨vs_m1 fun K K' h lv st σ g => ?_, ?_⟩
  · split at g
    · split at g
      next q _ =>
        cases hb : Nat.beq q.1 t0 with
        | false => rw [hb] at g; exact g.elim
        | true =>
          rw [hb] at g
          exact ⟨g.1, h _ _ _ _ g.2⟩
      next => exact g
    · exact g
  intro p l e R s m args below meth c D tys ad A P C0 lv st σ h H locs ls hl ho hs hP hS
  unfold vi_ast at h
  split at h
  next x i m0 t =>
    split at h
    next q hq =>
      cases hb : Nat.beq q.1 t0 with
      | false => rw [hb] at h; exact h.elim
      | true =>
        rw [hb] at h
        have e : q.1 = t0 := Nat.eq_of_beq_eq_true hb
        obtain ⟨q0, hq0, hws⟩ := vg_ws_get (shp := shp) (ad := ad) (tys := tys) (σ := σ) (show m0 ∈ nm from vg_okh (vg_okt (vg_okt hs)))
        rw [hq] at hws
        have hDA := C0.2.2.2.2.2.2.2.2.2.2.2.1
        refine va_iast (D := D) (A := A) C0.1 C0.2.1 C0.2.2.2.2.2.1 hP (hDA σ) hS q0 t0 (by rw [← e]; exact hws) (vg_tys C0.2.2.2.2.2.2.1 ht) h.1 hd (fun H1 locs1 hP1 _ hS1 => ?_)
        rw [vg_ast_ws (hDA σ) hq0 (by rw [hq, ← e])] at hP1
        exact h.2 H1 locs1 ls hl ho (vg_okt (vg_okt (vg_okt hs))) hP1 hS1
    next => exact h.elim
  next => exact h.elim
theorem vs_zastore {t0 : Nat} (hd : decode cc pc = .ok (.bastore, 1)) (ht : tyl[t0]? = some .boolean) (hn : pc + 1 = n) : vg_Snd tb nw shp nm cl tyl cc nL own ret d pc (vi_astZ shp t0 n) := by
  subst hn
  refine ⟨vs_m1 fun K K' h lv st σ g => ?_, ?_⟩
  · split at g
    · split at g
      next q _ =>
        cases hb : Nat.beq q.1 t0 with
        | false => rw [hb] at g; exact g.elim
        | true =>
          rw [hb] at g
          exact ⟨g.1, h _ _ _ _ g.2⟩
      next => exact g
    · exact g
  intro p l e R s m args below meth c D tys ad A P C0 lv st σ h H locs ls hl ho hs hP hS
  unfold vi_astZ at h
  split at h
  next x i m0 t =>
    split at h
    next q hq =>
      cases hb : Nat.beq q.1 t0 with
      | false => rw [hb] at h; exact h.elim
      | true =>
        rw [hb] at h
        have e : q.1 = t0 := Nat.eq_of_beq_eq_true hb
        obtain ⟨q0, hq0, hws⟩ := vg_ws_get (shp := shp) (ad := ad) (tys := tys) (σ := σ) (show m0 ∈ nm from vg_okh (vg_okt (vg_okt hs)))
        rw [hq] at hws
        have hDA := C0.2.2.2.2.2.2.2.2.2.2.2.1
        refine va_zast (D := D) (A := A) C0.1 C0.2.1 C0.2.2.2.2.2.1 hP (hDA σ) hS q0 t0 (by rw [← e]; exact hws) (vg_tys C0.2.2.2.2.2.2.1 ht) h.1.1 hd (fun H1 locs1 hP1 _ hS1 => ?_)
        have hx : vp_nar .boolean x = x := by rcases h.1.2 with rfl | rfl <;> rfl
        rw [hx, vg_ast_ws (hDA σ) hq0 (by rw [hq, ← e])] at hP1
        exact h.2 H1 locs1 ls hl ho (vg_okt (vg_okt (vg_okt hs))) hP1 hS1
    next => exact h.elim
  next => exact h.elim
theorem vs_aaload {t0 : Nat} {C : String} (hd : decode cc pc = .ok (.aaload, 1)) (ht : tyl[t0]? = some (.object C)) (hn : pc + 1 = n) : vg_Snd tb nw shp nm cl tyl cc nL own ret d pc (vi_aald shp t0 n) := by
  subst hn
  refine ⟨vs_m1 fun K K' h lv st σ g => ?_, ?_⟩
  · split at g
    · split at g
      next q _ =>
        cases hb : Nat.beq q.1 t0 with
        | false => rw [hb] at g; exact g.elim
        | true =>
          rw [hb] at g
          exact ⟨g.1, h _ _ _ _ g.2⟩
      next => exact g
    · exact g
  intro p l e R s m args below meth c D tys ad A P C0 lv st σ h H locs ls hl ho hs hP hS
  unfold vi_aald at h
  split at h
  next i m0 t =>
    split at h
    next q hq =>
      cases hb : Nat.beq q.1 t0 with
      | false => rw [hb] at h; exact h.elim
      | true =>
        rw [hb] at h
        have e : q.1 = t0 := Nat.eq_of_beq_eq_true hb
        obtain ⟨q0, hq0, hws⟩ := vg_ws_get (shp := shp) (ad := ad) (tys := tys) (σ := σ) (show m0 ∈ nm from vg_okh (vg_okt hs))
        rw [hq] at hws
        have hcl := C0.2.2.2.2.2.2.2.2.2.2.2.2.1 m0 (vg_okh (vg_okt hs))
        rw [hq] at hcl
        have hm : q.2.2 i.toNatClampNeg ∈ nm := hcl _ (Nat.not_le.mp fun z => h.1 (Or.inr z))
        exact va_aldq (D := D) C0.1 C0.2.1 C0.2.2.2.2.2.1 hP q0 t0 (f := fun i => some (ad (q.2.2 i))) (by rw [← e]; exact hws) (vg_tys C0.2.2.2.2.2.2.1 ht) h.1 hd (h.2 H locs ls hl ho (vg_okc hm (vg_okt (vg_okt hs))) hP hS)
    next => exact h.elim
  next => exact h.elim
theorem vs_acopy {t0 ix : Nat} (hd : decode cc pc = .ok (.invokestatic ix, 3)) (ht : tyl[t0]? = some .int) (h1 : Cond.methodLink own ix arraycopyName ∈ tb) (h2 : Cond.native arraycopyName ∈ tb) (h3 : Cond.static arraycopyName ∈ tb) (h4 : Cond.initialized "java/lang/System" ∈ tb) (hdd : 1 ≤ d) (hn : pc + 3 = n) : vg_Snd tb nw shp nm cl tyl cc nL own ret d pc (vi_cpy shp t0 n) := by
  subst hn
  refine ⟨vs_m1 fun K K' h lv st σ g => ?_, ?_⟩
  · split at g
    · split at g
      next q r _ _ =>
        cases hb : Nat.beq q.1 t0 && Nat.beq r.1 t0 && Nat.ble (vg_wd _) 8 with
        | false => rw [hb] at g; exact g.elim
        | true =>
          rw [hb] at g
          exact ⟨g.1, h _ _ _ _ g.2⟩
      next => exact g
    · exact g
  intro p l e R s m args below meth c D tys ad A P C0 lv st σ h H locs ls hl ho hs hP hS
  have hts := C0.2.2.2.2.1
  unfold vi_cpy at h
  split at h
  next len dp dn sp mn t =>
    split at h
    next q r hq hr =>
      cases hb : Nat.beq q.1 t0 && Nat.beq r.1 t0 && Nat.ble (vg_wd t) 8 with
      | false => rw [hb] at h; exact h.elim
      | true =>
        rw [hb] at h
        simp only [Bool.and_eq_true] at hb
        have e : q.1 = t0 := Nat.eq_of_beq_eq_true hb.1.1
        have e' : r.1 = t0 := Nat.eq_of_beq_eq_true hb.1.2
        have hwd : vg_wd t ≤ 8 := Nat.le_of_ble_eq_true hb.2
        obtain ⟨⟨rfl, rfl, hlen, hl1, hl2⟩, hk⟩ := h
        obtain ⟨q0, hq0, hws⟩ := vg_ws_get (shp := shp) (ad := ad) (tys := tys) (σ := σ) (show mn ∈ nm from vg_okh (vg_okt (vg_okt (vg_okt (vg_okt hs)))))
        obtain ⟨q1, hq1, hws1⟩ := vg_ws_get (shp := shp) (ad := ad) (tys := tys) (σ := σ) (show dn ∈ nm from vg_okh (vg_okt (vg_okt hs)))
        rw [hq] at hws
        rw [hr] at hws1
        have hDA := C0.2.2.2.2.2.2.2.2.2.2.2.1
        have hR := C0.2.2.2.2.2.2.2.2.2.1
        have z0 : (0 : Int32).toNatClampNeg = 0 := by decide
        refine va_copyi (D := D) (A := A) C0.1 C0.2.1 (C0.2.2.1.trans hl.1.symm) C0.2.2.2.1 (hts _ h1) (hts _ h2) (hts _ h3) (hts _ h4) C0.2.2.2.2.2.1 hP (hDA σ) hS q0 q1 t0 t0 (by rw [← e]; exact hws) (by rw [← e']; exact hws1) (vg_tys C0.2.2.2.2.2.2.1 ht) (vg_tys C0.2.2.2.2.2.2.1 ht) rfl (by decide) (by decide) hlen (by rw [z0, Nat.zero_add]; exact hl1) (by rw [z0, Nat.zero_add]; exact hl2) (fun _ _ => rfl) (by rw [hR]; exact hdd) ?_ hd (fun H1 locs1 hP1 _ hS1 => ?_)
        · rw [vg_wd_sum, hR]
          have : nativeFrameWords "java/lang/System" "arraycopy" 5 + 11 ≤ 24 := by decide
          show vg_wd t + _ ≤ 32 * d
          omega
        · have e9 : (vg_ws shp nm ad tys σ).set q1 (ad dn, .inl (vg_ty tys t0, r.2, .inl (va_cpy (σ mn) (σ dn) (0 : Int32).toNatClampNeg (0 : Int32).toNatClampNeg len.toNatClampNeg))) = vg_ws shp nm ad tys (vg_cp σ mn dn len.toNatClampNeg) := by
            refine vg_ws_set (hDA σ) hq1 ?_ (fun n' hn' => ?_)
            · rw [hr]
              show _ = Sum.inl (vg_ty tys r.1, r.2, Sum.inl (vg_cp σ mn dn len.toNatClampNeg dn))
              rw [e', z0]
              congr 4
              funext j
              unfold va_cpy vg_cp
              simp
            · funext j
              unfold vg_cp
              simp [hn']
          rw [e9] at hP1
          exact hk H1 locs1 ls hl ho (vg_okt (vg_okt (vg_okt (vg_okt (vg_okt hs))))) hP1 hS1
    next => exact h.elim
  next => exact h.elim
end VS2
end
section
/-! calls by contract -/
section VC
variable {p : Program} {l : Launch} {e : Env} {R : Room} {s : State} {m : MethodId} {args : Array Value} {below : List Frame} {meth : Method} {c : Code} {H : Heap} {locs : List Loc} {Q : State → Prop}
variable {tb : List Cond} {nw : List (String × Nat × MethodName × String)} {shp : vgN → vgH} {nm : List vgN} {cl : List vw_C} {tyl : List FieldType} {cc : ByteArray} {nL : Nat} {own : String} {ret : Option FieldType} {d pc n : Nat}
theorem vg_callK {D : va_G} {tys : List (ClassId × FieldType)} {ad : vgN → Nat} {A A1 : Nat → Prop} {P : vgO} {a : Array Value} {ls : Array Slot} {st0 rest : List Value}
    (hr : va_Run p l e R s m args below meth c H locs 0 0 0 0 (F0 m pc ls st0) rest (vg_Q shp nm cl D tys ad A1 P a) A1) (hS : va_S A s.heap H locs) (hA : ∀ q, A1 q → A q)
    (kk : ∀ (r : Option vgV) (σ : vgS) (H1 : Heap) (locs1 : List Loc), P r σ → (∀ v, r = some v → vg_ok nm v) → va_P D cl (vg_ws shp nm ad tys σ) H1 → va_S A s.heap H1 locs1 → W p l e R s m args below meth c H1 locs1 0 0 Q (F0 m (pc + 3) ls ((r.map (vg_cv ad)).toList ++ rest))) : W p l e R s m args below meth c H locs 0 0 Q (F0 m pc ls st0) := by
  intro T hT X
  obtain ⟨v, st₀, t, T', L, h0, X', hL, e1, e2, ⟨⟨r, σ', hv, hp, hok, hP1⟩, hz, hk⟩, st⟩ := hr T hT X
  cases hv
  rw [h0] at hz hk
  obtain ⟨t2, a1, b1⟩ := kk r σ' T'.heap (locs ++ L) hp hok (by rw [e1]; exact hP1)
    ⟨Nat.le_trans hS.1 (by rw [e1]; exact hz), fun q h1 h2 => by rw [e1, hk q (Nat.lt_of_lt_of_le h1 hS.1) (fun z => h2 (hA q z))]; exact hS.2.1 q h1 h2, fun q hq => by
      rcases List.mem_append.mp hq with h | h
      · exact hS.2.2 q h
      · exact hA _ (hL q h)⟩ T' rfl X'
  exact ⟨t2, st t2 a1, b1⟩
theorem vg_pop_eq : ∀ (k : Nat) (acc st a t : vgT), vg_pop k acc st = some (a, t) → a.reverse ++ t = acc.reverse ++ st ∧ a.length = k + acc.length
  | 0, acc, st, a, t, h => by
    cases h
    exact ⟨rfl, (Nat.zero_add _).symm⟩
  | k + 1, acc, [], a, t, h => by cases h
  | k + 1, acc, v :: st, a, t, h => by
    obtain ⟨h1, h2⟩ := vg_pop_eq k (v :: acc) st a t h
    refine ⟨by rw [h1]; simp, by rw [h2]; simp; omega⟩
theorem vg_in_A {σ : vgS} {ad : vgN → Nat} {tys : List (ClassId × FieldType)} {A : Nat → Prop} {H0 H : Heap} (hD : va_D A (vg_ws shp nm ad tys σ)) (hA : ∀ q, H0.size ≤ q → A q) (hz : H0.size ≤ H.size) : ∀ q, vg_A nm ad H.size q → A q := by
  intro q h
  rcases h with ⟨n, hn, rfl⟩ | h
  · obtain ⟨k, _, hk⟩ := vg_ws_get (shp := shp) (ad := ad) (tys := tys) (σ := σ) hn
    exact hD.2 k _ hk
  · exact hA q (Nat.le_trans hz h)
theorem vg_k_mono {K K' : vgK} (h : ∀ pc lv st σ, K pc lv st σ → K' pc lv st σ) {n : Nat} {lv : vgL} {st : vgT} {r : Option vgV} {σ : vgS} (g : vg_k K n lv st r σ) : vg_k K' n lv st r σ := by
  cases r with
  | none => exact h _ _ _ _ g
  | some v => exact h _ _ _ _ g
abbrev vg_MetF (tb : List Cond) (nw : List (String × Nat × MethodName × String)) (shp : vgN → vgH) (nm : List vgN) (cl : List vw_C) (tyl : List FieldType) (y : MethodName) (cc : ByteArray) (nL : Nat) (ret : Option FieldType) (d : Nat) (sp : vgC) : Prop :=
  vg_Met tb nw shp nm cl tyl y cc nL ret d (fun av σ => (sp av σ).1) (fun av σ r σ' => r = (sp av σ).2.1 ∧ σ' = (sp av σ).2.2)
theorem vg_callB {y : MethodName} {bytes : ByteArray} {mL k ix d' : Nat} {rt : Option FieldType} (hts : ∀ w ∈ tb, w.before args s = true) (hG : tb.all goodWord = true) (hcw : Cond.code y bytes mL rt ∈ tb) (hini : Cond.initialized y.cls ∈ tb) (hl : Cond.methodLink own ix y ∈ tb)
    (hd : y.cls ≠ "java/lang/invoke/MethodHandle" ∧ y.cls ≠ "java/lang/invoke/VarHandle" ∧ (parseMethodDescriptor y.desc).map (fun d => d.parameters.length) = some k) (hR : d' + 1 ≤ d ∧ mL ≤ 13) : CallB (vg_rm d) s args own ix y bytes mL rt (.code y bytes mL rt :: tb) (vg_rm d') 0 0 k := by
  have hg : ∀ w ∈ tb, goodWord w = true := fun w h => List.all_eq_true.mp hG w h
  refine callB_of k hts (fun w hw => ?_) rfl rfl rfl (hts _ hini) (hts _ hl) hd ⟨hR.1, ?_⟩
  · rcases List.mem_cons.mp hw with rfl | hw
    · exact ⟨hcw, good_of_word (hg _ hcw)⟩
    · exact ⟨hw, good_of_word (hg _ hw)⟩
  · show 8 + (mL + 11) + 32 * d' ≤ 32 * d
    omega
theorem vs_callV {ci k ix : Nat} {C : String} {T : u_T} {N : Nat} {y : MethodName} {bytes : ByteArray} {mL d' : Nat} {rt : Option FieldType} {sp : vgC} (hM : vg_MetF tb nw shp nm cl tyl y bytes mL rt d' sp) (hd : decode cc pc = .ok (.invokevirtual ix, 3)) (hc : cl[ci]? = some (C, T, N))
    (hG : tb.all goodWord = true) (hcw : Cond.code y bytes mL rt ∈ tb) (hini : Cond.initialized C ∈ tb) (hl : Cond.methodLink own ix y ∈ tb) (hi : Cond.instanceMethod y ∈ tb) (hse : Cond.selects C y y ∈ tb)
    (hy : y.cls = C ∧ y.cls ≠ "java/lang/invoke/MethodHandle" ∧ y.cls ≠ "java/lang/invoke/VarHandle" ∧ (parseMethodDescriptor y.desc).map (fun d => d.parameters.length) = some k) (hR : d' + 1 ≤ d ∧ mL ≤ 13) (hn : pc + 3 = n) : vg_Snd tb nw shp nm cl tyl cc nL own ret d pc (vi_callV shp ci sp k n) := by
  subst hn
  refine ⟨vs_m1 fun K K' h lv st σ g => ?_, ?_⟩
  · split at g
    · split at g
      next o _ =>
        cases hb : Nat.beq o.1 ci && Nat.ble (vg_wd _) 8 with
        | false => rw [hb] at g; exact g.elim
        | true =>
          rw [hb] at g
          have g2 : (sp _ σ).1 ∧ vg_k K (pc + 3) lv _ (sp _ σ).2.1 (sp _ σ).2.2 := g
          show (sp _ σ).1 ∧ vg_k K' (pc + 3) lv _ (sp _ σ).2.1 (sp _ σ).2.2
          exact ⟨g2.1, vg_k_mono h g2.2⟩
      next => exact g
    · exact g
  intro p l e R s m args below meth c D tys ad A P C0 lv st σ h H locs ls hl0 ho hs hP hS
  unfold vi_callV at h
  split at h
  next m0 as t hpop =>
    split at h
    next o ho0 =>
      cases hb : Nat.beq o.1 ci && Nat.ble (vg_wd t) 8 with
      | false => rw [hb] at h; exact h.elim
      | true =>
        rw [hb] at h
        simp only [Bool.and_eq_true] at hb
        have e : o.1 = ci := Nat.eq_of_beq_eq_true hb.1
        have hwd : vg_wd t ≤ 8 := Nat.le_of_ble_eq_true hb.2
        have h2 : (sp (.inr m0 :: as) σ).1 ∧ vg_k _ (pc + 3) lv t (sp (.inr m0 :: as) σ).2.1 (sp (.inr m0 :: as) σ).2.2 := h
        obtain ⟨hpre, hk⟩ := h2
        obtain ⟨hx, hcb, hml, hown, hts, hK, hty, hr, hlocks, hRR, hA, hDA, hclo, hnw⟩ := C0
        subst hRR
        obtain ⟨e1, e2⟩ := vg_pop_eq _ _ _ _ _ hpop
        have hst : st = (Sum.inr m0 :: as : vgT).reverse ++ t := by rw [e1]; rfl
        have hav : ∀ v ∈ (Sum.inr m0 :: as : vgT), vg_ok nm v := fun v hv => hs v (by rw [hst]; exact List.mem_append_left _ (List.mem_reverse.mpr hv))
        have ht : ∀ v ∈ t, vg_ok nm v := fun v hv => hs v (by rw [hst]; exact List.mem_append_right _ hv)
        have hlen : as.length = k := by simp at e2; omega
        have hm0 : m0 ∈ nm := hav _ List.mem_cons_self
        obtain ⟨q0, hq0, hws⟩ := vg_ws_get (shp := shp) (ad := ad) (tys := tys) (σ := σ) hm0
        rw [ho0] at hws
        have hws2 : (vg_ws shp nm ad tys σ)[q0]? = some (ad m0, .inr (ci, vg_fs ad (σ m0) 0 o.2)) := by rw [hws]; show some (ad m0, Sum.inr (o.1, _)) = _; rw [e]
        have hstk : st.map (vg_cv ad) = (as.map (vg_cv ad)).reverse ++ .ref (ad m0) :: t.map (vg_cv ad) := by rw [hst]; simp [vg_cv]
        have cw : CallW (vg_rm d) s args own C ix y bytes mL rt (.code y bytes mL rt :: tb) (vg_rm d') 0 0 k := ⟨vg_callB hts hG hcw (by rw [hy.1]; exact hini) hl hy.2 hR, hts _ hi, hts _ hse⟩
        refine vg_callK (va_runV (As := as.map (vg_cv ad)) (b := ad m0) (rest := t.map (vg_cv ad)) ⟨hx, hcb, hml, hown, hts⟩ (hM l D tys ad H.size (.inr m0 :: as) σ hty hav hpre) cw ⟨fun a U g mk q => ?_, va_recv hK hP (ci := ci) (q0 := q0) hc hws2, fun U hU hW => ⟨?_, ?_, ?_, ?_, ?_, fun z hz => va_Nw.warmM hW (hnw z hz)⟩⟩ rfl (by rw [List.length_map]; exact hlen) hl0.1 hstk (lv_room (by rw [vg_wd_sum]; exact hwd)) hd ⟨Nat.le_refl _, Nat.le_refl _⟩) hS (vg_in_A (hDA σ) hA hS.1) (fun r σ1 H1 locs1 hp hok hP1 hS1 => ?_)
        · obtain ⟨q0, q1, qP, qK, qD, qN⟩ := q
          exact ⟨q0, q1, qP, va_K.moved (u := U) (U := U.calling g mk a) (Vm.Alike.refl U.vm) qK, qD, fun z hz => va_Nw.same (u := U) (U := U.calling g mk a) rfl rfl (qN z hz)⟩
        · rfl
        · rw [hU]
        · rw [hU]; exact hP
        · exact va_K.moved hW.alike hK
        · exact (hDA σ).weaken (fun _ _ _ _ => trivial)
        · obtain ⟨rfl, rfl⟩ := hp
          unfold vg_k at hk
          cases hre : (sp (.inr m0 :: as) σ).2.1 with
          | none => rw [hre] at hk; exact hk H1 locs1 ls hl0 ho ht hP1 hS1
          | some v => rw [hre] at hk; exact hk H1 locs1 ls hl0 ho (vg_okc (hok v hre) ht) hP1 hS1
    next => exact h.elim
  next => exact h.elim
/-- a static method of the class itself -/
theorem vs_callS {k ix : Nat} {y : MethodName} {bytes : ByteArray} {mL d' : Nat} {rt : Option FieldType} {sp : vgC} (hM : vg_MetF tb nw shp nm cl tyl y bytes mL rt d' sp) (hd : decode cc pc = .ok (.invokestatic ix, 3))
    (hG : tb.all goodWord = true) (hcw : Cond.code y bytes mL rt ∈ tb) (hini : Cond.initialized y.cls ∈ tb) (hl : Cond.methodLink own ix y ∈ tb) (hi : Cond.static y ∈ tb)
    (hy : y.cls ≠ "java/lang/invoke/MethodHandle" ∧ y.cls ≠ "java/lang/invoke/VarHandle" ∧ (parseMethodDescriptor y.desc).map (fun d => d.parameters.length) = some k) (hR : d' + 1 ≤ d ∧ mL ≤ 13) (hn : pc + 3 = n) : vg_Snd tb nw shp nm cl tyl cc nL own ret d pc (vi_callS sp k n) := by
  subst hn
  refine ⟨vs_m1 fun K K' h lv st σ g => ?_, ?_⟩
  · split at g
    next q _ =>
      cases hb : Nat.ble (vg_wd q.2) 8 with
      | false => rw [hb] at g; exact g.elim
      | true =>
        rw [hb] at g
        have g2 : (sp q.1 σ).1 ∧ vg_k K (pc + 3) lv q.2 (sp q.1 σ).2.1 (sp q.1 σ).2.2 := g
        show (sp q.1 σ).1 ∧ vg_k K' (pc + 3) lv q.2 (sp q.1 σ).2.1 (sp q.1 σ).2.2
        exact ⟨g2.1, vg_k_mono h g2.2⟩
    next => exact g
  intro p l e R s m args below meth c D tys ad A P C0 lv st σ h H locs ls hl0 ho hs hP hS
  unfold vi_callS at h
  split at h
  next q hpop =>
    cases hb : Nat.ble (vg_wd q.2) 8 with
    | false => rw [hb] at h; exact h.elim
    | true =>
      rw [hb] at h
      obtain ⟨as, t⟩ := q
      have hwd : vg_wd t ≤ 8 := Nat.le_of_ble_eq_true hb
      have h2 : (sp as σ).1 ∧ vg_k _ (pc + 3) lv t (sp as σ).2.1 (sp as σ).2.2 := h
      obtain ⟨hpre, hk⟩ := h2
      obtain ⟨hx, hcb, hml, hown, hts, hK, hty, hr, hlocks, hRR, hA, hDA, hclo, hnw⟩ := C0
      subst hRR
      obtain ⟨e1, e2⟩ := vg_pop_eq _ _ _ _ _ hpop
      have hst : st = as.reverse ++ t := by rw [e1]; rfl
      have hav : ∀ v ∈ as, vg_ok nm v := fun v hv => hs v (by rw [hst]; exact List.mem_append_left _ (List.mem_reverse.mpr hv))
      have ht : ∀ v ∈ t, vg_ok nm v := fun v hv => hs v (by rw [hst]; exact List.mem_append_right _ hv)
      have hlen : as.length = k := by simp at e2; omega
      have hstk : st.map (vg_cv ad) = (as.map (vg_cv ad)).reverse ++ t.map (vg_cv ad) := by rw [hst]; simp
      refine vg_callK (va_runS (As := as.map (vg_cv ad)) (rest := t.map (vg_cv ad)) ⟨hx, hcb, hml, hown, hts⟩ (hM l D tys ad H.size as σ hty hav hpre) ⟨vg_callB hts hG hcw hini hl hy hR, hts _ hi⟩ ⟨fun a U g mk q => ?_, fun U hU hW => ⟨rfl, ?_, ?_, ?_, ?_, fun z hz => va_Nw.warmM hW (hnw z hz)⟩⟩ rfl (by rw [List.length_map]; exact hlen) hl0.1 hstk (lv_room (by rw [vg_wd_sum]; exact hwd)) hd ⟨Nat.le_refl _, Nat.le_refl _⟩) hS (vg_in_A (hDA σ) hA hS.1) (fun r σ1 H1 locs1 hp hok hP1 hS1 => ?_)
      · obtain ⟨q0, q1, qP, qK, qD, qN⟩ := q
        exact ⟨q0, q1, qP, va_K.moved (u := U) (U := U.calling g mk a) (Vm.Alike.refl U.vm) qK, qD, fun z hz => va_Nw.same (u := U) (U := U.calling g mk a) rfl rfl (qN z hz)⟩
      · rw [hU]
      · rw [hU]; exact hP
      · exact va_K.moved hW.alike hK
      · exact (hDA σ).weaken (fun _ _ _ _ => trivial)
      · obtain ⟨rfl, rfl⟩ := hp
        unfold vg_k at hk
        cases hre : (sp as σ).2.1 with
        | none => rw [hre] at hk; exact hk H1 locs1 ls hl0 ho ht hP1 hS1
        | some v => rw [hre] at hk; exact hk H1 locs1 ls hl0 ho (vg_okc (hok v hre) ht) hP1 hS1
  next => exact h.elim
/-- a private static method of a nest mate -/
theorem vs_callSN {k ix : Nat} {host : String} {y : MethodName} {bytes : ByteArray} {mL d' : Nat} {rt : Option FieldType} {sp : vgC} (hM : vg_MetF tb nw shp nm cl tyl y bytes mL rt d' sp) (hd : decode cc pc = .ok (.invokestatic ix, 3))
    (hG : tb.all goodWord = true) (hcw : Cond.code y bytes mL rt ∈ tb) (hini : Cond.initialized y.cls ∈ tb) (hl : (own, ix, y, host) ∈ nw) (hi : Cond.static y ∈ tb)
    (hy : y.cls ≠ "java/lang/invoke/MethodHandle" ∧ y.cls ≠ "java/lang/invoke/VarHandle" ∧ (parseMethodDescriptor y.desc).map (fun d => d.parameters.length) = some k) (hR : d' + 1 ≤ d ∧ mL ≤ 13) (hn : pc + 3 = n) : vg_Snd tb nw shp nm cl tyl cc nL own ret d pc (vi_callS sp k n) := by
  subst hn
  refine ⟨vs_m1 fun K K' h lv st σ g => ?_, ?_⟩
  · split at g
    next q _ =>
      cases hb : Nat.ble (vg_wd q.2) 8 with
      | false => rw [hb] at g; exact g.elim
      | true =>
        rw [hb] at g
        have g2 : (sp q.1 σ).1 ∧ vg_k K (pc + 3) lv q.2 (sp q.1 σ).2.1 (sp q.1 σ).2.2 := g
        show (sp q.1 σ).1 ∧ vg_k K' (pc + 3) lv q.2 (sp q.1 σ).2.1 (sp q.1 σ).2.2
        exact ⟨g2.1, vg_k_mono h g2.2⟩
    next => exact g
  intro p l e R s m args below meth c D tys ad A P C0 lv st σ h H locs ls hl0 ho hs hP hS
  unfold vi_callS at h
  split at h
  next q hpop =>
    cases hb : Nat.ble (vg_wd q.2) 8 with
    | false => rw [hb] at h; exact h.elim
    | true =>
      rw [hb] at h
      obtain ⟨as, t⟩ := q
      have hwd : vg_wd t ≤ 8 := Nat.le_of_ble_eq_true hb
      have h2 : (sp as σ).1 ∧ vg_k _ (pc + 3) lv t (sp as σ).2.1 (sp as σ).2.2 := h
      obtain ⟨hpre, hk⟩ := h2
      obtain ⟨hx, hcb, hml, hown, hts, hK, hty, hr, hlocks, hRR, hA, hDA, hclo, hnw⟩ := C0
      subst hRR
      have hg : ∀ w ∈ tb, goodWord w = true := fun w h => List.all_eq_true.mp hG w h
      obtain ⟨e1, e2⟩ := vg_pop_eq _ _ _ _ _ hpop
      have hst : st = as.reverse ++ t := by rw [e1]; rfl
      have hav : ∀ v ∈ as, vg_ok nm v := fun v hv => hs v (by rw [hst]; exact List.mem_append_left _ (List.mem_reverse.mpr hv))
      have ht : ∀ v ∈ t, vg_ok nm v := fun v hv => hs v (by rw [hst]; exact List.mem_append_right _ hv)
      have hlen : as.length = k := by simp at e2; omega
      have hstk : st.map (vg_cv ad) = (as.map (vg_cv ad)).reverse ++ t.map (vg_cv ad) := by rw [hst]; simp
      have cw : va_CN (vg_rm d) s args own ix y host bytes mL rt (.code y bytes mL rt :: tb) (vg_rm d') 0 0 k := by
        refine va_cnB k hts (fun w hw => ?_) rfl rfl rfl (hnw _ hl) (hts _ hini) hy ⟨hR.1, ?_⟩
        · rcases List.mem_cons.mp hw with rfl | hw
          · exact ⟨hcw, good_of_word (hg _ hcw)⟩
          · exact ⟨hw, good_of_word (hg _ hw)⟩
        · show 8 + (mL + 11) + 32 * d' ≤ 32 * d
          omega
      refine vg_callK (va_runSN (As := as.map (vg_cv ad)) (rest := t.map (vg_cv ad)) ⟨hx, hcb, hml, hown, hts⟩ (hM l D tys ad H.size as σ hty hav hpre) ⟨cw, hts _ hi, trivial⟩ ⟨fun a U g mk q => ?_, fun U hU hW => ⟨rfl, ?_, ?_, ?_, ?_, fun z hz => va_Nw.warmM hW (hnw z hz)⟩⟩ rfl (by rw [List.length_map]; exact hlen) hl0.1 hstk (lv_room (by rw [vg_wd_sum]; exact hwd)) hd ⟨Nat.le_refl _, Nat.le_refl _⟩) hS (vg_in_A (hDA σ) hA hS.1) (fun r σ1 H1 locs1 hp hok hP1 hS1 => ?_)
      · obtain ⟨q0, q1, qP, qK, qD, qN⟩ := q
        exact ⟨q0, q1, qP, va_K.moved (u := U) (U := U.calling g mk a) (Vm.Alike.refl U.vm) qK, qD, fun z hz => va_Nw.same (u := U) (U := U.calling g mk a) rfl rfl (qN z hz)⟩
      · rw [hU]
      · rw [hU]; exact hP
      · exact va_K.moved hW.alike hK
      · exact (hDA σ).weaken (fun _ _ _ _ => trivial)
      · obtain ⟨rfl, rfl⟩ := hp
        unfold vg_k at hk
        cases hre : (sp as σ).2.1 with
        | none => rw [hre] at hk; exact hk H1 locs1 ls hl0 ho ht hP1 hS1
        | some v => rw [hre] at hk; exact hk H1 locs1 ls hl0 ho (vg_okc (hok v hre) ht) hP1 hS1
  next => exact h.elim
theorem vs_max {ix : Nat} (hd : decode cc pc = .ok (.invokestatic ix, 3)) (h1 : Cond.methodLink own ix Lib.Math.max.name ∈ tb) (h2 : Cond.static Lib.Math.max.name ∈ tb) (h3 : Cond.initialized "java/lang/Math" ∈ tb) (h4 : Cond.code Lib.Math.max.name Lib.Math.max.code 2 (some .int) ∈ tb) (hdd : 1 ≤ d) (hn : pc + 3 = n) : vg_Snd tb nw shp nm cl tyl cc nL own ret d pc (vi_max n) := by
  subst hn
  refine ⟨vs_m1 fun K K' h lv st σ g => ?_, ?_⟩
  · split at g
    next =>
      cases hb : Nat.ble (vg_wd _) 8 with
      | false => rw [hb] at g; exact g.elim
      | true => rw [hb] at g; exact h _ _ _ _ g
    next => exact g
  intro p l e R s m args below meth c D tys ad A P C0 lv st σ h H locs ls hl ho hs hP hS
  have hts := C0.2.2.2.2.1
  unfold vi_max at h
  split at h
  next y x t =>
    cases hb : Nat.ble (vg_wd t) 8 with
    | false => rw [hb] at h; exact h.elim
    | true =>
      rw [hb] at h
      have hwd : vg_wd t ≤ 8 := Nat.le_of_ble_eq_true hb
      have hR := C0.2.2.2.2.2.2.2.2.2.1
      exact va_mmax C0.1 C0.2.1 (C0.2.2.1.trans hl.1.symm) C0.2.2.2.1 (hts _ h1) (hts _ h2) (hts _ h3) (hts _ h4) (by rw [hR]; exact hdd) (by rw [vg_wd_sum, hR]; show vg_wd t + 13 ≤ 32 * d; omega) (Nat.zero_le _) (Nat.zero_le _) hd (h H locs ls hl ho (vg_okc trivial (vg_okt (vg_okt hs))) hP hS)
  next => exact h.elim
theorem vs_min {ix : Nat} (hd : decode cc pc = .ok (.invokestatic ix, 3)) (h1 : Cond.methodLink own ix Lib.Math.min.name ∈ tb) (h2 : Cond.static Lib.Math.min.name ∈ tb) (h3 : Cond.initialized "java/lang/Math" ∈ tb) (h4 : Cond.code Lib.Math.min.name Lib.Math.min.code 2 (some .int) ∈ tb) (hdd : 1 ≤ d) (hn : pc + 3 = n) : vg_Snd tb nw shp nm cl tyl cc nL own ret d pc (vi_min n) := by
  subst hn
  refine ⟨vs_m1 fun K K' h lv st σ g => ?_, ?_⟩
  · split at g
    next =>
      cases hb : Nat.ble (vg_wd _) 8 with
      | false => rw [hb] at g; exact g.elim
      | true => rw [hb] at g; exact h _ _ _ _ g
    next => exact g
  intro p l e R s m args below meth c D tys ad A P C0 lv st σ h H locs ls hl ho hs hP hS
  have hts := C0.2.2.2.2.1
  unfold vi_min at h
  split at h
  next y x t =>
    cases hb : Nat.ble (vg_wd t) 8 with
    | false => rw [hb] at h; exact h.elim
    | true =>
      rw [hb] at h
      have hwd : vg_wd t ≤ 8 := Nat.le_of_ble_eq_true hb
      have hR := C0.2.2.2.2.2.2.2.2.2.1
      exact va_mmin C0.1 C0.2.1 (C0.2.2.1.trans hl.1.symm) C0.2.2.2.1 (hts _ h1) (hts _ h2) (hts _ h3) (hts _ h4) (by rw [hR]; exact hdd) (by rw [vg_wd_sum, hR]; show vg_wd t + 13 ≤ 32 * d; omega) (Nat.zero_le _) (Nat.zero_le _) hd (h H locs ls hl ho (vg_okc trivial (vg_okt (vg_okt hs))) hP hS)
  next => exact h.elim
theorem vs_abs {ix : Nat} (hd : decode cc pc = .ok (.invokestatic ix, 3)) (h1 : Cond.methodLink own ix Lib.Math.abs.name ∈ tb) (h2 : Cond.static Lib.Math.abs.name ∈ tb) (h3 : Cond.initialized "java/lang/Math" ∈ tb) (h4 : Cond.code Lib.Math.abs.name Lib.Math.abs.code 1 (some .int) ∈ tb) (hdd : 1 ≤ d) (hn : pc + 3 = n) : vg_Snd tb nw shp nm cl tyl cc nL own ret d pc (vi_abs n) := by
  subst hn
  refine ⟨vs_m1 fun K K' h lv st σ g => ?_, ?_⟩
  · split at g
    next =>
      cases hb : Nat.ble (vg_wd _) 8 with
      | false => rw [hb] at g; exact g.elim
      | true => rw [hb] at g; exact h _ _ _ _ g
    next => exact g
  intro p l e R s m args below meth c D tys ad A P C0 lv st σ h H locs ls hl ho hs hP hS
  have hts := C0.2.2.2.2.1
  unfold vi_abs at h
  split at h
  next x t =>
    cases hb : Nat.ble (vg_wd t) 8 with
    | false => rw [hb] at h; exact h.elim
    | true =>
      rw [hb] at h
      have hwd : vg_wd t ≤ 8 := Nat.le_of_ble_eq_true hb
      have hR := C0.2.2.2.2.2.2.2.2.2.1
      exact va_mabs C0.1 C0.2.1 (C0.2.2.1.trans hl.1.symm) C0.2.2.2.1 (hts _ h1) (hts _ h2) (hts _ h3) (hts _ h4) (by rw [hR]; exact hdd) (by rw [vg_wd_sum, hR]; show vg_wd t + 13 ≤ 32 * d; omega) (Nat.zero_le _) (Nat.zero_le _) hd (h H locs ls hl ho (vg_okc trivial (vg_okt hs)) hP hS)
  next => exact h.elim
end VC
end
section
/-! the world of one WarnWave: its two lands (b = 0: the land, b = 1: the trial), and all that hangs on them -/
def ww_cl : List vw_C := [(RX5, TX5, 2), (RX1, TX1, 14), (RX2, TX2, 4), (RX3, TX3, 2), (RX4, TX4, 8), (RX0, TX0, 13)]
def ww_tyl : List FieldType := [.int, .boolean, .object "WarnWave$Group", .object "WarnWave$Shelter", .object "WarnWave$Warning"]
def ww_shl : List (Nat × (Nat → Nat → vgH)) := [
  (1, fun b _ => .inl (1, [none, none, none, none, none, none, none, some (2, b, 0), some (3, b, 0), some (4, b, 0), some (5, b, 0), some (5, b, 1), some (6, b, 0), some (12, b, 0)])),
  (9, fun b g => .inl (5, [none, none, none, none, none, none, none, none, some (14, b, g), some (15, b, g), some (16, b, g), some (17, b, g), some (18, b, g)])),
  (11, fun _ _ => .inl (4, [none, none, none, none, none, none, none, none])),
  (2, fun b _ => .inr (.inr (2, 8, fun g => (9, b, g)))),
  (4, fun b _ => .inr (.inr (4, 12, fun w => (11, b, w)))),
  (14, fun _ _ => .inr (.inl (0, 12))), (18, fun _ _ => .inr (.inl (0, 12))), (15, fun _ _ => .inr (.inl (0, 12))), (16, fun _ _ => .inr (.inl (0, 12))), (17, fun _ _ => .inr (.inl (0, 12))),
  (0, fun _ _ => .inl (0, [some (1, 0, 0), some (1, 1, 0)])),
  (3, fun b _ => .inr (.inr (3, 3, fun s => (10, b, s)))),
  (10, fun _ _ => .inl (3, [none, none])),
  (5, fun b j => .inl (2, [some (7, b, j), some (13, b, j), some (8, b, j), none])),
  (6, fun _ _ => .inr (.inl (0, 16))), (12, fun _ _ => .inr (.inl (0, 12))),
  (7, fun _ _ => .inr (.inl (0, 5))), (13, fun _ _ => .inr (.inl (0, 5))), (8, fun _ _ => .inr (.inl (1, 5)))]
def ww_shp : vgN → vgH := fun n => match vg_look ww_shl n.1 with
  | some f => f n.2.1 n.2.2
  | none => .inr (.inl (0, 0))
def ww_nm1 (b : Nat) : List vgN := [(1, b, 0), (2, b, 0), (3, b, 0), (4, b, 0), (5, b, 0), (5, b, 1), (6, b, 0), (12, b, 0), (7, b, 0), (7, b, 1), (13, b, 0), (13, b, 1), (8, b, 0), (8, b, 1)] ++ ((List.range 8).flatMap (fun g => [(9, b, g), (14, b, g), (15, b, g), (16, b, g), (17, b, g), (18, b, g)]) ++ ((List.range 3).map (fun s => (10, b, s)) ++ (List.range 12).map (fun w => (11, b, w))))
def ww_nm : List vgN := (0, 0, 0) :: (ww_nm1 0 ++ ww_nm1 1)
def vg_closedB (shp : vgN → vgH) (nm : List vgN) (n : vgN) : Bool := match shp n with
  | .inl q => q.2.all (fun o => match o with | none => true | some m => nm.elem m)
  | .inr (.inl _) => true
  | .inr (.inr q) => (List.range q.2.1).all (fun i => nm.elem (q.2.2 i))
theorem vg_closed_of {shp : vgN → vgH} {nm : List vgN} (h : nm.all (vg_closedB shp nm) = true) : vg_closed shp nm := by
  intro n hn
  have h1 := List.all_eq_true.mp h n hn
  unfold vg_closedB at h1
  split at h1
  next q hq =>
    rw [hq]
    intro m hm
    have h2 := List.all_eq_true.mp h1 _ hm
    exact List.elem_iff.mp h2
  next q hq => rw [hq]; trivial
  next q hq =>
    rw [hq]
    intro i hi
    have h2 := List.all_eq_true.mp h1 i (List.mem_range.mpr hi)
    exact List.elem_iff.mp h2
theorem ww_closed : vg_closed ww_shp ww_nm := vg_closed_of (by decide +kernel)
def ww_tb : List Cond := lw_tbl.filter goodWord
theorem ww_good : ww_tb.all goodWord = true := List.all_eq_true.mpr (fun w h => (List.mem_filter.mp h).2)
theorem ww_in (ws : List Cond) (h : ws.all (fun w => decide (w ∈ ww_tb)) = true) : ∀ w ∈ ws, w ∈ ww_tb := fun w hw => of_decide_eq_true (List.all_eq_true.mp h w hw)
theorem ww_inX0 : ∀ w ∈ u_ws RX0 TX0 13, w ∈ ww_tb := ww_in _ (by decide +kernel)
theorem ww_inX1 : ∀ w ∈ u_ws RX1 TX1 14, w ∈ ww_tb := ww_in _ (by decide +kernel)
theorem ww_inX2 : ∀ w ∈ u_ws RX2 TX2 4, w ∈ ww_tb := ww_in _ (by decide +kernel)
theorem ww_inX3 : ∀ w ∈ u_ws RX3 TX3 2, w ∈ ww_tb := ww_in _ (by decide +kernel)
theorem ww_inX4 : ∀ w ∈ u_ws RX4 TX4 8, w ∈ ww_tb := ww_in _ (by decide +kernel)
theorem ww_inX5 : ∀ w ∈ u_ws RX5 TX5 2, w ∈ ww_tb := ww_in _ (by decide +kernel)
/-- the links to private members of nest mates -/
def ww_nw : List (String × Nat × MethodName × String) := [(RX0, 65, yX5_isIn, "WarnWave"), (RX1, 130, yX5_isIn, "WarnWave"), (RX1, 239, yX5_distance, "WarnWave"), (RX1, 257, yX5_stepTowards, "WarnWave"), (RX2, 26, yX5_distance, "WarnWave")]
end
section
/-! the small machine once more, for methods that may make cells ahead of a stretch (k, n: what was made) and may throw (bf); what the end owes is left open (Z) -/
def vm_xn (x : Nat) : String := match x with
  | 1 => "java/lang/IndexOutOfBoundsException"
  | 2 => "java/lang/IllegalArgumentException"
  | _ => "java/lang/IllegalStateException"
abbrev vm_th (x : Nat) : Option vgV := some (.inr (77, x, 0))
/-- a return's instruction, for what is returned -/
def vm_rk (cc : ByteArray) (ret : Option FieldType) (pc : Nat) (r : Option vgV) : Prop := match r with
  | some (.inl (.int x)) => (decode cc pc = .ok (.ireturn, 1) ∧ ret = some .int) ∨ (decode cc pc = .ok (.ireturn, 1) ∧ ret = some .boolean ∧ (x = 0 ∨ x = 1))
  | some (.inl (.long _)) => decode cc pc = .ok (.lreturn, 1) ∧ ret = some .long
  | none => decode cc pc = .ok (.return_, 1) ∧ ret = none
  | _ => False
def vm_pl (words : List Cond) (w : Cond) : Prop := w ∈ words
/-- 'throw new E(text)' at a place -/
def vm_nk (tb tbx : List Cond) (strs : List (String × Nat × String)) (own : String) (cc : ByteArray) (pc x : Nat) : Prop :=
  ∃ (text : String) (ik is ic : Nat), decode cc pc = .ok (.new ik, 3) ∧ decode cc (pc + 3) = .ok (.dup, 1) ∧
    ((decode cc (pc + 4) = .ok (.ldc is, 2) ∧ decode cc (pc + 6) = .ok (.invokespecial ic, 3) ∧ decode cc (pc + 9) = .ok (.athrow, 1)) ∨ (decode cc (pc + 4) = .ok (.ldc_w is, 3) ∧ decode cc (pc + 7) = .ok (.invokespecial ic, 3) ∧ decode cc (pc + 10) = .ok (.athrow, 1))) ∧
    (own, is, text) ∈ strs ∧ Cond.classLink own ik (vm_xn x) ∈ tb ∧ Cond.initialized (vm_xn x) ∈ tb ∧ (∀ w ∈ (vx_atS own ic (vm_xn x) ["java/lang/RuntimeException", "java/lang/Exception"]).filter goodWord, w ∈ tb) ∧ (∀ w ∈ (vx_atS own ic (vm_xn x) ["java/lang/RuntimeException", "java/lang/Exception"]).filter (fun w => !goodWord w), w ∈ tbx) ∧ Bundle.fit (vm_xn x) = true ∧
    (∀ w ∈ Cond.classLink own ik (vm_xn x) :: Cond.initialized (vm_xn x) :: vx_atS own ic (vm_xn x) ["java/lang/RuntimeException", "java/lang/Exception"], vx_ot w = true)
/-- what a thrower asks of its start -/
def vm_XF (tbx : List Cond) (strs : List (String × Nat × String)) (A : Nat → Prop) (U : State) (H : Heap) : Prop :=
  (∀ w ∈ tbx, va_Nw w U) ∧ vx_Zq Bundle.tN "UNASSIGNED_STACK" Bundle.steD A U H ∧ vx_Zq Bundle.tN "SUPPRESSED_SENTINEL" Bundle.listD A U H ∧ ∀ z ∈ strs, ∃ sa, vk_R z.1 z.2.1 z.2.2 sa U
/-- what stands fast in a method's walk -/
def vm_C (tb : List Cond) (nw : List (String × Nat × MethodName × String)) (shp : vgN → vgH) (nm : List vgN) (cl : List vw_C) (tyl : List FieldType) (cc : ByteArray) (nL : Nat) (own : String) (ret : Option FieldType) (d : Nat) (p : Program) (R : Room) (s : State) (m : MethodId) (args : Array Value) (meth : Method) (c : Code) (D : va_G) (tys : List (ClassId × FieldType)) (ad : vgN → Nat) (A : Nat → Prop) : Prop :=
  p.tables.exec = Jvm.exec ∧ c.code = cc ∧ c.maxLocals = nL ∧ s.vm.findClass own = some m.cls ∧ (∀ w ∈ tb, w.before args s = true) ∧ va_K D cl tys s ∧ tys.map (fun q => q.2) = tyl ∧ meth.sig.returnType = ret ∧ meth.locks = false ∧ (d ≤ R.frames ∧ 32 * d ≤ R.locals) ∧ (∀ q, s.heap.size ≤ q → A q) ∧ (∀ σ, va_D A (vg_ws shp nm ad tys σ)) ∧ vg_closed shp nm ∧ vg_nw nw s
/-- the machine, from here on -/
def vm_X (shp : vgN → vgH) (nm : List vgN) (cl : List vw_C) (nL : Nat) (p : Program) (l : Launch) (e : Env) (R : Room) (s : State) (m : MethodId) (args : Array Value) (below : List Frame) (meth : Method) (c : Code) (D : va_G) (tys : List (ClassId × FieldType)) (ad : vgN → Nat) (A : Nat → Prop) (k n : Nat) (Z : State → Prop) : vgK := fun pc lv st σ =>
  ∀ (H : Heap) (locs : List Loc) (ls : Array Slot), lv_has ls nL (vg_lm ad lv) → (∀ q ∈ lv, vg_ok nm q.2) → (∀ v ∈ st, vg_ok nm v) → va_P D cl (vg_ws shp nm ad tys σ) H → va_S A s.heap H locs →
    W p l e R s m args below meth c H locs k n Z (F0 m pc ls (st.map (vg_cv ad)))
/-- the end: a return; and of a method that may throw, a throw of its own, a throw that passes through -/
def vm_E (bf : Bool) (tb tbx : List Cond) (strs : List (String × Nat × String)) (shp : vgN → vgH) (nm : List vgN) (cl : List vw_C) (cc : ByteArray) (own : String) (ret : Option FieldType) (p : Program) (l : Launch) (e : Env) (R : Room) (s : State) (m : MethodId) (args : Array Value) (below : List Frame) (meth : Method) (c : Code) (D : va_G) (tys : List (ClassId × FieldType)) (ad : vgN → Nat) (A : Nat → Prop) (P : vgO) (k n : Nat) (Z : State → Prop) : Prop :=
  (k ≤ R.cells ∧ n ≤ R.slots) ∧ (∀ (r : Option vgV) (σ : vgS) (pc : Nat) (ls : Array Slot) (H : Heap) (locs : List Loc), P r σ → va_P D cl (vg_ws shp nm ad tys σ) H → va_S A s.heap H locs → vm_rk cc ret pc r → W p l e R s m args below meth c H locs k n Z (F0 m pc ls ((r.map (vg_cv ad)).toList))) ∧
  (bf = true → vm_XF tbx strs A s s.heap ∧ (l.stackTraces = false ∧ k + 1 ≤ R.cells ∧ n + 6 ≤ R.slots) ∧
    (∀ (x : Nat) (σ : vgS) (pc : Nat) (ls : Array Slot) (rest : List Value) (H : Heap) (locs : List Loc), P (vm_th x) σ → va_S A s.heap H locs → ls.size = c.maxLocals → (rest.map fun v => v.category).sum ≤ 8 → 6 ≤ R.frames → 192 ≤ R.locals → vm_nk tb tbx strs own cc pc x → W p l e R s m args below meth c H locs k n Z (F0 m pc ls rest)) ∧
    (∀ (x : Nat) (σ : vgS) (pc : Nat) (ls : Array Slot) (rest : List Value) (H : Heap) (locs : List Loc) (q : Addr) (ce : Cell), P (vm_th x) σ → va_S A s.heap H locs → H[q]? = some ce → ce.vm = .none → s.vm.findClass (vm_xn x) = some ce.cls → vx_W p l e R s m args below meth c H locs (k + 1) (n + 6) Z (F0 m pc ls rest) q))
/-- an instruction's row -/
def vm_Snd (bf : Bool) (tb tbx : List Cond) (strs : List (String × Nat × String)) (nw : List (String × Nat × MethodName × String)) (shp : vgN → vgH) (nm : List vgN) (cl : List vw_C) (tyl : List FieldType) (cc : ByteArray) (nL : Nat) (own : String) (ret : Option FieldType) (d : Nat) (pc : Nat) (F : vgF) : Prop :=
  vg_Mono F ∧ ∀ (p : Program) (l : Launch) (e : Env) (R : Room) (s : State) (m : MethodId) (args : Array Value) (below : List Frame) (meth : Method) (c : Code) (D : va_G) (tys : List (ClassId × FieldType)) (ad : vgN → Nat) (A : Nat → Prop) (P : vgO) (ck cn : Nat) (Z : State → Prop),
    vm_C tb nw shp nm cl tyl cc nL own ret d p R s m args meth c D tys ad A → vm_E bf tb tbx strs shp nm cl cc own ret p l e R s m args below meth c D tys ad A P ck cn Z → ∀ lv st σ, F P (vm_X shp nm cl nL p l e R s m args below meth c D tys ad A ck cn Z) lv st σ → vm_X shp nm cl nL p l e R s m args below meth c D tys ad A ck cn Z pc lv st σ
/-- the machine does it: a stretch, to its ends or to the places ex, from where it goes on otherwise -/
theorem vm_sound {bf : Bool} {tb tbx : List Cond} {strs : List (String × Nat × String)} {nw : List (String × Nat × MethodName × String)} {shp : vgN → vgH} {nm : List vgN} {cl : List vw_C} {tyl : List FieldType} {cc : ByteArray} {nL : Nat} {own : String} {ret : Option FieldType} {d : Nat} {ex code : List (Nat × vgF)} (hs : ∀ q ∈ code, vm_Snd bf tb tbx strs nw shp nm cl tyl cc nL own ret d q.1 q.2)
    {p : Program} {l : Launch} {e : Env} {R : Room} {s : State} {m : MethodId} {args : Array Value} {below : List Frame} {meth : Method} {c : Code} {D : va_G} {tys : List (ClassId × FieldType)} {ad : vgN → Nat} {A : Nat → Prop} {P : vgO} {ck cn : Nat} {Z : State → Prop}
    (C0 : vm_C tb nw shp nm cl tyl cc nL own ret d p R s m args meth c D tys ad A) (E0 : vm_E bf tb tbx strs shp nm cl cc own ret p l e R s m args below meth c D tys ad A P ck cn Z)
    (hx : ∀ q ∈ ex, ∀ lv st σ, q.2 P (vm_X shp nm cl nL p l e R s m args below meth c D tys ad A ck cn Z) lv st σ → vm_X shp nm cl nL p l e R s m args below meth c D tys ad A ck cn Z q.1 lv st σ)
    {pc : Nat} {lv : vgL} {st : vgT} {σ : vgS} (h : vg_Go (ex ++ code) P pc lv st σ) : vm_X shp nm cl nL p l e R s m args below meth c D tys ad A ck cn Z pc lv st σ := by
  refine h _ (fun pc lv st σ g => ?_) (fun pc lv lv' st σ hsub g H locs ls hl ho hs hP hS => g H locs ls ⟨hl.1, hl.2.1, fun q hq => ?_⟩ (fun q hq => ho q (hsub q hq)) hs hP hS)
  · cases hL : vg_look (ex ++ code) pc with
    | none => rw [hL] at g; exact g.elim
    | some F =>
      rw [hL] at g
      rcases List.mem_append.mp (vg_look_mem hL) with hm | hm
      · exact hx _ hm lv st σ g
      · exact (hs _ hm).2 p l e R s m args below meth c D tys ad A P ck cn Z C0 E0 lv st σ g
  · obtain ⟨q', hq', rfl⟩ := List.mem_map.mp hq
    exact hl.2.2 _ (List.mem_map.mpr ⟨q', hsub q' hq', rfl⟩)
/-- a place where a stretch ends -/
def vi_exit (E : vgL → vgT → vgS → Prop) : vgF := fun _ _ lv st σ => E lv st σ
theorem vm_exitM {E : vgL → vgT → vgS → Prop} : vg_Mono (vi_exit E) := fun _ _ _ _ _ _ _ h => h
theorem vg_cons {α : Type} {P : α → Prop} {a : α} {l : List α} (h : P a) (t : ∀ q ∈ l, P q) : ∀ q ∈ a :: l, P q := List.forall_mem_cons.mpr ⟨h, t⟩
end
section
/-! the rows of the machine vm (laid by program out of those of vg) -/
section VT
variable {bf : Bool} {tb tbx : List Cond} {strs : List (String × Nat × String)} {nw : List (String × Nat × MethodName × String)} {shp : vgN → vgH} {nm : List vgN} {cl : List vw_C} {tyl : List FieldType} {cc : ByteArray} {nL : Nat} {own : String} {ret : Option FieldType} {d pc n : Nat}

theorem vt_no : vm_Snd bf tb tbx strs nw shp nm cl tyl cc nL own ret d pc vi_no := ⟨fun _ _ _ _ _ _ _ h => h, fun _ _ _ _ _ _ _ _ _ _ _ _ _ _ _ _ _ _ _ _ _ _ _ h => h.elim⟩
theorem vt_iconst {z : Int} {v : Int32} (hd : decode cc pc = .ok (.iconst z, 1)) (hv : Int32.ofInt z = v) (hn : pc + 1 = n) : vm_Snd bf tb tbx strs nw shp nm cl tyl cc nL own ret d pc (vi_icst v n) := by
  subst hn
  refine ⟨fun P K K' h lv st σ g => h _ _ _ _ g, ?_⟩
  intro p l e R s m args below meth c D tys ad A P ck cn Z C0 E0 lv st σ h H locs ls hl ho hs hP hS
  exact lv_iconst C0.1 C0.2.1 hd hv (h H locs ls hl ho (vg_okc trivial hs) hP hS)
theorem vt_bipush {z : Int} {v : Int32} (hd : decode cc pc = .ok (.bipush z, 2)) (hv : (Int8.ofInt z).toInt32 = v) (hn : pc + 2 = n) : vm_Snd bf tb tbx strs nw shp nm cl tyl cc nL own ret d pc (vi_icst v n) := by
  subst hn
  refine ⟨fun P K K' h lv st σ g => h _ _ _ _ g, ?_⟩
  intro p l e R s m args below meth c D tys ad A P ck cn Z C0 E0 lv st σ h H locs ls hl ho hs hP hS
  exact lv_bipush C0.1 C0.2.1 hd hv (h H locs ls hl ho (vg_okc trivial hs) hP hS)
theorem vt_sipush {z : Int} {v : Int32} (hd : decode cc pc = .ok (.sipush z, 3)) (hv : (Int16.ofInt z).toInt32 = v) (hn : pc + 3 = n) : vm_Snd bf tb tbx strs nw shp nm cl tyl cc nL own ret d pc (vi_icst v n) := by
  subst hn
  refine ⟨fun P K K' h lv st σ g => h _ _ _ _ g, ?_⟩
  intro p l e R s m args below meth c D tys ad A P ck cn Z C0 E0 lv st σ h H locs ls hl ho hs hP hS
  exact lv_sipush C0.1 C0.2.1 hd hv (h H locs ls hl ho (vg_okc trivial hs) hP hS)
theorem vt_ldc {ix : Nat} {v : Int32} (hd : decode cc pc = .ok (.ldc ix, 2)) (hw : Cond.constant own ix v ∈ tb) (hn : pc + 2 = n) : vm_Snd bf tb tbx strs nw shp nm cl tyl cc nL own ret d pc (vi_icst v n) := by
  subst hn
  refine ⟨fun P K K' h lv st σ g => h _ _ _ _ g, ?_⟩
  intro p l e R s m args below meth c D tys ad A P ck cn Z C0 E0 lv st σ h H locs ls hl ho hs hP hS
  exact lv_ldc C0.1 C0.2.1 C0.2.2.2.1 (C0.2.2.2.2.1 _ hw) hd (h H locs ls hl ho (vg_okc trivial hs) hP hS)
theorem vt_ldcw {ix : Nat} {v : Int32} (hd : decode cc pc = .ok (.ldc_w ix, 3)) (hw : Cond.constant own ix v ∈ tb) (hn : pc + 3 = n) : vm_Snd bf tb tbx strs nw shp nm cl tyl cc nL own ret d pc (vi_icst v n) := by
  subst hn
  refine ⟨fun P K K' h lv st σ g => h _ _ _ _ g, ?_⟩
  intro p l e R s m args below meth c D tys ad A P ck cn Z C0 E0 lv st σ h H locs ls hl ho hs hP hS
  exact lv_ldcw C0.1 C0.2.1 C0.2.2.2.1 (C0.2.2.2.2.1 _ hw) hd (h H locs ls hl ho (vg_okc trivial hs) hP hS)
theorem vt_ldc2 {ix : Nat} {v : Int64} (hd : decode cc pc = .ok (.ldc2_w ix, 3)) (hw : Cond.constantLong own ix v ∈ tb) (hn : pc + 3 = n) : vm_Snd bf tb tbx strs nw shp nm cl tyl cc nL own ret d pc (vi_lcst v n) := by
  subst hn
  refine ⟨fun P K K' h lv st σ g => h _ _ _ _ g, ?_⟩
  intro p l e R s m args below meth c D tys ad A P ck cn Z C0 E0 lv st σ h H locs ls hl ho hs hP hS
  exact lv_ldc2 C0.1 C0.2.1 C0.2.2.2.1 (C0.2.2.2.2.1 _ hw) hd (h H locs ls hl ho (vg_okc trivial hs) hP hS)
theorem vt_iload_n {k : Fin 4} {i : Nat} (hd : decode cc pc = .ok (.iload_n k, 1)) (hi : (k : Nat) = i) (hn : pc + 1 = n) : vm_Snd bf tb tbx strs nw shp nm cl tyl cc nL own ret d pc (vi_iload i n) := by
  subst hn
  refine ⟨vs_m1 fun K K' h lv st σ g => ?_, ?_⟩
  · split at g
    · exact h _ _ _ _ g
    · exact g
  intro p l e R s m args below meth c D tys ad A P ck cn Z C0 E0 lv st σ h H locs ls hl ho hs hP hS
  unfold vi_iload at h
  split at h
  next x hx => exact lv_iload_n C0.1 C0.2.1 hd hi (vg_lm_at hl hx) (h H locs ls hl ho (vg_okc trivial hs) hP hS)
  next => exact h.elim
theorem vt_iload {i : Nat} (hd : decode cc pc = .ok (.iload i, 2)) (hn : pc + 2 = n) : vm_Snd bf tb tbx strs nw shp nm cl tyl cc nL own ret d pc (vi_iload i n) := by
  subst hn
  refine ⟨vs_m1 fun K K' h lv st σ g => ?_, ?_⟩
  · split at g
    · exact h _ _ _ _ g
    · exact g
  intro p l e R s m args below meth c D tys ad A P ck cn Z C0 E0 lv st σ h H locs ls hl ho hs hP hS
  unfold vi_iload at h
  split at h
  next x hx => exact lv_iload C0.1 C0.2.1 hd (vg_lm_at hl hx) (h H locs ls hl ho (vg_okc trivial hs) hP hS)
  next => exact h.elim
theorem vt_lload_n {k : Fin 4} {i : Nat} (hd : decode cc pc = .ok (.lload_n k, 1)) (hi : (k : Nat) = i) (hn : pc + 1 = n) : vm_Snd bf tb tbx strs nw shp nm cl tyl cc nL own ret d pc (vi_lload i n) := by
  subst hn
  refine ⟨vs_m1 fun K K' h lv st σ g => ?_, ?_⟩
  · split at g
    · exact h _ _ _ _ g
    · exact g
  intro p l e R s m args below meth c D tys ad A P ck cn Z C0 E0 lv st σ h H locs ls hl ho hs hP hS
  unfold vi_lload at h
  split at h
  next x hx => exact lv_lload_n C0.1 C0.2.1 hd hi (vg_lm_at hl hx) (h H locs ls hl ho (vg_okc trivial hs) hP hS)
  next => exact h.elim
theorem vt_lload {i : Nat} (hd : decode cc pc = .ok (.lload i, 2)) (hn : pc + 2 = n) : vm_Snd bf tb tbx strs nw shp nm cl tyl cc nL own ret d pc (vi_lload i n) := by
  subst hn
  refine ⟨vs_m1 fun K K' h lv st σ g => ?_, ?_⟩
  · split at g
    · exact h _ _ _ _ g
    · exact g
  intro p l e R s m args below meth c D tys ad A P ck cn Z C0 E0 lv st σ h H locs ls hl ho hs hP hS
  unfold vi_lload at h
  split at h
  next x hx => exact lv_lload C0.1 C0.2.1 hd (vg_lm_at hl hx) (h H locs ls hl ho (vg_okc trivial hs) hP hS)
  next => exact h.elim
theorem vt_aload_n {k : Fin 4} {i : Nat} (hd : decode cc pc = .ok (.aload_n k, 1)) (hi : (k : Nat) = i) (hn : pc + 1 = n) : vm_Snd bf tb tbx strs nw shp nm cl tyl cc nL own ret d pc (vi_aload i n) := by
  subst hn
  refine ⟨vs_m1 fun K K' h lv st σ g => ?_, ?_⟩
  · split at g
    · exact h _ _ _ _ g
    · exact g
  intro p l e R s m args below meth c D tys ad A P ck cn Z C0 E0 lv st σ h H locs ls hl ho hs hP hS
  unfold vi_aload at h
  split at h
  next x hx => exact lv_aload_n C0.1 C0.2.1 hd hi (vg_lm_at hl hx) (h H locs ls hl ho (vg_okc (vg_okl ho hx) hs) hP hS)
  next => exact h.elim
theorem vt_aload {i : Nat} (hd : decode cc pc = .ok (.aload i, 2)) (hn : pc + 2 = n) : vm_Snd bf tb tbx strs nw shp nm cl tyl cc nL own ret d pc (vi_aload i n) := by
  subst hn
  refine ⟨vs_m1 fun K K' h lv st σ g => ?_, ?_⟩
  · split at g
    · exact h _ _ _ _ g
    · exact g
  intro p l e R s m args below meth c D tys ad A P ck cn Z C0 E0 lv st σ h H locs ls hl ho hs hP hS
  unfold vi_aload at h
  split at h
  next x hx => exact lv_aload C0.1 C0.2.1 hd (vg_lm_at hl hx) (h H locs ls hl ho (vg_okc (vg_okl ho hx) hs) hP hS)
  next => exact h.elim
theorem vt_istore_n {k : Fin 4} {i : Nat} (hd : decode cc pc = .ok (.istore_n k, 1)) (hi : (k : Nat) = i) (hL : i < nL) (hn : pc + 1 = n) : vm_Snd bf tb tbx strs nw shp nm cl tyl cc nL own ret d pc (vi_istore i n) := by
  subst hn
  refine ⟨vs_m1 fun K K' h lv st σ g => ?_, ?_⟩
  · split at g
    · exact h _ _ _ _ g
    · exact g
  intro p l e R s m args below meth c D tys ad A P ck cn Z C0 E0 lv st σ h H locs ls hl ho hs hP hS
  unfold vi_istore at h
  split at h
  next x t => exact lv_istore_n C0.1 C0.2.1 hd hi hl hL (vg_lm_put ad lv i (.inl (.int x))) (fun ls' hl' => h H locs ls' hl' (vg_ok_put ho trivial) (vg_okt hs) hP hS)
  next => exact h.elim
theorem vt_istore {i : Nat} (hd : decode cc pc = .ok (.istore i, 2)) (hL : i < nL) (hn : pc + 2 = n) : vm_Snd bf tb tbx strs nw shp nm cl tyl cc nL own ret d pc (vi_istore i n) := by
  subst hn
  refine ⟨vs_m1 fun K K' h lv st σ g => ?_, ?_⟩
  · split at g
    · exact h _ _ _ _ g
    · exact g
  intro p l e R s m args below meth c D tys ad A P ck cn Z C0 E0 lv st σ h H locs ls hl ho hs hP hS
  unfold vi_istore at h
  split at h
  next x t => exact lv_istore C0.1 C0.2.1 hd hl hL (vg_lm_put ad lv i (.inl (.int x))) (fun ls' hl' => h H locs ls' hl' (vg_ok_put ho trivial) (vg_okt hs) hP hS)
  next => exact h.elim
theorem vt_lstore_n {k : Fin 4} {i : Nat} (hd : decode cc pc = .ok (.lstore_n k, 1)) (hi : (k : Nat) = i) (hL : i + 1 < nL) (hn : pc + 1 = n) : vm_Snd bf tb tbx strs nw shp nm cl tyl cc nL own ret d pc (vi_lstore i n) := by
  subst hn
  refine ⟨vs_m1 fun K K' h lv st σ g => ?_, ?_⟩
  · split at g
    · exact h _ _ _ _ g
    · exact g
  intro p l e R s m args below meth c D tys ad A P ck cn Z C0 E0 lv st σ h H locs ls hl ho hs hP hS
  unfold vi_lstore at h
  split at h
  next x t => exact lv_lstore_n C0.1 C0.2.1 hd hi hl hL (vg_lm_put2 ad lv i (.inl (.long x))) (fun ls' hl' => h H locs ls' hl' (vg_ok_put2 ho trivial) (vg_okt hs) hP hS)
  next => exact h.elim
theorem vt_lstore {i : Nat} (hd : decode cc pc = .ok (.lstore i, 2)) (hL : i + 1 < nL) (hn : pc + 2 = n) : vm_Snd bf tb tbx strs nw shp nm cl tyl cc nL own ret d pc (vi_lstore i n) := by
  subst hn
  refine ⟨vs_m1 fun K K' h lv st σ g => ?_, ?_⟩
  · split at g
    · exact h _ _ _ _ g
    · exact g
  intro p l e R s m args below meth c D tys ad A P ck cn Z C0 E0 lv st σ h H locs ls hl ho hs hP hS
  unfold vi_lstore at h
  split at h
  next x t => exact lv_lstore C0.1 C0.2.1 hd hl hL (vg_lm_put2 ad lv i (.inl (.long x))) (fun ls' hl' => h H locs ls' hl' (vg_ok_put2 ho trivial) (vg_okt hs) hP hS)
  next => exact h.elim
theorem vt_astore_n {k : Fin 4} {i : Nat} (hd : decode cc pc = .ok (.astore_n k, 1)) (hi : (k : Nat) = i) (hL : i < nL) (hn : pc + 1 = n) : vm_Snd bf tb tbx strs nw shp nm cl tyl cc nL own ret d pc (vi_astore i n) := by
  subst hn
  refine ⟨vs_m1 fun K K' h lv st σ g => ?_, ?_⟩
  · split at g
    · exact h _ _ _ _ g
    · exact g
  intro p l e R s m args below meth c D tys ad A P ck cn Z C0 E0 lv st σ h H locs ls hl ho hs hP hS
  unfold vi_astore at h
  split at h
  next x t => exact lv_astore_n C0.1 C0.2.1 hd hi hl hL (vg_lm_put ad lv i (.inr x)) (fun ls' hl' => h H locs ls' hl' (vg_ok_put ho (vg_okh hs)) (vg_okt hs) hP hS)
  next => exact h.elim
theorem vt_astore {i : Nat} (hd : decode cc pc = .ok (.astore i, 2)) (hL : i < nL) (hn : pc + 2 = n) : vm_Snd bf tb tbx strs nw shp nm cl tyl cc nL own ret d pc (vi_astore i n) := by
  subst hn
  refine ⟨vs_m1 fun K K' h lv st σ g => ?_, ?_⟩
  · split at g
    · exact h _ _ _ _ g
    · exact g
  intro p l e R s m args below meth c D tys ad A P ck cn Z C0 E0 lv st σ h H locs ls hl ho hs hP hS
  unfold vi_astore at h
  split at h
  next x t => exact lv_astore C0.1 C0.2.1 hd hl hL (vg_lm_put ad lv i (.inr x)) (fun ls' hl' => h H locs ls' hl' (vg_ok_put ho (vg_okh hs)) (vg_okt hs) hP hS)
  next => exact h.elim
theorem vt_iinc {i : Nat} {z : Int} {v : Int32} (hd : decode cc pc = .ok (.iinc i z, 3)) (hv : Int32.ofInt z = v) (hn : pc + 3 = n) : vm_Snd bf tb tbx strs nw shp nm cl tyl cc nL own ret d pc (vi_iinc i v n) := by
  subst hn
  refine ⟨vs_m1 fun K K' h lv st σ g => ?_, ?_⟩
  · split at g
    · exact h _ _ _ _ g
    · exact g
  intro p l e R s m args below meth c D tys ad A P ck cn Z C0 E0 lv st σ h H locs ls hl ho hs hP hS
  unfold vi_iinc at h
  split at h
  next x hx =>
    obtain ⟨k, hk⟩ := List.getElem?_of_mem (vg_look_mem hx)
    exact lv_iinc (k := k) C0.1 C0.2.1 hd hl (by unfold vg_lm; rw [List.getElem?_map, hk]; rfl) (by rw [hv]) (vg_lms hl hx) (vg_lm_put ad lv i (.inl (.int (x + v)))) (fun ls' hl' => h H locs ls' hl' (vg_ok_put ho trivial) hs hP hS)
  next => exact h.elim
theorem vt_iadd (hd : decode cc pc = .ok (.iadd, 1)) (hn : pc + 1 = n) : vm_Snd bf tb tbx strs nw shp nm cl tyl cc nL own ret d pc (vi_bin (fun x y => x + y) n) := by
  subst hn
  refine ⟨vs_m1 fun K K' h lv st σ g => ?_, ?_⟩
  · split at g
    · exact h _ _ _ _ g
    · exact g
  intro p l e R s m args below meth c D tys ad A P ck cn Z C0 E0 lv st σ h H locs ls hl ho hs hP hS
  unfold vi_bin at h
  split at h
  next y x t => exact lv_iadd C0.1 C0.2.1 hd (h H locs ls hl ho (vg_okc trivial (vg_okt (vg_okt hs))) hP hS)
  next => exact h.elim
theorem vt_isub (hd : decode cc pc = .ok (.isub, 1)) (hn : pc + 1 = n) : vm_Snd bf tb tbx strs nw shp nm cl tyl cc nL own ret d pc (vi_bin (fun x y => x - y) n) := by
  subst hn
  refine ⟨vs_m1 fun K K' h lv st σ g => ?_, ?_⟩
  · split at g
    · exact h _ _ _ _ g
    · exact g
  intro p l e R s m args below meth c D tys ad A P ck cn Z C0 E0 lv st σ h H locs ls hl ho hs hP hS
  unfold vi_bin at h
  split at h
  next y x t => exact lv_isub C0.1 C0.2.1 hd (h H locs ls hl ho (vg_okc trivial (vg_okt (vg_okt hs))) hP hS)
  next => exact h.elim
theorem vt_imul (hd : decode cc pc = .ok (.imul, 1)) (hn : pc + 1 = n) : vm_Snd bf tb tbx strs nw shp nm cl tyl cc nL own ret d pc (vi_bin (fun x y => x * y) n) := by
  subst hn
  refine ⟨vs_m1 fun K K' h lv st σ g => ?_, ?_⟩
  · split at g
    · exact h _ _ _ _ g
    · exact g
  intro p l e R s m args below meth c D tys ad A P ck cn Z C0 E0 lv st σ h H locs ls hl ho hs hP hS
  unfold vi_bin at h
  split at h
  next y x t => exact lv_imul C0.1 C0.2.1 hd (h H locs ls hl ho (vg_okc trivial (vg_okt (vg_okt hs))) hP hS)
  next => exact h.elim
theorem vt_iand (hd : decode cc pc = .ok (.iand, 1)) (hn : pc + 1 = n) : vm_Snd bf tb tbx strs nw shp nm cl tyl cc nL own ret d pc (vi_bin (fun x y => x &&& y) n) := by
  subst hn
  refine ⟨vs_m1 fun K K' h lv st σ g => ?_, ?_⟩
  · split at g
    · exact h _ _ _ _ g
    · exact g
  intro p l e R s m args below meth c D tys ad A P ck cn Z C0 E0 lv st σ h H locs ls hl ho hs hP hS
  unfold vi_bin at h
  split at h
  next y x t => exact lv_iand C0.1 C0.2.1 hd (h H locs ls hl ho (vg_okc trivial (vg_okt (vg_okt hs))) hP hS)
  next => exact h.elim
theorem vt_ior (hd : decode cc pc = .ok (.ior, 1)) (hn : pc + 1 = n) : vm_Snd bf tb tbx strs nw shp nm cl tyl cc nL own ret d pc (vi_bin (fun x y => x ||| y) n) := by
  subst hn
  refine ⟨vs_m1 fun K K' h lv st σ g => ?_, ?_⟩
  · split at g
    · exact h _ _ _ _ g
    · exact g
  intro p l e R s m args below meth c D tys ad A P ck cn Z C0 E0 lv st σ h H locs ls hl ho hs hP hS
  unfold vi_bin at h
  split at h
  next y x t => exact lv_ior C0.1 C0.2.1 hd (h H locs ls hl ho (vg_okc trivial (vg_okt (vg_okt hs))) hP hS)
  next => exact h.elim
theorem vt_ixor (hd : decode cc pc = .ok (.ixor, 1)) (hn : pc + 1 = n) : vm_Snd bf tb tbx strs nw shp nm cl tyl cc nL own ret d pc (vi_bin (fun x y => x ^^^ y) n) := by
  subst hn
  refine ⟨vs_m1 fun K K' h lv st σ g => ?_, ?_⟩
  · split at g
    · exact h _ _ _ _ g
    · exact g
  intro p l e R s m args below meth c D tys ad A P ck cn Z C0 E0 lv st σ h H locs ls hl ho hs hP hS
  unfold vi_bin at h
  split at h
  next y x t => exact lv_ixor C0.1 C0.2.1 hd (h H locs ls hl ho (vg_okc trivial (vg_okt (vg_okt hs))) hP hS)
  next => exact h.elim
theorem vt_ishl (hd : decode cc pc = .ok (.ishl, 1)) (hn : pc + 1 = n) : vm_Snd bf tb tbx strs nw shp nm cl tyl cc nL own ret d pc (vi_bin (fun x y => x <<< (y &&& 31)) n) := by
  subst hn
  refine ⟨vs_m1 fun K K' h lv st σ g => ?_, ?_⟩
  · split at g
    · exact h _ _ _ _ g
    · exact g
  intro p l e R s m args below meth c D tys ad A P ck cn Z C0 E0 lv st σ h H locs ls hl ho hs hP hS
  unfold vi_bin at h
  split at h
  next y x t => exact lv_ishl C0.1 C0.2.1 hd (h H locs ls hl ho (vg_okc trivial (vg_okt (vg_okt hs))) hP hS)
  next => exact h.elim
theorem vt_ishr (hd : decode cc pc = .ok (.ishr, 1)) (hn : pc + 1 = n) : vm_Snd bf tb tbx strs nw shp nm cl tyl cc nL own ret d pc (vi_bin (fun x y => x >>> (y &&& 31)) n) := by
  subst hn
  refine ⟨vs_m1 fun K K' h lv st σ g => ?_, ?_⟩
  · split at g
    · exact h _ _ _ _ g
    · exact g
  intro p l e R s m args below meth c D tys ad A P ck cn Z C0 E0 lv st σ h H locs ls hl ho hs hP hS
  unfold vi_bin at h
  split at h
  next y x t => exact lv_ishr C0.1 C0.2.1 hd (h H locs ls hl ho (vg_okc trivial (vg_okt (vg_okt hs))) hP hS)
  next => exact h.elim
theorem vt_idiv (hd : decode cc pc = .ok (.idiv, 1)) (hn : pc + 1 = n) : vm_Snd bf tb tbx strs nw shp nm cl tyl cc nL own ret d pc (vi_div (fun x y => x / y) n) := by
  subst hn
  refine ⟨vs_m1 fun K K' h lv st σ g => ?_, ?_⟩
  · split at g
    · exact ⟨g.1, h _ _ _ _ g.2⟩
    · exact g
  intro p l e R s m args below meth c D tys ad A P ck cn Z C0 E0 lv st σ h H locs ls hl ho hs hP hS
  unfold vi_div at h
  split at h
  next y x t => exact lv_idiv C0.1 C0.2.1 hd h.1 (h.2 H locs ls hl ho (vg_okc trivial (vg_okt (vg_okt hs))) hP hS)
  next => exact h.elim
theorem vt_irem (hd : decode cc pc = .ok (.irem, 1)) (hn : pc + 1 = n) : vm_Snd bf tb tbx strs nw shp nm cl tyl cc nL own ret d pc (vi_div (fun x y => x - x / y * y) n) := by
  subst hn
  refine ⟨vs_m1 fun K K' h lv st σ g => ?_, ?_⟩
  · split at g
    · exact ⟨g.1, h _ _ _ _ g.2⟩
    · exact g
  intro p l e R s m args below meth c D tys ad A P ck cn Z C0 E0 lv st σ h H locs ls hl ho hs hP hS
  unfold vi_div at h
  split at h
  next y x t => exact lv_irem C0.1 C0.2.1 hd h.1 (h.2 H locs ls hl ho (vg_okc trivial (vg_okt (vg_okt hs))) hP hS)
  next => exact h.elim
theorem vt_ladd (hd : decode cc pc = .ok (.ladd, 1)) (hn : pc + 1 = n) : vm_Snd bf tb tbx strs nw shp nm cl tyl cc nL own ret d pc (vi_lbin (fun x y => x + y) n) := by
  subst hn
  refine ⟨vs_m1 fun K K' h lv st σ g => ?_, ?_⟩
  · split at g
    · exact h _ _ _ _ g
    · exact g
  intro p l e R s m args below meth c D tys ad A P ck cn Z C0 E0 lv st σ h H locs ls hl ho hs hP hS
  unfold vi_lbin at h
  split at h
  next y x t => exact lv_ladd C0.1 C0.2.1 hd (h H locs ls hl ho (vg_okc trivial (vg_okt (vg_okt hs))) hP hS)
  next => exact h.elim
theorem vt_lmul (hd : decode cc pc = .ok (.lmul, 1)) (hn : pc + 1 = n) : vm_Snd bf tb tbx strs nw shp nm cl tyl cc nL own ret d pc (vi_lbin (fun x y => x * y) n) := by
  subst hn
  refine ⟨vs_m1 fun K K' h lv st σ g => ?_, ?_⟩
  · split at g
    · exact h _ _ _ _ g
    · exact g
  intro p l e R s m args below meth c D tys ad A P ck cn Z C0 E0 lv st σ h H locs ls hl ho hs hP hS
  unfold vi_lbin at h
  split at h
  next y x t => exact lv_lmul C0.1 C0.2.1 hd (h H locs ls hl ho (vg_okc trivial (vg_okt (vg_okt hs))) hP hS)
  next => exact h.elim
theorem vt_i2l (hd : decode cc pc = .ok (.i2l, 1)) (hn : pc + 1 = n) : vm_Snd bf tb tbx strs nw shp nm cl tyl cc nL own ret d pc (vi_i2l n) := by
  subst hn
  refine ⟨vs_m1 fun K K' h lv st σ g => ?_, ?_⟩
  · split at g
    · exact h _ _ _ _ g
    · exact g
  intro p l e R s m args below meth c D tys ad A P ck cn Z C0 E0 lv st σ h H locs ls hl ho hs hP hS
  unfold vi_i2l at h
  split at h
  next x t => exact lv_i2l C0.1 C0.2.1 hd rfl (h H locs ls hl ho (vg_okc trivial (vg_okt hs)) hP hS)
  next => exact h.elim
theorem vt_if_eq {off : Int} {g : Nat} (hd : decode cc pc = .ok (.ifCond .eq off, 3)) (ht : (pc : Int) + off = (g : Int)) (hn : pc + 3 = n) : vm_Snd bf tb tbx strs nw shp nm cl tyl cc nL own ret d pc (vi_if (fun x => x = 0) g n) := by
  subst hn
  refine ⟨vs_m1 fun K K' h lv st σ g => ?_, ?_⟩
  · split at g
    · exact ⟨fun q => h _ _ _ _ (g.1 q), fun q => h _ _ _ _ (g.2 q)⟩
    · exact g
  intro p l e R s m args below meth c D tys ad A P ck cn Z C0 E0 lv st σ h H locs ls hl ho hs hP hS
  unfold vi_if at h
  split at h
  next x t => exact lv_if_eq C0.1 C0.2.1 hd ht (fun q => h.1 q H locs ls hl ho (vg_okt hs) hP hS) (fun q => h.2 q H locs ls hl ho (vg_okt hs) hP hS)
  next => exact h.elim
theorem vt_if_ne {off : Int} {g : Nat} (hd : decode cc pc = .ok (.ifCond .ne off, 3)) (ht : (pc : Int) + off = (g : Int)) (hn : pc + 3 = n) : vm_Snd bf tb tbx strs nw shp nm cl tyl cc nL own ret d pc (vi_if (fun x => x = 0) n g) := by
  subst hn
  refine ⟨vs_m1 fun K K' h lv st σ g => ?_, ?_⟩
  · split at g
    · exact ⟨fun q => h _ _ _ _ (g.1 q), fun q => h _ _ _ _ (g.2 q)⟩
    · exact g
  intro p l e R s m args below meth c D tys ad A P ck cn Z C0 E0 lv st σ h H locs ls hl ho hs hP hS
  unfold vi_if at h
  split at h
  next x t => exact lv_if_ne C0.1 C0.2.1 hd ht (fun q => h.2 q H locs ls hl ho (vg_okt hs) hP hS) (fun q => h.1 q H locs ls hl ho (vg_okt hs) hP hS)
  next => exact h.elim
theorem vt_if_lt {off : Int} {g : Nat} (hd : decode cc pc = .ok (.ifCond .lt off, 3)) (ht : (pc : Int) + off = (g : Int)) (hn : pc + 3 = n) : vm_Snd bf tb tbx strs nw shp nm cl tyl cc nL own ret d pc (vi_if (fun x => x < 0) g n) := by
  subst hn
  refine ⟨vs_m1 fun K K' h lv st σ g => ?_, ?_⟩
  · split at g
    · exact ⟨fun q => h _ _ _ _ (g.1 q), fun q => h _ _ _ _ (g.2 q)⟩
    · exact g
  intro p l e R s m args below meth c D tys ad A P ck cn Z C0 E0 lv st σ h H locs ls hl ho hs hP hS
  unfold vi_if at h
  split at h
  next x t => exact lv_if_lt C0.1 C0.2.1 hd ht (fun q => h.1 q H locs ls hl ho (vg_okt hs) hP hS) (fun q => h.2 q H locs ls hl ho (vg_okt hs) hP hS)
  next => exact h.elim
theorem vt_if_ge {off : Int} {g : Nat} (hd : decode cc pc = .ok (.ifCond .ge off, 3)) (ht : (pc : Int) + off = (g : Int)) (hn : pc + 3 = n) : vm_Snd bf tb tbx strs nw shp nm cl tyl cc nL own ret d pc (vi_if (fun x => 0 ≤ x) g n) := by
  subst hn
  refine ⟨vs_m1 fun K K' h lv st σ g => ?_, ?_⟩
  · split at g
    · exact ⟨fun q => h _ _ _ _ (g.1 q), fun q => h _ _ _ _ (g.2 q)⟩
    · exact g
  intro p l e R s m args below meth c D tys ad A P ck cn Z C0 E0 lv st σ h H locs ls hl ho hs hP hS
  unfold vi_if at h
  split at h
  next x t => exact lv_if_ge C0.1 C0.2.1 hd ht (fun q => h.1 q H locs ls hl ho (vg_okt hs) hP hS) (fun q => h.2 q H locs ls hl ho (vg_okt hs) hP hS)
  next => exact h.elim
theorem vt_if_gt {off : Int} {g : Nat} (hd : decode cc pc = .ok (.ifCond .gt off, 3)) (ht : (pc : Int) + off = (g : Int)) (hn : pc + 3 = n) : vm_Snd bf tb tbx strs nw shp nm cl tyl cc nL own ret d pc (vi_if (fun x => 0 < x) g n) := by
  subst hn
  refine ⟨vs_m1 fun K K' h lv st σ g => ?_, ?_⟩
  · split at g
    · exact ⟨fun q => h _ _ _ _ (g.1 q), fun q => h _ _ _ _ (g.2 q)⟩
    · exact g
  intro p l e R s m args below meth c D tys ad A P ck cn Z C0 E0 lv st σ h H locs ls hl ho hs hP hS
  unfold vi_if at h
  split at h
  next x t => exact lv_if_gt C0.1 C0.2.1 hd ht (fun q => h.1 q H locs ls hl ho (vg_okt hs) hP hS) (fun q => h.2 q H locs ls hl ho (vg_okt hs) hP hS)
  next => exact h.elim
theorem vt_if_le {off : Int} {g : Nat} (hd : decode cc pc = .ok (.ifCond .le off, 3)) (ht : (pc : Int) + off = (g : Int)) (hn : pc + 3 = n) : vm_Snd bf tb tbx strs nw shp nm cl tyl cc nL own ret d pc (vi_if (fun x => x ≤ 0) g n) := by
  subst hn
  refine ⟨vs_m1 fun K K' h lv st σ g => ?_, ?_⟩
  · split at g
    · exact ⟨fun q => h _ _ _ _ (g.1 q), fun q => h _ _ _ _ (g.2 q)⟩
    · exact g
  intro p l e R s m args below meth c D tys ad A P ck cn Z C0 E0 lv st σ h H locs ls hl ho hs hP hS
  unfold vi_if at h
  split at h
  next x t => exact lv_if_le C0.1 C0.2.1 hd ht (fun q => h.1 q H locs ls hl ho (vg_okt hs) hP hS) (fun q => h.2 q H locs ls hl ho (vg_okt hs) hP hS)
  next => exact h.elim
theorem vt_cmp_eq {off : Int} {g : Nat} (hd : decode cc pc = .ok (.if_icmp .eq off, 3)) (ht : (pc : Int) + off = (g : Int)) (hn : pc + 3 = n) : vm_Snd bf tb tbx strs nw shp nm cl tyl cc nL own ret d pc (vi_cmp (fun x y => x = y) g n) := by
  subst hn
  refine ⟨vs_m1 fun K K' h lv st σ g => ?_, ?_⟩
  · split at g
    · exact ⟨fun q => h _ _ _ _ (g.1 q), fun q => h _ _ _ _ (g.2 q)⟩
    · exact g
  intro p l e R s m args below meth c D tys ad A P ck cn Z C0 E0 lv st σ h H locs ls hl ho hs hP hS
  unfold vi_cmp at h
  split at h
  next y x t => exact lv_icmp_eq C0.1 C0.2.1 hd ht (fun q => h.1 q H locs ls hl ho (vg_okt (vg_okt hs)) hP hS) (fun q => h.2 q H locs ls hl ho (vg_okt (vg_okt hs)) hP hS)
  next => exact h.elim
theorem vt_cmp_ne {off : Int} {g : Nat} (hd : decode cc pc = .ok (.if_icmp .ne off, 3)) (ht : (pc : Int) + off = (g : Int)) (hn : pc + 3 = n) : vm_Snd bf tb tbx strs nw shp nm cl tyl cc nL own ret d pc (vi_cmp (fun x y => x = y) n g) := by
  subst hn
  refine ⟨vs_m1 fun K K' h lv st σ g => ?_, ?_⟩
  · split at g
    · exact ⟨fun q => h _ _ _ _ (g.1 q), fun q => h _ _ _ _ (g.2 q)⟩
    · exact g
  intro p l e R s m args below meth c D tys ad A P ck cn Z C0 E0 lv st σ h H locs ls hl ho hs hP hS
  unfold vi_cmp at h
  split at h
  next y x t => exact lv_icmp_ne C0.1 C0.2.1 hd ht (fun q => h.2 q H locs ls hl ho (vg_okt (vg_okt hs)) hP hS) (fun q => h.1 q H locs ls hl ho (vg_okt (vg_okt hs)) hP hS)
  next => exact h.elim
theorem vt_cmp_lt {off : Int} {g : Nat} (hd : decode cc pc = .ok (.if_icmp .lt off, 3)) (ht : (pc : Int) + off = (g : Int)) (hn : pc + 3 = n) : vm_Snd bf tb tbx strs nw shp nm cl tyl cc nL own ret d pc (vi_cmp (fun x y => x < y) g n) := by
  subst hn
  refine ⟨vs_m1 fun K K' h lv st σ g => ?_, ?_⟩
  · split at g
    · exact ⟨fun q => h _ _ _ _ (g.1 q), fun q => h _ _ _ _ (g.2 q)⟩
    · exact g
  intro p l e R s m args below meth c D tys ad A P ck cn Z C0 E0 lv st σ h H locs ls hl ho hs hP hS
  unfold vi_cmp at h
  split at h
  next y x t => exact lv_icmp_lt C0.1 C0.2.1 hd ht (fun q => h.1 q H locs ls hl ho (vg_okt (vg_okt hs)) hP hS) (fun q => h.2 q H locs ls hl ho (vg_okt (vg_okt hs)) hP hS)
  next => exact h.elim
theorem vt_cmp_ge {off : Int} {g : Nat} (hd : decode cc pc = .ok (.if_icmp .ge off, 3)) (ht : (pc : Int) + off = (g : Int)) (hn : pc + 3 = n) : vm_Snd bf tb tbx strs nw shp nm cl tyl cc nL own ret d pc (vi_cmp (fun x y => y ≤ x) g n) := by
  subst hn
  refine ⟨vs_m1 fun K K' h lv st σ g => ?_, ?_⟩
  · split at g
    · exact ⟨fun q => h _ _ _ _ (g.1 q), fun q => h _ _ _ _ (g.2 q)⟩
    · exact g
  intro p l e R s m args below meth c D tys ad A P ck cn Z C0 E0 lv st σ h H locs ls hl ho hs hP hS
  unfold vi_cmp at h
  split at h
  next y x t => exact lv_icmp_ge C0.1 C0.2.1 hd ht (fun q => h.1 q H locs ls hl ho (vg_okt (vg_okt hs)) hP hS) (fun q => h.2 q H locs ls hl ho (vg_okt (vg_okt hs)) hP hS)
  next => exact h.elim
theorem vt_cmp_gt {off : Int} {g : Nat} (hd : decode cc pc = .ok (.if_icmp .gt off, 3)) (ht : (pc : Int) + off = (g : Int)) (hn : pc + 3 = n) : vm_Snd bf tb tbx strs nw shp nm cl tyl cc nL own ret d pc (vi_cmp (fun x y => y < x) g n) := by
  subst hn
  refine ⟨vs_m1 fun K K' h lv st σ g => ?_, ?_⟩
  · split at g
    · exact ⟨fun q => h _ _ _ _ (g.1 q), fun q => h _ _ _ _ (g.2 q)⟩
    · exact g
  intro p l e R s m args below meth c D tys ad A P ck cn Z C0 E0 lv st σ h H locs ls hl ho hs hP hS
  unfold vi_cmp at h
  split at h
  next y x t => exact lv_icmp_gt C0.1 C0.2.1 hd ht (fun q => h.1 q H locs ls hl ho (vg_okt (vg_okt hs)) hP hS) (fun q => h.2 q H locs ls hl ho (vg_okt (vg_okt hs)) hP hS)
  next => exact h.elim
theorem vt_cmp_le {off : Int} {g : Nat} (hd : decode cc pc = .ok (.if_icmp .le off, 3)) (ht : (pc : Int) + off = (g : Int)) (hn : pc + 3 = n) : vm_Snd bf tb tbx strs nw shp nm cl tyl cc nL own ret d pc (vi_cmp (fun x y => x ≤ y) g n) := by
  subst hn
  refine ⟨vs_m1 fun K K' h lv st σ g => ?_, ?_⟩
  · split at g
    · exact ⟨fun q => h _ _ _ _ (g.1 q), fun q => h _ _ _ _ (g.2 q)⟩
    · exact g
  intro p l e R s m args below meth c D tys ad A P ck cn Z C0 E0 lv st σ h H locs ls hl ho hs hP hS
  unfold vi_cmp at h
  split at h
  next y x t => exact lv_icmp_le C0.1 C0.2.1 hd ht (fun q => h.1 q H locs ls hl ho (vg_okt (vg_okt hs)) hP hS) (fun q => h.2 q H locs ls hl ho (vg_okt (vg_okt hs)) hP hS)
  next => exact h.elim
theorem vt_goto {off : Int} {g : Nat} (hd : decode cc pc = .ok (.goto off, 3)) (ht : (pc : Int) + off = (g : Int)) : vm_Snd bf tb tbx strs nw shp nm cl tyl cc nL own ret d pc (vi_goto g) := by
  refine ⟨vs_m1 fun K K' h lv st σ g => h _ _ _ _ g, ?_⟩
  intro p l e R s m args below meth c D tys ad A P ck cn Z C0 E0 lv st σ h H locs ls hl ho hs hP hS
  exact lv_goto C0.1 C0.2.1 hd ht (h H locs ls hl ho hs hP hS)
theorem vt_tsw {dflt hi : Int} {offs : Array Int} {len g : Nat} {cs : List (Int32 × Nat)} (hd : decode cc pc = .ok (.tableswitch dflt 0 hi offs, len)) (hg : (pc : Int) + dflt = (g : Int)) (hh : hi + 1 = (cs.length : Int))
    (hc : ∀ i : Nat, i < cs.length → ∃ q off, cs[i]? = some q ∧ offs[i]? = some off ∧ q.1.toInt = (i : Int) ∧ (pc : Int) + off = (q.2 : Int)) : vm_Snd bf tb tbx strs nw shp nm cl tyl cc nL own ret d pc (vi_sw cs g) := by
  refine ⟨vs_m1 fun K K' h lv st σ g => ?_, ?_⟩
  · split at g
    · exact vi_sw0_mono (h _ _ _ _) (f := fun q => K q lv _ σ) (f' := fun q => K' q lv _ σ) (fun q => h _ _ _ _) cs g
    · exact g
  intro p l e R s m args below meth c D tys ad A P ck cn Z C0 E0 lv st σ h H locs ls hl ho hs hP hS
  unfold vi_sw at h
  split at h
  next x t =>
    rcases vs_tsw0 (f := fun q => vm_X shp nm cl nL p l e R s m args below meth c D tys ad A ck cn Z q lv t σ) cs h with ⟨i, q, h1, h2, h3⟩ | ⟨h1, h2⟩
    · have hi := (List.getElem?_eq_some_iff.mp h1).1
      obtain ⟨q', off, e1, e2, e3, e4⟩ := hc i hi
      cases e1.symm.trans h1
      refine lv_tableIn C0.1 C0.2.1 hd (by rw [h2, e3]; omega) (by rw [h2, e3]; omega) (off := off) ?_ e4 (h3 H locs ls hl ho (vg_okt hs) hP hS)
      rw [h2, e3, Int.sub_zero, Int.toNat_natCast]
      exact e2
    · refine lv_tableOut C0.1 C0.2.1 hd ?_ hg (h2 H locs ls hl ho (vg_okt hs) hP hS)
      rcases Int.lt_or_le x.toInt 0 with z | z
      · exact Or.inl z
      · refine Or.inr (Int.not_le.mp fun y => ?_)
        have hi : x.toInt.toNat < cs.length := by omega
        obtain ⟨q', off, e1, e2, e3, e4⟩ := hc _ hi
        exact h1 _ q' e1 (Int32.toInt_inj.mp (by rw [e3]; omega))
  next => exact h.elim
theorem vt_dup (hd : decode cc pc = .ok (.dup, 1)) (hn : pc + 1 = n) : vm_Snd bf tb tbx strs nw shp nm cl tyl cc nL own ret d pc (vi_dup n) := by
  subst hn
  refine ⟨vs_m1 fun K K' h lv st σ g => ?_, ?_⟩
  · split at g
    · exact ⟨g.1, h _ _ _ _ g.2⟩
    · exact g
  intro p l e R s m args below meth c D tys ad A P ck cn Z C0 E0 lv st σ h H locs ls hl ho hs hP hS
  unfold vi_dup at h
  split at h
  next a t => exact lv_dup C0.1 C0.2.1 hd (vg_cat1 h.1) (h.2 H locs ls hl ho (vg_okc (vg_okh hs) hs) hP hS)
  next => exact h.elim
theorem vt_pop (hd : decode cc pc = .ok (.pop, 1)) (hn : pc + 1 = n) : vm_Snd bf tb tbx strs nw shp nm cl tyl cc nL own ret d pc (vi_pop n) := by
  subst hn
  refine ⟨vs_m1 fun K K' h lv st σ g => ?_, ?_⟩
  · split at g
    · exact ⟨g.1, h _ _ _ _ g.2⟩
    · exact g
  intro p l e R s m args below meth c D tys ad A P ck cn Z C0 E0 lv st σ h H locs ls hl ho hs hP hS
  unfold vi_pop at h
  split at h
  next a t => exact lv_pop C0.1 C0.2.1 hd (vg_cat1 h.1) (h.2 H locs ls hl ho (vg_okt hs) hP hS)
  next => exact h.elim
theorem vt_dup_x1 (hd : decode cc pc = .ok (.dup_x1, 1)) (hn : pc + 1 = n) : vm_Snd bf tb tbx strs nw shp nm cl tyl cc nL own ret d pc (vi_dupx1 n) := by
  subst hn
  refine ⟨vs_m1 fun K K' h lv st σ g => ?_, ?_⟩
  · split at g
    · exact ⟨g.1, h _ _ _ _ g.2⟩
    · exact g
  intro p l e R s m args below meth c D tys ad A P ck cn Z C0 E0 lv st σ h H locs ls hl ho hs hP hS
  unfold vi_dupx1 at h
  split at h
  next a b t => exact lv_dup_x1 C0.1 C0.2.1 hd (vg_cat1 h.1.1) (vg_cat1 h.1.2) (h.2 H locs ls hl ho (vg_okc (vg_okh hs) (vg_okc (vg_okh (vg_okt hs)) (vg_okc (vg_okh hs) (vg_okt (vg_okt hs))))) hP hS)
  next => exact h.elim
theorem vt_dup2 (hd : decode cc pc = .ok (.dup2, 1)) (hn : pc + 1 = n) : vm_Snd bf tb tbx strs nw shp nm cl tyl cc nL own ret d pc (vi_dup2 n) := by
  subst hn
  refine ⟨vs_m1 fun K K' h lv st σ g => ?_, ?_⟩
  · split at g
    · exact ⟨g.1, h _ _ _ _ g.2⟩
    · exact g
  intro p l e R s m args below meth c D tys ad A P ck cn Z C0 E0 lv st σ h H locs ls hl ho hs hP hS
  unfold vi_dup2 at h
  split at h
  next a b t => exact lv_dup2_11 C0.1 C0.2.1 hd (vg_cat1 h.1.1) (vg_cat1 h.1.2) (h.2 H locs ls hl ho (vg_okc (vg_okh hs) (vg_okc (vg_okh (vg_okt hs)) hs)) hP hS)
  next => exact h.elim
theorem vt_ireturn (hd : decode cc pc = .ok (.ireturn, 1)) (hr : ret = some .int) : vm_Snd bf tb tbx strs nw shp nm cl tyl cc nL own ret d pc vi_ret := by
  refine ⟨fun P K K' h lv st σ g => g, ?_⟩
  intro p l e R s m args below meth c D tys ad A P ck cn Z C0 E0 lv st σ h H locs ls hl ho hs hP hS
  unfold vi_ret at h
  split at h
  next x => exact E0.2.1 (some (.inl (.int x))) σ pc ls H locs h hP hS (Or.inl ⟨hd, hr⟩)
  next => exact h.elim
theorem vt_zreturn (hd : decode cc pc = .ok (.ireturn, 1)) (hr : ret = some .boolean) : vm_Snd bf tb tbx strs nw shp nm cl tyl cc nL own ret d pc vi_retZ := by
  refine ⟨fun P K K' h lv st σ g => g, ?_⟩
  intro p l e R s m args below meth c D tys ad A P ck cn Z C0 E0 lv st σ h H locs ls hl ho hs hP hS
  unfold vi_retZ at h
  split at h
  next x => exact E0.2.1 (some (.inl (.int x))) σ pc ls H locs h.2 hP hS (Or.inr ⟨hd, hr, h.1⟩)
  next => exact h.elim
theorem vt_lreturn (hd : decode cc pc = .ok (.lreturn, 1)) (hr : ret = some .long) : vm_Snd bf tb tbx strs nw shp nm cl tyl cc nL own ret d pc vi_retL := by
  refine ⟨fun P K K' h lv st σ g => g, ?_⟩
  intro p l e R s m args below meth c D tys ad A P ck cn Z C0 E0 lv st σ h H locs ls hl ho hs hP hS
  unfold vi_retL at h
  split at h
  next x => exact E0.2.1 (some (.inl (.long x))) σ pc ls H locs h hP hS ⟨hd, hr⟩
  next => exact h.elim
theorem vt_return (hd : decode cc pc = .ok (.return_, 1)) (hr : ret = none) : vm_Snd bf tb tbx strs nw shp nm cl tyl cc nL own ret d pc vi_retV := by
  refine ⟨fun P K K' h lv st σ g => g, ?_⟩
  intro p l e R s m args below meth c D tys ad A P ck cn Z C0 E0 lv st σ h H locs ls hl ho hs hP hS
  unfold vi_retV at h
  split at h
  next => exact E0.2.1 none σ pc ls H locs h hP hS ⟨hd, hr⟩
  next => exact h.elim
end VT
section VT2
variable {bf : Bool} {tb tbx : List Cond} {strs : List (String × Nat × String)} {nw : List (String × Nat × MethodName × String)} {shp : vgN → vgH} {nm : List vgN} {cl : List vw_C} {tyl : List FieldType} {cc : ByteArray} {nL : Nat} {own : String} {ret : Option FieldType} {d pc n : Nat}

theorem vt_getfield {ci k ix : Nat} {C : String} {T : u_T} {N : Nat} (hd : decode cc pc = .ok (.getfield ix, 3)) (hc : cl[ci]? = some (C, T, N)) (hk : k < N) (hin : ∀ w ∈ u_ws C T N, w ∈ tb) (hw : Cond.fieldLink own ix (T k).1 (T k).2.1 (T k).2.2.1 ∈ tb) (hn : pc + 3 = n) : vm_Snd bf tb tbx strs nw shp nm cl tyl cc nL own ret d pc (vi_get shp ci k n) := by
  subst hn
  refine ⟨vs_m1 fun K K' h lv st σ g => ?_, ?_⟩
  · split at g
    · split at g
      next q _ =>
        cases hb : Nat.beq q.1 ci with
        | false => rw [hb] at g; exact g.elim
        | true =>
          rw [hb] at g
          show (match vg_nth q.2 k with | some none => _ | some (some z) => _ | none => False)
          have g' : (match vg_nth q.2 k with | some none => _ | some (some z) => _ | none => False) := g
          split at g'
          · exact h _ _ _ _ g'
          · exact h _ _ _ _ g'
          · exact g'
      next => exact g
    · exact g
  intro p l e R s m args below meth c D tys ad A P ck cn Z C0 E0 lv st σ h H locs ls hl ho hs hP hS
  unfold vi_get at h
  split at h
  next m0 t =>
    split at h
    next q hq =>
      cases hb : Nat.beq q.1 ci with
      | false => rw [hb] at h; exact h.elim
      | true =>
        rw [hb] at h
        have e : q.1 = ci := Nat.eq_of_beq_eq_true hb
        have h' : (match vg_nth q.2 k with | some none => _ | some (some z) => _ | none => False) := h
        obtain ⟨q0, hq0, hws⟩ := vg_ws_get (shp := shp) (ad := ad) (tys := tys) (σ := σ) (show m0 ∈ nm from vg_okh hs)
        rw [hq] at hws
        have hws2 : (vg_ws shp nm ad tys σ)[q0]? = some (ad m0, .inr (ci, vg_fs ad (σ m0) 0 q.2)) := by rw [hws]; show some (ad m0, Sum.inr (q.1, _)) = _; rw [e]
        have hg := vg_fs_get ad (σ m0) q.2 0 k
        rw [← vg_nth_eq, Nat.zero_add] at hg
        split at h'
        next hz =>
          rw [hz] at hg
          exact va_get (D := D) C0.1 C0.2.1 C0.2.2.2.2.1 hin C0.2.2.2.1 C0.2.2.2.2.2.1 hP q0 hws2 hc k hk (C0.2.2.2.2.1 _ hw) (fun _ z => z) hg hd (h' H locs ls hl ho (vg_okc trivial (vg_okt hs)) hP hS)
        next z hz =>
          rw [hz] at hg
          have hcl := C0.2.2.2.2.2.2.2.2.2.2.2.2.1 m0 (vg_okh hs)
          rw [hq] at hcl
          have hm : z ∈ nm := hcl z (by rw [vg_nth_eq] at hz; exact List.mem_of_getElem? hz)
          exact va_get (D := D) C0.1 C0.2.1 C0.2.2.2.2.1 hin C0.2.2.2.1 C0.2.2.2.2.2.1 hP q0 hws2 hc k hk (C0.2.2.2.2.1 _ hw) (fun _ z => z) hg hd (h' H locs ls hl ho (vg_okc hm (vg_okt hs)) hP hS)
        next => exact h'.elim
    next => exact h.elim
  next => exact h.elim
theorem vt_putfield {ci k ix : Nat} {C : String} {T : u_T} {N : Nat} (ty0 : Nat → FieldType) (hd : decode cc pc = .ok (.putfield ix, 3)) (hc : cl[ci]? = some (C, T, N)) (hk : k < N) (hin : ∀ w ∈ u_ws C T N, w ∈ tb) (hty : ∀ k, k < N → parseFieldDescriptor (T k).2.2.1 = some (ty0 k)) (hnm : ∀ a, a < N → ∀ b, b < N → a ≠ b → (T a).2.1 ≠ (T b).2.1) (hfin : (T k).2.2.2 = false) (hti : ty0 k = .int)
    (hw : Cond.fieldLink own ix (T k).1 (T k).2.1 (T k).2.2.1 ∈ tb) (hn : pc + 3 = n) : vm_Snd bf tb tbx strs nw shp nm cl tyl cc nL own ret d pc (vi_put shp ci k n) := by
  subst hn
  refine ⟨vs_m1 fun K K' h lv st σ g => ?_, ?_⟩
  · split at g
    · split at g
      next q _ =>
        cases hb : Nat.beq q.1 ci with
        | false => rw [hb] at g; exact g.elim
        | true =>
          rw [hb] at g
          show (match vg_nth q.2 k with | some none => _ | _ => False)
          have g' : (match vg_nth q.2 k with | some none => _ | _ => False) := g
          split at g'
          · exact h _ _ _ _ g'
          · exact g'
      next => exact g
    · exact g
  intro p l e R s m args below meth c D tys ad A P ck cn Z C0 E0 lv st σ h H locs ls hl ho hs hP hS
  unfold vi_put at h
  split at h
  next x m0 t =>
    split at h
    next q hq =>
      cases hb : Nat.beq q.1 ci with
      | false => rw [hb] at h; exact h.elim
      | true =>
        rw [hb] at h
        have e : q.1 = ci := Nat.eq_of_beq_eq_true hb
        have h' : (match vg_nth q.2 k with | some none => _ | _ => False) := h
        obtain ⟨q0, hq0, hws⟩ := vg_ws_get (shp := shp) (ad := ad) (tys := tys) (σ := σ) (show m0 ∈ nm from vg_okh (vg_okt hs))
        rw [hq] at hws
        have hws2 : (vg_ws shp nm ad tys σ)[q0]? = some (ad m0, .inr (ci, vg_fs ad (σ m0) 0 q.2)) := by rw [hws]; show some (ad m0, Sum.inr (q.1, _)) = _; rw [e]
        have hDA := C0.2.2.2.2.2.2.2.2.2.2.2.1
        split at h'
        next hz =>
          rw [vg_nth_eq] at hz
          have hl2 : k < q.2.length := (List.getElem?_eq_some_iff.mp hz).1
          refine va_put (D := D) (A := A) C0.1 C0.2.1 C0.2.2.2.2.1 hin ty0 hty hnm C0.2.2.2.1 C0.2.2.2.2.2.1 hP (hDA σ) hS q0 hws2 hc k hk (C0.2.2.2.2.1 _ hw) (fun _ z => z) hfin (ty := .int) (v := .int x) (by rw [hty k hk, hti]) rfl rfl (by rw [vg_fs_len]; exact hl2) hd (fun H1 locs1 hP1 _ hS1 => ?_)
          rw [vg_put_ws (hDA σ) hq0 (by rw [hq, ← e]) hz] at hP1
          exact h' H1 locs1 ls hl ho (vg_okt (vg_okt hs)) hP1 hS1
        next => exact h'.elim
    next => exact h.elim
  next => exact h.elim
theorem vt_putfieldZ {ci k ix : Nat} {C : String} {T : u_T} {N : Nat} (ty0 : Nat → FieldType) (hd : decode cc pc = .ok (.putfield ix, 3)) (hc : cl[ci]? = some (C, T, N)) (hk : k < N) (hin : ∀ w ∈ u_ws C T N, w ∈ tb) (hty : ∀ k, k < N → parseFieldDescriptor (T k).2.2.1 = some (ty0 k)) (hnm : ∀ a, a < N → ∀ b, b < N → a ≠ b → (T a).2.1 ≠ (T b).2.1) (hfin : (T k).2.2.2 = false) (hti : ty0 k = .boolean)
    (hw : Cond.fieldLink own ix (T k).1 (T k).2.1 (T k).2.2.1 ∈ tb) (hn : pc + 3 = n) : vm_Snd bf tb tbx strs nw shp nm cl tyl cc nL own ret d pc (vi_putZ shp ci k n) := by
  subst hn
  refine ⟨vs_m1 fun K K' h lv st σ g => ?_, ?_⟩
  · split at g
    · split at g
      next q _ =>
        cases hb : Nat.beq q.1 ci with
        | false => rw [hb] at g; exact g.elim
        | true =>
          rw [hb] at g
          show (match vg_nth q.2 k with | some none => _ | _ => False)
          have g' : (match vg_nth q.2 k with | some none => _ | _ => False) := g
          split at g'
          · exact ⟨g'.1, h _ _ _ _ g'.2⟩
          · exact g'
      next => exact g
    · exact g
  intro p l e R s m args below meth c D tys ad A P ck cn Z C0 E0 lv st σ h H locs ls hl ho hs hP hS
  unfold vi_putZ at h
  split at h
  next x m0 t =>
    split at h
    next q hq =>
      cases hb : Nat.beq q.1 ci with
      | false => rw [hb] at h; exact h.elim
      | true =>
        rw [hb] at h
        have e : q.1 = ci := Nat.eq_of_beq_eq_true hb
        have h' : (match vg_nth q.2 k with | some none => _ | _ => False) := h
        obtain ⟨q0, hq0, hws⟩ := vg_ws_get (shp := shp) (ad := ad) (tys := tys) (σ := σ) (show m0 ∈ nm from vg_okh (vg_okt hs))
        rw [hq] at hws
        have hws2 : (vg_ws shp nm ad tys σ)[q0]? = some (ad m0, .inr (ci, vg_fs ad (σ m0) 0 q.2)) := by rw [hws]; show some (ad m0, Sum.inr (q.1, _)) = _; rw [e]
        have hDA := C0.2.2.2.2.2.2.2.2.2.2.2.1
        split at h'
        next hz =>
          rw [vg_nth_eq] at hz
          have hl2 : k < q.2.length := (List.getElem?_eq_some_iff.mp hz).1
          refine va_put (D := D) (A := A) C0.1 C0.2.1 C0.2.2.2.2.1 hin ty0 hty hnm C0.2.2.2.1 C0.2.2.2.2.2.1 hP (hDA σ) hS q0 hws2 hc k hk (C0.2.2.2.2.1 _ hw) (fun _ z => z) hfin (ty := .boolean) (v := .int x) (by rw [hty k hk, hti]) (by rcases h'.1 with rfl | rfl <;> rfl) (by rcases h'.1 with rfl | rfl <;> rfl) (by rw [vg_fs_len]; exact hl2) hd (fun H1 locs1 hP1 _ hS1 => ?_)
          rw [vg_put_ws (hDA σ) hq0 (by rw [hq, ← e]) hz] at hP1
          exact h'.2 H1 locs1 ls hl ho (vg_okt (vg_okt hs)) hP1 hS1
        next => exact h'.elim
    next => exact h.elim
  next => exact h.elim
theorem vt_iaload {t0 : Nat} (hd : decode cc pc = .ok (.iaload, 1)) (ht : tyl[t0]? = some .int) (hn : pc + 1 = n) : vm_Snd bf tb tbx strs nw shp nm cl tyl cc nL own ret d pc (vi_ald shp t0 n) := by
  subst hn
  refine ⟨vs_m1 fun K K' h lv st σ g => ?_, ?_⟩
  · split at g
    · split at g
      next q _ =>
        cases hb : Nat.beq q.1 t0 with
        | false => rw [hb] at g; exact g.elim
        | true =>
          rw [hb] at g
          exact ⟨g.1, h _ _ _ _ g.2⟩
      next => exact g
    · exact g
  intro p l e R s m args below meth c D tys ad A P ck cn Z C0 E0 lv st σ h H locs ls hl ho hs hP hS
  unfold vi_ald at h
  split at h
  next i m0 t =>
    split at h
    next q hq =>
      cases hb : Nat.beq q.1 t0 with
      | false => rw [hb] at h; exact h.elim
      | true =>
        rw [hb] at h
        have e : q.1 = t0 := Nat.eq_of_beq_eq_true hb
        obtain ⟨q0, hq0, hws⟩ := vg_ws_get (shp := shp) (ad := ad) (tys := tys) (σ := σ) (show m0 ∈ nm from vg_okh (vg_okt hs))
        rw [hq] at hws
        exact va_iald (D := D) C0.1 C0.2.1 C0.2.2.2.2.2.1 hP q0 t0 (by rw [← e]; exact hws) (vg_tys C0.2.2.2.2.2.2.1 ht) h.1 hd (h.2 H locs ls hl ho (vg_okc trivial (vg_okt (vg_okt hs))) hP hS)
    next => exact h.elim
  next => exact h.elim
theorem vt_zaload {t0 : Nat} (hd : decode cc pc = .ok (.baload, 1)) (ht : tyl[t0]? = some .boolean) (hn : pc + 1 = n) : vm_Snd bf tb tbx strs nw shp nm cl tyl cc nL own ret d pc (vi_ald shp t0 n) := by
  subst hn
  refine ⟨vs_m1 fun K K' h lv st σ g => ?_, ?_⟩
  · split at g
    · split at g
      next q _ =>
        cases hb : Nat.beq q.1 t0 with
        | false => rw [hb] at g; exact g.elim
        | true =>
          rw [hb] at g
          exact ⟨g.1, h _ _ _ _ g.2⟩
      next => exact g
    · exact g
  intro p l e R s m args below meth c D tys ad A P ck cn Z C0 E0 lv st σ h H locs ls hl ho hs hP hS
  unfold vi_ald at h
  split at h
  next i m0 t =>
    split at h
    next q hq =>
      cases hb : Nat.beq q.1 t0 with
      | false => rw [hb] at h; exact h.elim
      | true =>
        rw [hb] at h
        have e : q.1 = t0 := Nat.eq_of_beq_eq_true hb
        obtain ⟨q0, hq0, hws⟩ := vg_ws_get (shp := shp) (ad := ad) (tys := tys) (σ := σ) (show m0 ∈ nm from vg_okh (vg_okt hs))
        rw [hq] at hws
        exact va_zald (D := D) C0.1 C0.2.1 C0.2.2.2.2.2.1 hP q0 t0 (by rw [← e]; exact hws) (vg_tys C0.2.2.2.2.2.2.1 ht) h.1 hd (h.2 H locs ls hl ho (vg_okc trivial (vg_okt (vg_okt hs))) hP hS)
    next => exact h.elim
  next => exact h.elim
theorem vt_iastore {t0 : Nat} (hd : decode cc pc = .ok (.iastore, 1)) (ht : tyl[t0]? = some .int) (hn : pc + 1 = n) : vm_Snd bf tb tbx strs nw shp nm cl tyl cc nL own ret d pc (vi_ast shp t0 n) := by
  subst hn
  refine ⟨vs_m1 fun K K' h lv st σ g => ?_, ?_⟩
  · split at g
    · split at g
      next q _ =>
        cases hb : Nat.beq q.1 t0 with
        | false => rw [hb] at g; exact g.elim
        | true =>
          rw [hb] at g
          exact ⟨g.1, h _ _ _ _ g.2⟩
      next => exact g
    · exact g
  intro p l e R s m args below meth c D tys ad A P ck cn Z C0 E0 lv st σ h H locs ls hl ho hs hP hS
  unfold vi_ast at h
  split at h
  next x i m0 t =>
    split at h
    next q hq =>
      cases hb : Nat.beq q.1 t0 with
      | false => rw [hb] at h; exact h.elim
      | true =>
        rw [hb] at h
        have e : q.1 = t0 := Nat.eq_of_beq_eq_true hb
        obtain ⟨q0, hq0, hws⟩ := vg_ws_get (shp := shp) (ad := ad) (tys := tys) (σ := σ) (show m0 ∈ nm from vg_okh (vg_okt (vg_okt hs)))
        rw [hq] at hws
        have hDA := C0.2.2.2.2.2.2.2.2.2.2.2.1
        refine va_iast (D := D) (A := A) C0.1 C0.2.1 C0.2.2.2.2.2.1 hP (hDA σ) hS q0 t0 (by rw [← e]; exact hws) (vg_tys C0.2.2.2.2.2.2.1 ht) h.1 hd (fun H1 locs1 hP1 _ hS1 => ?_)
        rw [vg_ast_ws (hDA σ) hq0 (by rw [hq, ← e])] at hP1
        exact h.2 H1 locs1 ls hl ho (vg_okt (vg_okt (vg_okt hs))) hP1 hS1
    next => exact h.elim
  next => exact h.elim
theorem vt_zastore {t0 : Nat} (hd : decode cc pc = .ok (.bastore, 1)) (ht : tyl[t0]? = some .boolean) (hn : pc + 1 = n) : vm_Snd bf tb tbx strs nw shp nm cl tyl cc nL own ret d pc (vi_astZ shp t0 n) := by
  subst hn
  refine ⟨vs_m1 fun K K' h lv st σ g => ?_, ?_⟩
  · split at g
    · split at g
      next q _ =>
        cases hb : Nat.beq q.1 t0 with
        | false => rw [hb] at g; exact g.elim
        | true =>
          rw [hb] at g
          exact ⟨g.1, h _ _ _ _ g.2⟩
      next => exact g
    · exact g
  intro p l e R s m args below meth c D tys ad A P ck cn Z C0 E0 lv st σ h H locs ls hl ho hs hP hS
  unfold vi_astZ at h
  split at h
  next x i m0 t =>
    split at h
    next q hq =>
      cases hb : Nat.beq q.1 t0 with
      | false => rw [hb] at h; exact h.elim
      | true =>
        rw [hb] at h
        have e : q.1 = t0 := Nat.eq_of_beq_eq_true hb
        obtain ⟨q0, hq0, hws⟩ := vg_ws_get (shp := shp) (ad := ad) (tys := tys) (σ := σ) (show m0 ∈ nm from vg_okh (vg_okt (vg_okt hs)))
        rw [hq] at hws
        have hDA := C0.2.2.2.2.2.2.2.2.2.2.2.1
        refine va_zast (D := D) (A := A) C0.1 C0.2.1 C0.2.2.2.2.2.1 hP (hDA σ) hS q0 t0 (by rw [← e]; exact hws) (vg_tys C0.2.2.2.2.2.2.1 ht) h.1.1 hd (fun H1 locs1 hP1 _ hS1 => ?_)
        have hx : vp_nar .boolean x = x := by rcases h.1.2 with rfl | rfl <;> rfl
        rw [hx, vg_ast_ws (hDA σ) hq0 (by rw [hq, ← e])] at hP1
        exact h.2 H1 locs1 ls hl ho (vg_okt (vg_okt (vg_okt hs))) hP1 hS1
    next => exact h.elim
  next => exact h.elim
theorem vt_aaload {t0 : Nat} {C : String} (hd : decode cc pc = .ok (.aaload, 1)) (ht : tyl[t0]? = some (.object C)) (hn : pc + 1 = n) : vm_Snd bf tb tbx strs nw shp nm cl tyl cc nL own ret d pc (vi_aald shp t0 n) := by
  subst hn
  refine ⟨vs_m1 fun K K' h lv st σ g => ?_, ?_⟩
  · split at g
    · split at g
      next q _ =>
        cases hb : Nat.beq q.1 t0 with
        | false => rw [hb] at g; exact g.elim
        | true =>
          rw [hb] at g
          exact ⟨g.1, h _ _ _ _ g.2⟩
      next => exact g
    · exact g
  intro p l e R s m args below meth c D tys ad A P ck cn Z C0 E0 lv st σ h H locs ls hl ho hs hP hS
  unfold vi_aald at h
  split at h
  next i m0 t =>
    split at h
    next q hq =>
      cases hb : Nat.beq q.1 t0 with
      | false => rw [hb] at h; exact h.elim
      | true =>
        rw [hb] at h
        have e : q.1 = t0 := Nat.eq_of_beq_eq_true hb
        obtain ⟨q0, hq0, hws⟩ := vg_ws_get (shp := shp) (ad := ad) (tys := tys) (σ := σ) (show m0 ∈ nm from vg_okh (vg_okt hs))
        rw [hq] at hws
        have hcl := C0.2.2.2.2.2.2.2.2.2.2.2.2.1 m0 (vg_okh (vg_okt hs))
        rw [hq] at hcl
        have hm : q.2.2 i.toNatClampNeg ∈ nm := hcl _ (Nat.not_le.mp fun z => h.1 (Or.inr z))
        exact va_aldq (D := D) C0.1 C0.2.1 C0.2.2.2.2.2.1 hP q0 t0 (f := fun i => some (ad (q.2.2 i))) (by rw [← e]; exact hws) (vg_tys C0.2.2.2.2.2.2.1 ht) h.1 hd (h.2 H locs ls hl ho (vg_okc hm (vg_okt (vg_okt hs))) hP hS)
    next => exact h.elim
  next => exact h.elim
theorem vt_acopy {t0 ix : Nat} (hd : decode cc pc = .ok (.invokestatic ix, 3)) (ht : tyl[t0]? = some .int) (h1 : Cond.methodLink own ix arraycopyName ∈ tb) (h2 : Cond.native arraycopyName ∈ tb) (h3 : Cond.static arraycopyName ∈ tb) (h4 : Cond.initialized "java/lang/System" ∈ tb) (hdd : 1 ≤ d) (hn : pc + 3 = n) : vm_Snd bf tb tbx strs nw shp nm cl tyl cc nL own ret d pc (vi_cpy shp t0 n) := by
  subst hn
  refine ⟨vs_m1 fun K K' h lv st σ g => ?_, ?_⟩
  · split at g
    · split at g
      next q r _ _ =>
        cases hb : Nat.beq q.1 t0 && Nat.beq r.1 t0 && Nat.ble (vg_wd _) 8 with
        | false => rw [hb] at g; exact g.elim
        | true =>
          rw [hb] at g
          exact ⟨g.1, h _ _ _ _ g.2⟩
      next => exact g
    · exact g
  intro p l e R s m args below meth c D tys ad A P ck cn Z C0 E0 lv st σ h H locs ls hl ho hs hP hS
  have hts := C0.2.2.2.2.1
  unfold vi_cpy at h
  split at h
  next len dp dn sp mn t =>
    split at h
    next q r hq hr =>
      cases hb : Nat.beq q.1 t0 && Nat.beq r.1 t0 && Nat.ble (vg_wd t) 8 with
      | false => rw [hb] at h; exact h.elim
      | true =>
        rw [hb] at h
        simp only [Bool.and_eq_true] at hb
        have e : q.1 = t0 := Nat.eq_of_beq_eq_true hb.1.1
        have e' : r.1 = t0 := Nat.eq_of_beq_eq_true hb.1.2
        have hwd : vg_wd t ≤ 8 := Nat.le_of_ble_eq_true hb.2
        obtain ⟨⟨rfl, rfl, hlen, hl1, hl2⟩, hk⟩ := h
        obtain ⟨q0, hq0, hws⟩ := vg_ws_get (shp := shp) (ad := ad) (tys := tys) (σ := σ) (show mn ∈ nm from vg_okh (vg_okt (vg_okt (vg_okt (vg_okt hs)))))
        obtain ⟨q1, hq1, hws1⟩ := vg_ws_get (shp := shp) (ad := ad) (tys := tys) (σ := σ) (show dn ∈ nm from vg_okh (vg_okt (vg_okt hs)))
        rw [hq] at hws
        rw [hr] at hws1
        have hDA := C0.2.2.2.2.2.2.2.2.2.2.2.1
        have hR := C0.2.2.2.2.2.2.2.2.2.1
        have z0 : (0 : Int32).toNatClampNeg = 0 := by decide
        refine va_copyi (D := D) (A := A) C0.1 C0.2.1 (C0.2.2.1.trans hl.1.symm) C0.2.2.2.1 (hts _ h1) (hts _ h2) (hts _ h3) (hts _ h4) C0.2.2.2.2.2.1 hP (hDA σ) hS q0 q1 t0 t0 (by rw [← e]; exact hws) (by rw [← e']; exact hws1) (vg_tys C0.2.2.2.2.2.2.1 ht) (vg_tys C0.2.2.2.2.2.2.1 ht) rfl (by decide) (by decide) hlen (by rw [z0, Nat.zero_add]; exact hl1) (by rw [z0, Nat.zero_add]; exact hl2) (fun _ _ => rfl) (by omega) ?_ hd (fun H1 locs1 hP1 _ hS1 => ?_)
        · rw [vg_wd_sum]
          have : nativeFrameWords "java/lang/System" "arraycopy" 5 + 11 ≤ 24 := by decide
          omega
        · have e9 : (vg_ws shp nm ad tys σ).set q1 (ad dn, .inl (vg_ty tys t0, r.2, .inl (va_cpy (σ mn) (σ dn) (0 : Int32).toNatClampNeg (0 : Int32).toNatClampNeg len.toNatClampNeg))) = vg_ws shp nm ad tys (vg_cp σ mn dn len.toNatClampNeg) := by
            refine vg_ws_set (hDA σ) hq1 ?_ (fun n' hn' => ?_)
            · rw [hr]
              show _ = Sum.inl (vg_ty tys r.1, r.2, Sum.inl (vg_cp σ mn dn len.toNatClampNeg dn))
              rw [e', z0]
              congr 4
              funext j
              unfold va_cpy vg_cp
              simp
            · funext j
              unfold vg_cp
              simp [hn']
          rw [e9] at hP1
          exact hk H1 locs1 ls hl ho (vg_okt (vg_okt (vg_okt (vg_okt (vg_okt hs))))) hP1 hS1
    next => exact h.elim
  next => exact h.elim
end VT2
section VT3
variable {p : Program} {l : Launch} {e : Env} {R : Room} {s : State} {m : MethodId} {args : Array Value} {below : List Frame} {meth : Method} {c : Code} {H : Heap} {locs : List Loc} {Q : State → Prop} {ck cn : Nat}
variable {bf : Bool} {tb tbx : List Cond} {strs : List (String × Nat × String)} {nw : List (String × Nat × MethodName × String)} {shp : vgN → vgH} {nm : List vgN} {cl : List vw_C} {tyl : List FieldType} {cc : ByteArray} {nL : Nat} {own : String} {ret : Option FieldType} {d pc n : Nat}

theorem vm_callK {D : va_G} {tys : List (ClassId × FieldType)} {ad : vgN → Nat} {A A1 : Nat → Prop} {P : vgO} {a : Array Value} {ls : Array Slot} {st0 rest : List Value}
    (hr : va_Run p l e R s m args below meth c H locs ck cn 0 0 (F0 m pc ls st0) rest (vg_Q shp nm cl D tys ad A1 P a) A1) (hS : va_S A s.heap H locs) (hA : ∀ q, A1 q → A q)
    (kk : ∀ (r : Option vgV) (σ : vgS) (H1 : Heap) (locs1 : List Loc), P r σ → (∀ v, r = some v → vg_ok nm v) → va_P D cl (vg_ws shp nm ad tys σ) H1 → va_S A s.heap H1 locs1 → W p l e R s m args below meth c H1 locs1 ck cn Q (F0 m (pc + 3) ls ((r.map (vg_cv ad)).toList ++ rest))) : W p l e R s m args below meth c H locs ck cn Q (F0 m pc ls st0) := by
  intro T hT X
  obtain ⟨v, st₀, t, T', L, h0, X', hL, e1, e2, ⟨⟨r, σ', hv, hp, hok, hP1⟩, hz, hk⟩, st⟩ := hr T hT X
  cases hv
  rw [h0] at hz hk
  obtain ⟨t2, a1, b1⟩ := kk r σ' T'.heap (locs ++ L) hp hok (by rw [e1]; exact hP1)
    ⟨Nat.le_trans hS.1 (by rw [e1]; exact hz), fun q h1 h2 => by rw [e1, hk q (Nat.lt_of_lt_of_le h1 hS.1) (fun z => h2 (hA q z))]; exact hS.2.1 q h1 h2, fun q hq => by
      rcases List.mem_append.mp hq with h | h
      · exact hS.2.2 q h
      · exact hA _ (hL q h)⟩ T' rfl X'
  exact ⟨t2, st t2 a1, b1⟩
theorem vm_callB {y : MethodName} {bytes : ByteArray} {mL k ix d' : Nat} {rt : Option FieldType} (hts : ∀ w ∈ tb, w.before args s = true) (hG : tb.all goodWord = true) (hcw : Cond.code y bytes mL rt ∈ tb) (hini : Cond.initialized y.cls ∈ tb) (hl : Cond.methodLink own ix y ∈ tb)
    (hd : y.cls ≠ "java/lang/invoke/MethodHandle" ∧ y.cls ≠ "java/lang/invoke/VarHandle" ∧ (parseMethodDescriptor y.desc).map (fun d => d.parameters.length) = some k) (hRR : d ≤ R.frames ∧ 32 * d ≤ R.locals) (hR : d' + 1 ≤ d ∧ mL ≤ 13) : CallB R s args own ix y bytes mL rt (.code y bytes mL rt :: tb) (vg_rm d') 0 0 k := by
  have hg : ∀ w ∈ tb, goodWord w = true := fun w h => List.all_eq_true.mp hG w h
  refine callB_of k hts (fun w hw => ?_) rfl rfl rfl (hts _ hini) (hts _ hl) hd ⟨Nat.le_trans hR.1 hRR.1, ?_⟩
  · rcases List.mem_cons.mp hw with rfl | hw
    · exact ⟨hcw, good_of_word (hg _ hcw)⟩
    · exact ⟨hw, good_of_word (hg _ hw)⟩
  · show 8 + (mL + 11) + 32 * d' ≤ R.locals
    omega
theorem vt_callV {ci k ix : Nat} {C : String} {T : u_T} {N : Nat} {y : MethodName} {bytes : ByteArray} {mL d' : Nat} {rt : Option FieldType} {sp : vgC} (hM : vg_MetF tb nw shp nm cl tyl y bytes mL rt d' sp) (hd : decode cc pc = .ok (.invokevirtual ix, 3)) (hc : cl[ci]? = some (C, T, N))
    (hG : tb.all goodWord = true) (hcw : Cond.code y bytes mL rt ∈ tb) (hini : Cond.initialized C ∈ tb) (hl : Cond.methodLink own ix y ∈ tb) (hi : Cond.instanceMethod y ∈ tb) (hse : Cond.selects C y y ∈ tb)
    (hy : y.cls = C ∧ y.cls ≠ "java/lang/invoke/MethodHandle" ∧ y.cls ≠ "java/lang/invoke/VarHandle" ∧ (parseMethodDescriptor y.desc).map (fun d => d.parameters.length) = some k) (hR : d' + 1 ≤ d ∧ mL ≤ 13) (hn : pc + 3 = n) : vm_Snd bf tb tbx strs nw shp nm cl tyl cc nL own ret d pc (vi_callV shp ci sp k n) := by
  subst hn
  refine ⟨vs_m1 fun K K' h lv st σ g => ?_, ?_⟩
  · split at g
    · split at g
      next o _ =>
        cases hb : Nat.beq o.1 ci && Nat.ble (vg_wd _) 8 with
        | false => rw [hb] at g; exact g.elim
        | true =>
          rw [hb] at g
          have g2 : (sp _ σ).1 ∧ vg_k K (pc + 3) lv _ (sp _ σ).2.1 (sp _ σ).2.2 := g
          show (sp _ σ).1 ∧ vg_k K' (pc + 3) lv _ (sp _ σ).2.1 (sp _ σ).2.2
          exact ⟨g2.1, vg_k_mono h g2.2⟩
      next => exact g
    · exact g
  intro p l e R s m args below meth c D tys ad A P ck cn Z C0 E0 lv st σ h H locs ls hl0 ho hs hP hS
  unfold vi_callV at h
  split at h
  next m0 as t hpop =>
    split at h
    next o ho0 =>
      cases hb : Nat.beq o.1 ci && Nat.ble (vg_wd t) 8 with
      | false => rw [hb] at h; exact h.elim
      | true =>
        rw [hb] at h
        simp only [Bool.and_eq_true] at hb
        have e : o.1 = ci := Nat.eq_of_beq_eq_true hb.1
        have hwd : vg_wd t ≤ 8 := Nat.le_of_ble_eq_true hb.2
        have h2 : (sp (.inr m0 :: as) σ).1 ∧ vg_k _ (pc + 3) lv t (sp (.inr m0 :: as) σ).2.1 (sp (.inr m0 :: as) σ).2.2 := h
        obtain ⟨hpre, hk⟩ := h2
        obtain ⟨hx, hcb, hml, hown, hts, hK, hty, hr, hlocks, hRR, hA, hDA, hclo, hnw⟩ := C0
        obtain ⟨e1, e2⟩ := vg_pop_eq _ _ _ _ _ hpop
        have hst : st = (Sum.inr m0 :: as : vgT).reverse ++ t := by rw [e1]; rfl
        have hav : ∀ v ∈ (Sum.inr m0 :: as : vgT), vg_ok nm v := fun v hv => hs v (by rw [hst]; exact List.mem_append_left _ (List.mem_reverse.mpr hv))
        have ht : ∀ v ∈ t, vg_ok nm v := fun v hv => hs v (by rw [hst]; exact List.mem_append_right _ hv)
        have hlen : as.length = k := by simp at e2; omega
        have hm0 : m0 ∈ nm := hav _ List.mem_cons_self
        obtain ⟨q0, hq0, hws⟩ := vg_ws_get (shp := shp) (ad := ad) (tys := tys) (σ := σ) hm0
        rw [ho0] at hws
        have hws2 : (vg_ws shp nm ad tys σ)[q0]? = some (ad m0, .inr (ci, vg_fs ad (σ m0) 0 o.2)) := by rw [hws]; show some (ad m0, Sum.inr (o.1, _)) = _; rw [e]
        have hstk : st.map (vg_cv ad) = (as.map (vg_cv ad)).reverse ++ .ref (ad m0) :: t.map (vg_cv ad) := by rw [hst]; simp [vg_cv]
        have cw : CallW R s args own C ix y bytes mL rt (.code y bytes mL rt :: tb) (vg_rm d') 0 0 k := ⟨vm_callB hts hG hcw (by rw [hy.1]; exact hini) hl hy.2 hRR hR, hts _ hi, hts _ hse⟩
        refine vm_callK (va_runV (As := as.map (vg_cv ad)) (b := ad m0) (rest := t.map (vg_cv ad)) ⟨hx, hcb, hml, hown, hts⟩ (hM l D tys ad H.size (.inr m0 :: as) σ hty hav hpre) cw ⟨fun a U g mk q => ?_, va_recv hK hP (ci := ci) (q0 := q0) hc hws2, fun U hU hW => ⟨?_, ?_, ?_, ?_, ?_, fun z hz => va_Nw.warmM hW (hnw z hz)⟩⟩ rfl (by rw [List.length_map]; exact hlen) hl0.1 hstk (lv_room (by rw [vg_wd_sum]; exact hwd)) hd ⟨E0.1.1, E0.1.2⟩) hS (vg_in_A (hDA σ) hA hS.1) (fun r σ1 H1 locs1 hp hok hP1 hS1 => ?_)
        · obtain ⟨q0, q1, qP, qK, qD, qN⟩ := q
          exact ⟨q0, q1, qP, va_K.moved (u := U) (U := U.calling g mk a) (Vm.Alike.refl U.vm) qK, qD, fun z hz => va_Nw.same (u := U) (U := U.calling g mk a) rfl rfl (qN z hz)⟩
        · rfl
        · rw [hU]
        · rw [hU]; exact hP
        · exact va_K.moved hW.alike hK
        · exact (hDA σ).weaken (fun _ _ _ _ => trivial)
        · obtain ⟨rfl, rfl⟩ := hp
          unfold vg_k at hk
          cases hre : (sp (.inr m0 :: as) σ).2.1 with
          | none => rw [hre] at hk; exact hk H1 locs1 ls hl0 ho ht hP1 hS1
          | some v => rw [hre] at hk; exact hk H1 locs1 ls hl0 ho (vg_okc (hok v hre) ht) hP1 hS1
    next => exact h.elim
  next => exact h.elim
theorem vt_callS {k ix : Nat} {y : MethodName} {bytes : ByteArray} {mL d' : Nat} {rt : Option FieldType} {sp : vgC} (hM : vg_MetF tb nw shp nm cl tyl y bytes mL rt d' sp) (hd : decode cc pc = .ok (.invokestatic ix, 3))
    (hG : tb.all goodWord = true) (hcw : Cond.code y bytes mL rt ∈ tb) (hini : Cond.initialized y.cls ∈ tb) (hl : Cond.methodLink own ix y ∈ tb) (hi : Cond.static y ∈ tb)
    (hy : y.cls ≠ "java/lang/invoke/MethodHandle" ∧ y.cls ≠ "java/lang/invoke/VarHandle" ∧ (parseMethodDescriptor y.desc).map (fun d => d.parameters.length) = some k) (hR : d' + 1 ≤ d ∧ mL ≤ 13) (hn : pc + 3 = n) : vm_Snd bf tb tbx strs nw shp nm cl tyl cc nL own ret d pc (vi_callS sp k n) := by
  subst hn
  refine ⟨vs_m1 fun K K' h lv st σ g => ?_, ?_⟩
  · split at g
    next q _ =>
      cases hb : Nat.ble (vg_wd q.2) 8 with
      | false => rw [hb] at g; exact g.elim
      | true =>
        rw [hb] at g
        have g2 : (sp q.1 σ).1 ∧ vg_k K (pc + 3) lv q.2 (sp q.1 σ).2.1 (sp q.1 σ).2.2 := g
        show (sp q.1 σ).1 ∧ vg_k K' (pc + 3) lv q.2 (sp q.1 σ).2.1 (sp q.1 σ).2.2
        exact ⟨g2.1, vg_k_mono h g2.2⟩
    next => exact g
  intro p l e R s m args below meth c D tys ad A P ck cn Z C0 E0 lv st σ h H locs ls hl0 ho hs hP hS
  unfold vi_callS at h
  split at h
  next q hpop =>
    cases hb : Nat.ble (vg_wd q.2) 8 with
    | false => rw [hb] at h; exact h.elim
    | true =>
      rw [hb] at h
      obtain ⟨as, t⟩ := q
      have hwd : vg_wd t ≤ 8 := Nat.le_of_ble_eq_true hb
      have h2 : (sp as σ).1 ∧ vg_k _ (pc + 3) lv t (sp as σ).2.1 (sp as σ).2.2 := h
      obtain ⟨hpre, hk⟩ := h2
      obtain ⟨hx, hcb, hml, hown, hts, hK, hty, hr, hlocks, hRR, hA, hDA, hclo, hnw⟩ := C0
      obtain ⟨e1, e2⟩ := vg_pop_eq _ _ _ _ _ hpop
      have hst : st = as.reverse ++ t := by rw [e1]; rfl
      have hav : ∀ v ∈ as, vg_ok nm v := fun v hv => hs v (by rw [hst]; exact List.mem_append_left _ (List.mem_reverse.mpr hv))
      have ht : ∀ v ∈ t, vg_ok nm v := fun v hv => hs v (by rw [hst]; exact List.mem_append_right _ hv)
      have hlen : as.length = k := by simp at e2; omega
      have hstk : st.map (vg_cv ad) = (as.map (vg_cv ad)).reverse ++ t.map (vg_cv ad) := by rw [hst]; simp
      refine vm_callK (va_runS (As := as.map (vg_cv ad)) (rest := t.map (vg_cv ad)) ⟨hx, hcb, hml, hown, hts⟩ (hM l D tys ad H.size as σ hty hav hpre) ⟨vm_callB hts hG hcw hini hl hy hRR hR, hts _ hi⟩ ⟨fun a U g mk q => ?_, fun U hU hW => ⟨rfl, ?_, ?_, ?_, ?_, fun z hz => va_Nw.warmM hW (hnw z hz)⟩⟩ rfl (by rw [List.length_map]; exact hlen) hl0.1 hstk (lv_room (by rw [vg_wd_sum]; exact hwd)) hd ⟨E0.1.1, E0.1.2⟩) hS (vg_in_A (hDA σ) hA hS.1) (fun r σ1 H1 locs1 hp hok hP1 hS1 => ?_)
      · obtain ⟨q0, q1, qP, qK, qD, qN⟩ := q
        exact ⟨q0, q1, qP, va_K.moved (u := U) (U := U.calling g mk a) (Vm.Alike.refl U.vm) qK, qD, fun z hz => va_Nw.same (u := U) (U := U.calling g mk a) rfl rfl (qN z hz)⟩
      · rw [hU]
      · rw [hU]; exact hP
      · exact va_K.moved hW.alike hK
      · exact (hDA σ).weaken (fun _ _ _ _ => trivial)
      · obtain ⟨rfl, rfl⟩ := hp
        unfold vg_k at hk
        cases hre : (sp as σ).2.1 with
        | none => rw [hre] at hk; exact hk H1 locs1 ls hl0 ho ht hP1 hS1
        | some v => rw [hre] at hk; exact hk H1 locs1 ls hl0 ho (vg_okc (hok v hre) ht) hP1 hS1
  next => exact h.elim
theorem vt_callSN {k ix : Nat} {host : String} {y : MethodName} {bytes : ByteArray} {mL d' : Nat} {rt : Option FieldType} {sp : vgC} (hM : vg_MetF tb nw shp nm cl tyl y bytes mL rt d' sp) (hd : decode cc pc = .ok (.invokestatic ix, 3))
    (hG : tb.all goodWord = true) (hcw : Cond.code y bytes mL rt ∈ tb) (hini : Cond.initialized y.cls ∈ tb) (hl : (own, ix, y, host) ∈ nw) (hi : Cond.static y ∈ tb)
    (hy : y.cls ≠ "java/lang/invoke/MethodHandle" ∧ y.cls ≠ "java/lang/invoke/VarHandle" ∧ (parseMethodDescriptor y.desc).map (fun d => d.parameters.length) = some k) (hR : d' + 1 ≤ d ∧ mL ≤ 13) (hn : pc + 3 = n) : vm_Snd bf tb tbx strs nw shp nm cl tyl cc nL own ret d pc (vi_callS sp k n) := by
  subst hn
  refine ⟨vs_m1 fun K K' h lv st σ g => ?_, ?_⟩
  · split at g
    next q _ =>
      cases hb : Nat.ble (vg_wd q.2) 8 with
      | false => rw [hb] at g; exact g.elim
      | true =>
        rw [hb] at g
        have g2 : (sp q.1 σ).1 ∧ vg_k K (pc + 3) lv q.2 (sp q.1 σ).2.1 (sp q.1 σ).2.2 := g
        show (sp q.1 σ).1 ∧ vg_k K' (pc + 3) lv q.2 (sp q.1 σ).2.1 (sp q.1 σ).2.2
        exact ⟨g2.1, vg_k_mono h g2.2⟩
    next => exact g
  intro p l e R s m args below meth c D tys ad A P ck cn Z C0 E0 lv st σ h H locs ls hl0 ho hs hP hS
  unfold vi_callS at h
  split at h
  next q hpop =>
    cases hb : Nat.ble (vg_wd q.2) 8 with
    | false => rw [hb] at h; exact h.elim
    | true =>
      rw [hb] at h
      obtain ⟨as, t⟩ := q
      have hwd : vg_wd t ≤ 8 := Nat.le_of_ble_eq_true hb
      have h2 : (sp as σ).1 ∧ vg_k _ (pc + 3) lv t (sp as σ).2.1 (sp as σ).2.2 := h
      obtain ⟨hpre, hk⟩ := h2
      obtain ⟨hx, hcb, hml, hown, hts, hK, hty, hr, hlocks, hRR, hA, hDA, hclo, hnw⟩ := C0
      have hg : ∀ w ∈ tb, goodWord w = true := fun w h => List.all_eq_true.mp hG w h
      obtain ⟨e1, e2⟩ := vg_pop_eq _ _ _ _ _ hpop
      have hst : st = as.reverse ++ t := by rw [e1]; rfl
      have hav : ∀ v ∈ as, vg_ok nm v := fun v hv => hs v (by rw [hst]; exact List.mem_append_left _ (List.mem_reverse.mpr hv))
      have ht : ∀ v ∈ t, vg_ok nm v := fun v hv => hs v (by rw [hst]; exact List.mem_append_right _ hv)
      have hlen : as.length = k := by simp at e2; omega
      have hstk : st.map (vg_cv ad) = (as.map (vg_cv ad)).reverse ++ t.map (vg_cv ad) := by rw [hst]; simp
      have cw : va_CN R s args own ix y host bytes mL rt (.code y bytes mL rt :: tb) (vg_rm d') 0 0 k := by
        refine va_cnB k hts (fun w hw => ?_) rfl rfl rfl (hnw _ hl) (hts _ hini) hy ⟨Nat.le_trans hR.1 hRR.1, ?_⟩
        · rcases List.mem_cons.mp hw with rfl | hw
          · exact ⟨hcw, good_of_word (hg _ hcw)⟩
          · exact ⟨hw, good_of_word (hg _ hw)⟩
        · show 8 + (mL + 11) + 32 * d' ≤ R.locals
          omega
      refine vm_callK (va_runSN (As := as.map (vg_cv ad)) (rest := t.map (vg_cv ad)) ⟨hx, hcb, hml, hown, hts⟩ (hM l D tys ad H.size as σ hty hav hpre) ⟨cw, hts _ hi, trivial⟩ ⟨fun a U g mk q => ?_, fun U hU hW => ⟨rfl, ?_, ?_, ?_, ?_, fun z hz => va_Nw.warmM hW (hnw z hz)⟩⟩ rfl (by rw [List.length_map]; exact hlen) hl0.1 hstk (lv_room (by rw [vg_wd_sum]; exact hwd)) hd ⟨E0.1.1, E0.1.2⟩) hS (vg_in_A (hDA σ) hA hS.1) (fun r σ1 H1 locs1 hp hok hP1 hS1 => ?_)
      · obtain ⟨q0, q1, qP, qK, qD, qN⟩ := q
        exact ⟨q0, q1, qP, va_K.moved (u := U) (U := U.calling g mk a) (Vm.Alike.refl U.vm) qK, qD, fun z hz => va_Nw.same (u := U) (U := U.calling g mk a) rfl rfl (qN z hz)⟩
      · rw [hU]
      · rw [hU]; exact hP
      · exact va_K.moved hW.alike hK
      · exact (hDA σ).weaken (fun _ _ _ _ => trivial)
      · obtain ⟨rfl, rfl⟩ := hp
        unfold vg_k at hk
        cases hre : (sp as σ).2.1 with
        | none => rw [hre] at hk; exact hk H1 locs1 ls hl0 ho ht hP1 hS1
        | some v => rw [hre] at hk; exact hk H1 locs1 ls hl0 ho (vg_okc (hok v hre) ht) hP1 hS1
  next => exact h.elim
theorem vt_max {ix : Nat} (hd : decode cc pc = .ok (.invokestatic ix, 3)) (h1 : Cond.methodLink own ix Lib.Math.max.name ∈ tb) (h2 : Cond.static Lib.Math.max.name ∈ tb) (h3 : Cond.initialized "java/lang/Math" ∈ tb) (h4 : Cond.code Lib.Math.max.name Lib.Math.max.code 2 (some .int) ∈ tb) (hdd : 1 ≤ d) (hn : pc + 3 = n) : vm_Snd bf tb tbx strs nw shp nm cl tyl cc nL own ret d pc (vi_max n) := by
  subst hn
  refine ⟨vs_m1 fun K K' h lv st σ g => ?_, ?_⟩
  · split at g
    next =>
      cases hb : Nat.ble (vg_wd _) 8 with
      | false => rw [hb] at g; exact g.elim
      | true => rw [hb] at g; exact h _ _ _ _ g
    next => exact g
  intro p l e R s m args below meth c D tys ad A P ck cn Z C0 E0 lv st σ h H locs ls hl ho hs hP hS
  have hts := C0.2.2.2.2.1
  unfold vi_max at h
  split at h
  next y x t =>
    cases hb : Nat.ble (vg_wd t) 8 with
    | false => rw [hb] at h; exact h.elim
    | true =>
      rw [hb] at h
      have hwd : vg_wd t ≤ 8 := Nat.le_of_ble_eq_true hb
      have hR := C0.2.2.2.2.2.2.2.2.2.1
      exact va_mmax C0.1 C0.2.1 (C0.2.2.1.trans hl.1.symm) C0.2.2.2.1 (hts _ h1) (hts _ h2) (hts _ h3) (hts _ h4) (Nat.le_trans hdd hR.1) (by rw [vg_wd_sum]; omega) E0.1.1 E0.1.2 hd (h H locs ls hl ho (vg_okc trivial (vg_okt (vg_okt hs))) hP hS)
  next => exact h.elim
theorem vt_min {ix : Nat} (hd : decode cc pc = .ok (.invokestatic ix, 3)) (h1 : Cond.methodLink own ix Lib.Math.min.name ∈ tb) (h2 : Cond.static Lib.Math.min.name ∈ tb) (h3 : Cond.initialized "java/lang/Math" ∈ tb) (h4 : Cond.code Lib.Math.min.name Lib.Math.min.code 2 (some .int) ∈ tb) (hdd : 1 ≤ d) (hn : pc + 3 = n) : vm_Snd bf tb tbx strs nw shp nm cl tyl cc nL own ret d pc (vi_min n) := by
  subst hn
  refine ⟨vs_m1 fun K K' h lv st σ g => ?_, ?_⟩
  · split at g
    next =>
      cases hb : Nat.ble (vg_wd _) 8 with
      | false => rw [hb] at g; exact g.elim
      | true => rw [hb] at g; exact h _ _ _ _ g
    next => exact g
  intro p l e R s m args below meth c D tys ad A P ck cn Z C0 E0 lv st σ h H locs ls hl ho hs hP hS
  have hts := C0.2.2.2.2.1
  unfold vi_min at h
  split at h
  next y x t =>
    cases hb : Nat.ble (vg_wd t) 8 with
    | false => rw [hb] at h; exact h.elim
    | true =>
      rw [hb] at h
      have hwd : vg_wd t ≤ 8 := Nat.le_of_ble_eq_true hb
      have hR := C0.2.2.2.2.2.2.2.2.2.1
      exact va_mmin C0.1 C0.2.1 (C0.2.2.1.trans hl.1.symm) C0.2.2.2.1 (hts _ h1) (hts _ h2) (hts _ h3) (hts _ h4) (Nat.le_trans hdd hR.1) (by rw [vg_wd_sum]; omega) E0.1.1 E0.1.2 hd (h H locs ls hl ho (vg_okc trivial (vg_okt (vg_okt hs))) hP hS)
  next => exact h.elim
theorem vt_abs {ix : Nat} (hd : decode cc pc = .ok (.invokestatic ix, 3)) (h1 : Cond.methodLink own ix Lib.Math.abs.name ∈ tb) (h2 : Cond.static Lib.Math.abs.name ∈ tb) (h3 : Cond.initialized "java/lang/Math" ∈ tb) (h4 : Cond.code Lib.Math.abs.name Lib.Math.abs.code 1 (some .int) ∈ tb) (hdd : 1 ≤ d) (hn : pc + 3 = n) : vm_Snd bf tb tbx strs nw shp nm cl tyl cc nL own ret d pc (vi_abs n) := by
  subst hn
  refine ⟨vs_m1 fun K K' h lv st σ g => ?_, ?_⟩
  · split at g
    next =>
      cases hb : Nat.ble (vg_wd _) 8 with
      | false => rw [hb] at g; exact g.elim
      | true => rw [hb] at g; exact h _ _ _ _ g
    next => exact g
  intro p l e R s m args below meth c D tys ad A P ck cn Z C0 E0 lv st σ h H locs ls hl ho hs hP hS
  have hts := C0.2.2.2.2.1
  unfold vi_abs at h
  split at h
  next x t =>
    cases hb : Nat.ble (vg_wd t) 8 with
    | false => rw [hb] at h; exact h.elim
    | true =>
      rw [hb] at h
      have hwd : vg_wd t ≤ 8 := Nat.le_of_ble_eq_true hb
      have hR := C0.2.2.2.2.2.2.2.2.2.1
      exact va_mabs C0.1 C0.2.1 (C0.2.2.1.trans hl.1.symm) C0.2.2.2.1 (hts _ h1) (hts _ h2) (hts _ h3) (hts _ h4) (Nat.le_trans hdd hR.1) (by rw [vg_wd_sum]; omega) E0.1.1 E0.1.2 hd (h H locs ls hl ho (vg_okc trivial (vg_okt hs)) hP hS)
  next => exact h.elim
end VT3
end
section
/-! throws: a method's own, and those of a callee that pass through; contracts; cells made between two stretches -/
def vm_mvB : Cond → Bool
  | .declares _ => true
  | .castable _ _ => true
  | _ => false
theorem vm_mv {w : Cond} (h : vm_mvB w = true) {s U : State} (hW : s.WarmedH U.vm) (hZ : va_Nw w s) : va_Nw w U := by
  cases w <;> first | exact absurd (show false = true from h) Bool.false_ne_true | exact va_Nw.warmD hW hZ | exact va_Nw.warmC hW hZ
theorem vm_mvT {w : Cond} (h : vm_mvB w = true) : w.onTables = true := by
  cases w <;> first | exact absurd (show false = true from h) Bool.false_ne_true | rfl
theorem vm_XF.call {tbx : List Cond} {strs : List (String × Nat × String)} {A A1 : Nat → Prop} {s U : State} {H : Heap} {locs : List Loc} (hm : tbx.all vm_mvB = true) (h : vm_XF tbx strs A s s.heap) (hS : va_S A s.heap H locs) (hA : ∀ q, A1 q → A q) (hU : U.heap = H) (hW : s.WarmedH U.vm) : vm_XF tbx strs A1 U U.heap := by
  refine ⟨fun w hw => vm_mv (List.all_eq_true.mp hm w hw) hW (h.1 w hw), ?_, ?_, fun z hz => ?_⟩
  · rw [hU]
    exact ((h.2.1.kept hS.2.1).moved hW.alike).narrow hA
  · rw [hU]
    exact ((h.2.2.1.kept hS.2.1).moved hW.alike).narrow hA
  · obtain ⟨sa, hsa⟩ := h.2.2.2 z hz
    exact ⟨sa, vk_R.warm hW hsa⟩
theorem vm_XF.blind {tbx : List Cond} {strs : List (String × Nat × String)} {A : Nat → Prop} {a : Array Value} {U : State} {g : JFrame} {mk : MethodId} (hm : tbx.all vm_mvB = true) (h : vm_XF tbx strs A U U.heap) : vm_XF tbx strs A (U.calling g mk a) (U.calling g mk a).heap :=
  ⟨fun w hw => va_Nw.same (u := U) (U := U.calling g mk a) (vm_mvT (List.all_eq_true.mp hm w hw)) rfl (h.1 w hw), vx_Zq.moved (u := U) (U := U.calling g mk a) (Vm.Alike.refl U.vm) h.2.1, vx_Zq.moved (u := U) (U := U.calling g mk a) (Vm.Alike.refl U.vm) h.2.2.1, fun z hz => (h.2.2.2 z hz).elim fun sa hsa => ⟨sa, vk_R.same (u := U) (U := U.calling g mk a) rfl hsa⟩⟩
def vm_rmx (d : Nat) : Room := { frames := d, cells := 1, slots := 6, locals := 32 * d }
def vm_Qx (shp : vgN → vgH) (nm : List vgN) (cl : List vw_C) (D : va_G) (tys : List (ClassId × FieldType)) (ad : vgN → Nat) (A : Nat → Prop) (P : vgO) : Array Value → State → Outcome → State → Prop := fun _ st oc t =>
  (∃ (r : Option vgV) (σ : vgS), oc = .returned (r.map (vg_cv ad)) ∧ P r σ ∧ (∀ x, r ≠ vm_th x) ∧ va_P D cl (vg_ws shp nm ad tys σ) t.heap) ∧ va_F A st t
def vm_XC (A : Nat → Prop) (P : vgO) : String → State → State → Prop := fun E st t => (∃ (x : Nat) (σ : vgS), E = vm_xn x ∧ P (vm_th x) σ) ∧ va_F A st t
/-- the contract of a method that may throw -/
def vm_MetX (tb tbx : List Cond) (strs : List (String × Nat × String)) (nw : List (String × Nat × MethodName × String)) (shp : vgN → vgH) (nm : List vgN) (cl : List vw_C) (tyl : List FieldType) (y : MethodName) (cc : ByteArray) (nL : Nat) (ret : Option FieldType) (d : Nat) (pre : vgT → vgS → Prop) (post : vgT → vgS → vgO) : Prop :=
  ∀ (l : Launch) (D : va_G) (tys : List (ClassId × FieldType)) (ad : vgN → Nat) (sz : Nat) (av : vgT) (σ : vgS), l.stackTraces = false → tys.map (fun q => q.2) = tyl → (∀ v ∈ av, vg_ok nm v) → pre av σ →
    vx_Met l y (.code y cc nL ret :: tb) (vm_rmx d) (va_Pc (av.map (vg_cv ad)) (fun U => U.heap.size = sz ∧ va_P D cl (vg_ws shp nm ad tys σ) U.heap ∧ va_K D cl tys U ∧ va_D (fun _ => True) (vg_ws shp nm ad tys σ) ∧ vg_nw nw U ∧ vm_XF tbx strs (vg_A nm ad sz) U U.heap)) (vm_Qx shp nm cl D tys ad (vg_A nm ad sz) (post av σ)) (vm_XC (vg_A nm ad sz) (post av σ)) 1 6 (vg_A nm ad sz)
theorem vm_rkV {cc : ByteArray} {ret : Option FieldType} {pc : Nat} {r : Option vgV} (h : vm_rk cc ret pc r) : ∀ x, r ≠ vm_th x := by
  intro x e
  subst e
  exact h
theorem vm_rkN {cc : ByteArray} {ret : Option FieldType} {pc : Nat} {r : Option vgV} {nm : List vgN} (h : vm_rk cc ret pc r) : ∀ v, r = some v → vg_ok nm v := by
  intro v e
  subst e
  cases v with
  | inl v => exact trivial
  | inr n => exact h.elim
section VME
variable {p : Program} {l : Launch} {e : Env} {R : Room} {s : State} {m : MethodId} {args : Array Value} {below : List Frame} {meth : Method} {c : Code} {H : Heap} {locs : List Loc} {Q : State → Prop}
/-- the return of a machine, whatever its end asks -/
theorem vm_leave {cc : ByteArray} {ret : Option FieldType} {pc : Nat} {r : Option vgV} {ad : vgN → Nat} {ls : Array Slot} {ck cn : Nat} {Qc : Array Value → State → Outcome → State → Prop} {A : Nat → Prop} (hx : p.tables.exec = Jvm.exec) (hb : c.code = cc) (hr : meth.sig.returnType = ret) (hlocks : meth.locks = false) (hk : vm_rk cc ret pc r) (hf : ∀ z ∈ locs, A z.base)
    (hq : ∀ t : State, t.heap = H → Qc args s (.returned (r.map (vg_cv ad))) t) : W p l e R s m args below meth c H locs ck cn (MQ below Qc args s ck cn A) (F0 m pc ls ((r.map (vg_cv ad)).toList)) := by
  cases r with
  | none => exact W.vret hx hb (hr.trans hk.2) (fun t ht hW => hq t ht) hf hk.1 hlocks
  | some v =>
    cases v with
    | inr n => exact hk.elim
    | inl v =>
      cases v with
      | int x =>
        rcases hk with hk | hk
        · exact W.iret (v := x) hx hb (hr.trans hk.2) (fun t ht hW => hq t ht) hf hk.1 hlocks
        · exact W.zret (v := x) hx hb (hr.trans hk.2.1) (by rcases hk.2.2 with rfl | rfl <;> rfl) (fun t ht hW => hq t ht) hf hk.1 hlocks
      | long x => exact W.lret (v := x) hx hb (hr.trans hk.2) (fun t ht hW => hq t ht) hf hk.1 hlocks
      | _ => exact hk.elim
end VME
set_option maxHeartbeats 1000000 in
theorem vm_metX {tb tbx : List Cond} {strs : List (String × Nat × String)} {nw : List (String × Nat × MethodName × String)} {shp : vgN → vgH} {nm : List vgN} {cl : List vw_C} {tyl : List FieldType} {y : MethodName} {cc : ByteArray} {nL : Nat} {own : String} {ret : Option FieldType} {d : Nat} {pre : vgT → vgS → Prop} {post : vgT → vgS → vgO} {code : List (Nat × vgF)}
    (hcl : vg_closed shp nm) (hy : plainName y.cls = true) (hown : y.cls = own) (hmv : tbx.all vm_mvB = true) (hs : ∀ q ∈ code, vm_Snd true tb tbx strs nw shp nm cl tyl cc nL own ret d q.1 q.2)
    (hw : ∀ av σ, pre av σ → vg_wd av ≤ nL) (go : ∀ av σ, pre av σ → vg_Go code (post av σ) 0 (vg_args 0 av) [] σ) : vm_MetX tb tbx strs nw shp nm cl tyl y cc nL ret d pre post := by
  intro l D tys ad sz av σ hlst hty hok hpre
  refine vx_ofW (cc := cc) (maxL := nL) (ret := ret) hy rfl ?_
  intro p e s m args below meth c s₁ B hml hxt hv
  obtain ⟨rfl, hsz, hP, hK, hD, hnw, hXF⟩ := hv
  have hx := B.exec
  have hb := B.bytes
  have hr := B.returns
  have hts : ∀ w ∈ tb, w.before (av.map (vg_cv ad)).toArray s = true := fun w h => atoms_spec (ws := .code y cc nL ret :: tb) B.pre w (List.mem_cons_of_mem _ h)
  have ho : s.vm.findClass own = some m.cls := by rw [← hown]; exact findClass_of_methodNamed B.named
  have hlocks := B.notSynchronized
  subst hsz
  have hDA : ∀ σ', va_D (vg_A nm ad s.heap.size) (vg_ws shp nm ad tys σ') := fun σ' => (vg_ws_D hD σ').weaken (fun k q hk _ => by
    unfold vg_ws at hk
    rw [List.getElem?_map] at hk
    cases hn : nm[k]? with
    | none => rw [hn] at hk; cases hk
    | some n => rw [hn] at hk; cases hk; exact Or.inl ⟨n, List.mem_of_getElem? hn, rfl⟩)
  have C0 : vm_C tb nw shp nm cl tyl cc nL own ret d p (vm_rmx d) s m (av.map (vg_cv ad)).toArray meth c D tys ad (vg_A nm ad s.heap.size) := ⟨hx, hb, hml, ho, hts, hK, hty, hr, hlocks, ⟨Nat.le_refl _, Nat.le_refl _⟩, fun q h => Or.inr h, hDA, hcl, hnw⟩
  have E0 : vm_E true tb tbx strs shp nm cl cc own ret p l e (vm_rmx d) s m (av.map (vg_cv ad)).toArray below meth c D tys ad (vg_A nm ad s.heap.size) (post av σ) 0 0 (vx_MQ below (vm_Qx shp nm cl D tys ad (vg_A nm ad s.heap.size) (post av σ)) (vm_XC (vg_A nm ad s.heap.size) (post av σ)) (av.map (vg_cv ad)).toArray s 1 6 (vg_A nm ad s.heap.size)) := by
    refine ⟨⟨Nat.zero_le _, Nat.zero_le _⟩, ?_, fun _ => ⟨hXF, ⟨hlst, Nat.le_refl _, Nat.le_refl _⟩, ?_, ?_⟩⟩
    · intro r σ' pc ls H locs hp hP' hS hk
      refine vx_ret (W.widen (k := 1) (n := 6) (Nat.zero_le _) (Nat.zero_le _) ?_)
      exact vm_leave hx hb hr hlocks hk hS.2.2 (fun t ht => ⟨⟨r, σ', rfl, hp, vm_rkV hk, by rw [ht]; exact hP'⟩, hS.F ht⟩)
    · intro x σ' pc ls rest H locs hp hS hls hwd hRf hRl hnk
      obtain ⟨text, ik, is, ic, d0, d3, dd, hstr, hkl, hini, hw1, hw2, hfit, hgood⟩ := hnk
      obtain ⟨sa, hsa⟩ := hXF.2.2.2 _ hstr
      have hat : ∀ w ∈ vx_atS own ic (vm_xn x) ["java/lang/RuntimeException", "java/lang/Exception"], w.before (av.map (vg_cv ad)).toArray s = true := by
        intro w hw
        cases hg : goodWord w with
        | true => exact hts w (hw1 w (List.mem_filter.mpr ⟨hw, hg⟩))
        | false =>
          have h1 := hw2 w (List.mem_filter.mpr ⟨hw, by rw [hg]; rfl⟩)
          exact va_Nw.use (vm_mvT (List.all_eq_true.mp hmv w h1)) (hXF.1 w h1)
      have hXC : ∀ t : State, s.vm.Alike t.vm → H.size ≤ t.heap.size → (∀ q : Nat, q < H.size → t.heap[q]? = H[q]?) → vm_XC (vg_A nm ad s.heap.size) (post av σ) (vm_xn x) s t := fun t _ h1 h2 =>
        ⟨⟨x, σ', rfl, hp⟩, Nat.le_trans hS.1 h1, fun q hq hn => by rw [h2 q (Nat.lt_of_lt_of_le hq hS.1)]; exact hS.2.1 q hq hn⟩
      have hnm : ∀ n ∈ ["java/lang/RuntimeException", "java/lang/Exception"], Bundle.fit n = true := by decide +kernel
      rcases dd with ⟨d4, d6, d9⟩ | ⟨d4, d7, d10⟩
      · exact vx_throwS hx hb hlst (own := own) (cls := vm_xn x) (names := ["java/lang/RuntimeException", "java/lang/Exception"]) ho hfit hnm (hts _ hkl) (hts _ hini) hsa hat hgood hXF.2.1 hXF.2.2.1 hS hls d0 d3 d4 d6 d9 (fun z hz => (hxt z hz).elim) (by show 2 + 3 < d; have : 6 ≤ d := hRf; omega) (by show _ + (13 * (2 + 1) + 43) ≤ 32 * d; have : 192 ≤ 32 * d := hRl; omega) (Nat.le_refl _) (Nat.le_refl _) hlocks hXC hS.2.2 (Nat.le_refl _) (Nat.le_refl _)
      · exact vx_throwSW hx hb hlst (own := own) (cls := vm_xn x) (names := ["java/lang/RuntimeException", "java/lang/Exception"]) ho hfit hnm (hts _ hkl) (hts _ hini) hsa hat hgood hXF.2.1 hXF.2.2.1 hS hls d0 d3 d4 d7 d10 (fun z hz => (hxt z hz).elim) (by show 2 + 3 < d; have : 6 ≤ d := hRf; omega) (by show _ + (13 * (2 + 1) + 43) ≤ 32 * d; have : 192 ≤ 32 * d := hRl; omega) (Nat.le_refl _) (Nat.le_refl _) hlocks hXC hS.2.2 (Nat.le_refl _) (Nat.le_refl _)
    · intro x σ' pc ls rest H locs q ce hp hS hq hcv hcls
      exact vx_out (fun z hz => (hxt z hz).elim) hlocks hq hcv hcls (fun t ht _ => ⟨⟨x, σ', rfl, hp⟩, hS.F ht⟩) hS.2.2 (Nat.le_refl _) (Nat.le_refl _)
  have hl := lv_entry (av.map (vg_cv ad)) (n := nL) (by rw [vg_wd_eq]; exact hw av σ hpre)
  rw [vg_args_eq] at hl
  rw [lg_entry_eq]
  exact vm_sound (ex := []) hs C0 E0 (fun _ h => absurd h List.not_mem_nil) (go av σ hpre) s.heap [] _ hl (vg_args_ok av 0 hok) (fun v h => by cases h) hP va_S.rf
/-- the contract of a method that makes cells and doesn't throw -/
def vm_Met (tb : List Cond) (nw : List (String × Nat × MethodName × String)) (shp : vgN → vgH) (nm : List vgN) (cl : List vw_C) (tyl : List FieldType) (y : MethodName) (cc : ByteArray) (nL : Nat) (ret : Option FieldType) (d mc ms : Nat) (pre : vgT → vgS → Prop) (post : vgT → vgS → vgO) : Prop :=
  ∀ (l : Launch) (D : va_G) (tys : List (ClassId × FieldType)) (ad : vgN → Nat) (sz : Nat) (av : vgT) (σ : vgS), tys.map (fun q => q.2) = tyl → (∀ v ∈ av, vg_ok nm v) → pre av σ →
    Met l y (.code y cc nL ret :: tb) { frames := d, cells := mc, slots := ms, locals := 32 * d } (va_Pc (av.map (vg_cv ad)) (fun U => U.heap.size = sz ∧ va_P D cl (vg_ws shp nm ad tys σ) U.heap ∧ va_K D cl tys U ∧ va_D (fun _ => True) (vg_ws shp nm ad tys σ) ∧ vg_nw nw U)) (vg_Q shp nm cl D tys ad (vg_A nm ad sz) (post av σ)) mc ms (vg_A nm ad sz)
theorem vm_met {tb : List Cond} {nw : List (String × Nat × MethodName × String)} {shp : vgN → vgH} {nm : List vgN} {cl : List vw_C} {tyl : List FieldType} {y : MethodName} {cc : ByteArray} {nL : Nat} {own : String} {ret : Option FieldType} {d mc ms : Nat} {pre : vgT → vgS → Prop} {post : vgT → vgS → vgO}
    (hcl : vg_closed shp nm) (hy : plainName y.cls = true) (hown : y.cls = own) (hw : ∀ av σ, pre av σ → vg_wd av ≤ nL)
    (go : ∀ (p : Program) (l : Launch) (e : Env) (R : Room) (s : State) (m : MethodId) (args : Array Value) (below : List Frame) (meth : Method) (c : Code) (D : va_G) (tys : List (ClassId × FieldType)) (ad : vgN → Nat) (A : Nat → Prop) (Z : State → Prop) (av : vgT) (σ : vgS), pre av σ → R.cells = mc → R.slots = ms →
      vm_C tb nw shp nm cl tyl cc nL own ret d p R s m args meth c D tys ad A → (∀ k n, k ≤ mc → n ≤ ms → vm_E false tb [] [] shp nm cl cc own ret p l e R s m args below meth c D tys ad A (post av σ) k n Z) → vm_X shp nm cl nL p l e R s m args below meth c D tys ad A 0 0 Z 0 (vg_args 0 av) [] σ) : vm_Met tb nw shp nm cl tyl y cc nL ret d mc ms pre post := by
  intro l D tys ad sz av σ hty hok hpre
  refine Met.ofW (cc := cc) (maxL := nL) (ret := ret) hy rfl ?_
  intro p e s m args below meth c s₁ B hml hv
  obtain ⟨rfl, hsz, hP, hK, hD, hnw⟩ := hv
  have hx := B.exec
  have hb := B.bytes
  have hr := B.returns
  have hts : ∀ w ∈ tb, w.before (av.map (vg_cv ad)).toArray s = true := fun w h => atoms_spec (ws := .code y cc nL ret :: tb) B.pre w (List.mem_cons_of_mem _ h)
  have ho : s.vm.findClass own = some m.cls := by rw [← hown]; exact findClass_of_methodNamed B.named
  have hlocks := B.notSynchronized
  subst hsz
  have hDA : ∀ σ', va_D (vg_A nm ad s.heap.size) (vg_ws shp nm ad tys σ') := fun σ' => (vg_ws_D hD σ').weaken (fun k q hk _ => by
    unfold vg_ws at hk
    rw [List.getElem?_map] at hk
    cases hn : nm[k]? with
    | none => rw [hn] at hk; cases hk
    | some n => rw [hn] at hk; cases hk; exact Or.inl ⟨n, List.mem_of_getElem? hn, rfl⟩)
  have C0 : vm_C tb nw shp nm cl tyl cc nL own ret d p { frames := d, cells := mc, slots := ms, locals := 32 * d } s m (av.map (vg_cv ad)).toArray meth c D tys ad (vg_A nm ad s.heap.size) := ⟨hx, hb, hml, ho, hts, hK, hty, hr, hlocks, ⟨Nat.le_refl _, Nat.le_refl _⟩, fun q h => Or.inr h, hDA, hcl, hnw⟩
  have E0 : ∀ k n, k ≤ mc → n ≤ ms → vm_E false tb [] [] shp nm cl cc own ret p l e { frames := d, cells := mc, slots := ms, locals := 32 * d } s m (av.map (vg_cv ad)).toArray below meth c D tys ad (vg_A nm ad s.heap.size) (post av σ) k n (MQ below (vg_Q shp nm cl D tys ad (vg_A nm ad s.heap.size) (post av σ)) (av.map (vg_cv ad)).toArray s mc ms (vg_A nm ad s.heap.size)) := by
    intro k n hk hn
    refine ⟨⟨hk, hn⟩, ?_, fun h => Bool.noConfusion h⟩
    intro r σ' pc ls H locs hp hP' hS hrk
    refine W.widen (k := mc) (n := ms) hk hn ?_
    exact vm_leave hx hb hr hlocks hrk hS.2.2 (fun t ht => ⟨⟨r, σ', rfl, hp, vm_rkN hrk, by rw [ht]; exact hP'⟩, hS.F ht⟩)
  have hl := lv_entry (av.map (vg_cv ad)) (n := nL) (by rw [vg_wd_eq]; exact hw av σ hpre)
  rw [vg_args_eq] at hl
  rw [lg_entry_eq]
  exact go p l e _ s m _ below meth c D tys ad _ _ av σ hpre rfl rfl C0 E0 s.heap [] _ hl (vg_args_ok av 0 hok) (fun v h => by cases h) hP va_S.rf
/-! throwing instructions -/
def vi_throw (x : Nat) : vgF := fun P _ _ st σ => bif Nat.ble (vg_wd st) 8 then P (vm_th x) σ else False
/-- a call of a static method that throws x where tx holds, and else does what sp says -/
def vi_callSX (sp : vgC) (tx : vgT → vgS → Prop) (x k n : Nat) : vgF := fun P K lv st σ => match vg_pop k [] st with
  | some q => bif Nat.ble (vg_wd q.2) 8 then ((tx q.1 σ → P (vm_th x) σ) ∧ (¬ tx q.1 σ → (sp q.1 σ).1 ∧ vg_k K n lv q.2 (sp q.1 σ).2.1 (sp q.1 σ).2.2)) else False
  | none => False
def vi_callVX (shp : vgN → vgH) (ci : Nat) (sp : vgC) (tx : vgT → vgS → Prop) (x k n : Nat) : vgF := fun P K lv st σ => match vg_pop (k + 1) [] st with
  | some (.inr m :: as, t) => (match shp m with
    | .inl o => bif Nat.beq o.1 ci && Nat.ble (vg_wd t) 8 then ((tx (.inr m :: as) σ → P (vm_th x) σ) ∧ (¬ tx (.inr m :: as) σ → (sp (.inr m :: as) σ).1 ∧ vg_k K n lv t (sp (.inr m :: as) σ).2.1 (sp (.inr m :: as) σ).2.2)) else False
    | _ => False)
  | _ => False
/-- a method that throws x where tx holds -/
abbrev vm_MetT (tb tbx : List Cond) (strs : List (String × Nat × String)) (nw : List (String × Nat × MethodName × String)) (shp : vgN → vgH) (nm : List vgN) (cl : List vw_C) (tyl : List FieldType) (y : MethodName) (cc : ByteArray) (nL : Nat) (ret : Option FieldType) (d : Nat) (tx : vgT → vgS → Prop) (x : Nat) : Prop :=
  vm_MetX tb tbx strs nw shp nm cl tyl y cc nL ret d tx (fun _ _ r _ => r = vm_th x)
section VT4
variable {p : Program} {l : Launch} {e : Env} {R : Room} {s : State} {m : MethodId} {args : Array Value} {below : List Frame} {meth : Method} {c : Code} {H : Heap} {locs : List Loc} {Q : State → Prop} {ck cn : Nat}
variable {bf : Bool} {tb tbx : List Cond} {strs : List (String × Nat × String)} {nw : List (String × Nat × MethodName × String)} {shp : vgN → vgH} {nm : List vgN} {cl : List vw_C} {tyl : List FieldType} {cc : ByteArray} {nL : Nat} {own : String} {ret : Option FieldType} {d pc n : Nat}
theorem vm_callT {D : va_G} {tys : List (ClassId × FieldType)} {ad : vgN → Nat} {A A1 : Nat → Prop} {a : Array Value} {ls : Array Slot} {st0 rest : List Value} {x : Nat}
    (hr : vx_Run p l e R s m args below meth c H locs ck cn 1 6 (F0 m pc ls st0) rest (vm_Qx shp nm cl D tys ad A1 (fun r _ => r = vm_th x) a) (vm_XC A1 (fun r _ => r = vm_th x)) A1) (hS : va_S A s.heap H locs) (hA : ∀ q, A1 q → A q)
    (kx : ∀ (H1 : Heap) (locs1 : List Loc) (q : Addr) (ce : Cell), va_S A s.heap H1 locs1 → H1[q]? = some ce → ce.vm = .none → s.vm.findClass (vm_xn x) = some ce.cls → vx_W p l e R s m args below meth c H1 locs1 (ck + 1) (cn + 6) Q (F0 m pc ls rest) q) : W p l e R s m args below meth c H locs ck cn Q (F0 m pc ls st0) := by
  intro T hT X
  rcases hr T hT X with ⟨v, st₀, t, T', L, h0, X', hL, e1, e2, ⟨⟨r, u, hv, hp, hne, hb⟩, hF⟩, st⟩ | ⟨q, st₀, t, T', L, E, ce, h0, X', hL, e1, e2, ⟨⟨x', u, hE, hp⟩, hF⟩, hce, hcv, hcl, st⟩
  · exact absurd hp (hne x)
  · obtain ⟨k1, k2, k3⟩ := vx_keep h0 e1 hS (fun q _ h => hA q h) hA hL hF
    have hxx : x' = x := by
      have h2 := hp
      simpa [vm_th] using h2
    subst hxx
    obtain ⟨t2, a1, b1⟩ := kx T'.heap (locs ++ L) q ce k3 (by rw [e1]; exact hce) hcv (by rw [← hE]; exact hcl) T' rfl X'
    exact ⟨t2, st.trans a1, b1⟩
theorem vt_throw {x : Nat} (hk : vm_nk tb tbx strs own cc pc x) (hd : 6 ≤ d) : vm_Snd true tb tbx strs nw shp nm cl tyl cc nL own ret d pc (vi_throw x) := by
  refine ⟨fun P K K' h lv st σ g => g, ?_⟩
  intro p l e R s m args below meth c D tys ad A P ck cn Z C0 E0 lv st σ h H locs ls hl ho hs hP hS
  unfold vi_throw at h
  cases hb : Nat.ble (vg_wd st) 8 with
  | false => rw [hb] at h; exact h.elim
  | true =>
    rw [hb] at h
    have hwd : vg_wd st ≤ 8 := Nat.le_of_ble_eq_true hb
    have hR := C0.2.2.2.2.2.2.2.2.2.1
    exact (E0.2.2 rfl).2.2.1 x σ pc ls _ H locs h hS (hl.1.trans C0.2.2.1.symm) (by rw [vg_wd_sum]; exact hwd) (by omega) (by omega) hk
theorem vt_callSX {k ix x : Nat} {y : MethodName} {bytes : ByteArray} {mL d' d2 : Nat} {rt : Option FieldType} {sp : vgC} {tx : vgT → vgS → Prop} (hM : vg_MetF tb nw shp nm cl tyl y bytes mL rt d' sp) (hT : vm_MetT tb tbx strs nw shp nm cl tyl y bytes mL rt d2 tx x) (hmv : tbx.all vm_mvB = true) (hd : decode cc pc = .ok (.invokestatic ix, 3))
    (hG : tb.all goodWord = true) (hcw : Cond.code y bytes mL rt ∈ tb) (hini : Cond.initialized y.cls ∈ tb) (hl : Cond.methodLink own ix y ∈ tb) (hi : Cond.static y ∈ tb)
    (hy : y.cls ≠ "java/lang/invoke/MethodHandle" ∧ y.cls ≠ "java/lang/invoke/VarHandle" ∧ (parseMethodDescriptor y.desc).map (fun d => d.parameters.length) = some k) (hR : (d' + 1 ≤ d ∧ mL ≤ 13) ∧ d2 + 1 ≤ d) (hn : pc + 3 = n) : vm_Snd true tb tbx strs nw shp nm cl tyl cc nL own ret d pc (vi_callSX sp tx x k n) := by
  refine ⟨?_, ?_⟩
  · intro P K K' h lv st σ g
    unfold vi_callSX at g ⊢
    split at g
    next q hq =>
      cases hb : Nat.ble (vg_wd q.2) 8 with
      | false => rw [hb] at g; exact g.elim
      | true =>
        rw [hb] at g
        exact ⟨g.1, fun z => ⟨(g.2 z).1, vg_k_mono h (g.2 z).2⟩⟩
    next => exact g
  intro p l e R s m args below meth c D tys ad A P ck cn Z C0 E0 lv st σ h
  by_cases hc : ∃ q, vg_pop k [] st = some q ∧ tx q.1 σ
  · obtain ⟨⟨as, t⟩, hpop, htx⟩ := hc
    unfold vi_callSX at h
    rw [hpop] at h
    intro H locs ls hl0 ho hs hP hS
    cases hb : Nat.ble (vg_wd t) 8 with
    | false =>
      have h' : (bif Nat.ble (vg_wd t) 8 then _ else False) := h
      rw [hb] at h'
      exact h'.elim
    | true =>
      have h' : (bif Nat.ble (vg_wd t) 8 then _ else False) := h
      rw [hb] at h'
      have hwd : vg_wd t ≤ 8 := Nat.le_of_ble_eq_true hb
      have hP2 : P (vm_th x) σ := h'.1 htx
      obtain ⟨hx, hcb, hml, hown, hts, hK, hty, hr, hlocks, hRR, hA, hDA, hclo, hnw⟩ := C0
      obtain ⟨e1, e2⟩ := vg_pop_eq _ _ _ _ _ hpop
      have hst : st = as.reverse ++ t := by rw [e1]; rfl
      have hav : ∀ v ∈ as, vg_ok nm v := fun v hv => hs v (by rw [hst]; exact List.mem_append_left _ (List.mem_reverse.mpr hv))
      have hlen : as.length = k := by simp at e2; omega
      have hstk : st.map (vg_cv ad) = (as.map (vg_cv ad)).reverse ++ t.map (vg_cv ad) := by rw [hst]; simp
      have hg : ∀ w ∈ tb, goodWord w = true := fun w h => List.all_eq_true.mp hG w h
      have cb : CallB R s args own ix y bytes mL rt (.code y bytes mL rt :: tb) (vm_rmx d2) 1 6 k := by
        refine callB_of k hts (fun w hw => ?_) rfl rfl rfl (hts _ hini) (hts _ hl) hy ⟨Nat.le_trans hR.2 hRR.1, ?_⟩
        · rcases List.mem_cons.mp hw with rfl | hw
          · exact ⟨hcw, good_of_word (hg _ hcw)⟩
          · exact ⟨hw, good_of_word (hg _ hw)⟩
        · show 8 + (mL + 11) + 32 * d2 ≤ R.locals
          omega
      have hX := (E0.2.2 rfl).1
      refine vm_callT (vx_runS (As := as.map (vg_cv ad)) (rest := t.map (vg_cv ad)) ⟨hx, hcb, hml, hown, hts⟩ (hT l D tys ad H.size as σ (E0.2.2 rfl).2.1.1 hty hav htx) ⟨cb, hts _ hi⟩ ⟨fun a U g mk q => ?_, fun U hU hW => ⟨rfl, ?_, ?_, ?_, ?_, fun z hz => va_Nw.warmM hW (hnw z hz), ?_⟩⟩ rfl (by rw [List.length_map]; exact hlen) hl0.1 hstk (lv_room (by rw [vg_wd_sum]; exact hwd)) hd ⟨(E0.2.2 rfl).2.1.2.1, (E0.2.2 rfl).2.1.2.2⟩) hS (vg_in_A (hDA σ) hA hS.1) (fun H1 locs1 q ce hS1 hq hcv hcls => ?_)
      · obtain ⟨q0, q1, qP, qK, qD, qN, qX⟩ := q
        exact ⟨q0, q1, qP, va_K.moved (u := U) (U := U.calling g mk a) (Vm.Alike.refl U.vm) qK, qD, fun z hz => va_Nw.same (u := U) (U := U.calling g mk a) rfl rfl (qN z hz), vm_XF.blind hmv qX⟩
      · rw [hU]
      · rw [hU]; exact hP
      · exact va_K.moved hW.alike hK
      · exact (hDA σ).weaken (fun _ _ _ _ => trivial)
      · exact vm_XF.call hmv hX hS (vg_in_A (hDA σ) hA hS.1) hU hW
      · exact (E0.2.2 rfl).2.2.2 x σ pc ls _ H1 locs1 q ce hP2 hS1 hq hcv hcls
  · refine (vt_callS (bf := true) (tbx := tbx) (strs := strs) hM hd hG hcw hini hl hi hy hR.1 hn).2 p l e R s m args below meth c D tys ad A P ck cn Z C0 E0 lv st σ ?_
    unfold vi_callSX at h
    unfold vi_callS
    split at h
    next q hq =>
      cases hb : Nat.ble (vg_wd q.2) 8 with
      | false => rw [hb] at h; exact h.elim
      | true =>
        rw [hb] at h
        rw [hq]
        show (bif Nat.ble (vg_wd q.2) 8 then _ else False)
        rw [hb]
        exact h.2 (fun z => hc ⟨q, hq, z⟩)
    next => exact h.elim
theorem vt_callVX {ci k ix x : Nat} {C : String} {T : u_T} {N : Nat} {y : MethodName} {bytes : ByteArray} {mL d' d2 : Nat} {rt : Option FieldType} {sp : vgC} {tx : vgT → vgS → Prop} (hM : vg_MetF tb nw shp nm cl tyl y bytes mL rt d' sp) (hT : vm_MetT tb tbx strs nw shp nm cl tyl y bytes mL rt d2 tx x) (hmv : tbx.all vm_mvB = true) (hd : decode cc pc = .ok (.invokevirtual ix, 3)) (hc : cl[ci]? = some (C, T, N))
    (hG : tb.all goodWord = true) (hcw : Cond.code y bytes mL rt ∈ tb) (hini : Cond.initialized C ∈ tb) (hl : Cond.methodLink own ix y ∈ tb) (hi : Cond.instanceMethod y ∈ tb) (hse : Cond.selects C y y ∈ tb)
    (hy : y.cls = C ∧ y.cls ≠ "java/lang/invoke/MethodHandle" ∧ y.cls ≠ "java/lang/invoke/VarHandle" ∧ (parseMethodDescriptor y.desc).map (fun d => d.parameters.length) = some k) (hR : (d' + 1 ≤ d ∧ mL ≤ 13) ∧ d2 + 1 ≤ d) (hn : pc + 3 = n) : vm_Snd true tb tbx strs nw shp nm cl tyl cc nL own ret d pc (vi_callVX shp ci sp tx x k n) := by
  refine ⟨?_, ?_⟩
  · intro P K K' h lv st σ g
    unfold vi_callVX at g ⊢
    split at g
    next m0 as t hpop =>
      split at g
      next o ho0 =>
        cases hb : Nat.beq o.1 ci && Nat.ble (vg_wd t) 8 with
        | false => rw [hb] at g; exact g.elim
        | true =>
          rw [hb] at g
          exact ⟨g.1, fun z => ⟨(g.2 z).1, vg_k_mono h (g.2 z).2⟩⟩
      next => exact g
    next => exact g
  intro p l e R s m args below meth c D tys ad A P ck cn Z C0 E0 lv st σ h
  by_cases hcase : ∃ m0 as t, vg_pop (k + 1) [] st = some (.inr m0 :: as, t) ∧ tx (.inr m0 :: as) σ
  · obtain ⟨m0, as, t, hpop, htx⟩ := hcase
    unfold vi_callVX at h
    rw [hpop] at h
    intro H locs ls hl0 ho hs hP hS
    have h' : (match shp m0 with
      | .inl o => bif Nat.beq o.1 ci && Nat.ble (vg_wd t) 8 then _ else False
      | _ => False) := h
    split at h'
    next o ho0 =>
      cases hb : Nat.beq o.1 ci && Nat.ble (vg_wd t) 8 with
      | false => rw [hb] at h'; exact h'.elim
      | true =>
        rw [hb] at h'
        have hP2 : P (vm_th x) σ := h'.1 htx
        simp only [Bool.and_eq_true] at hb
        have e : o.1 = ci := Nat.eq_of_beq_eq_true hb.1
        have hwd : vg_wd t ≤ 8 := Nat.le_of_ble_eq_true hb.2
        obtain ⟨hx, hcb, hml, hown, hts, hK, hty, hr, hlocks, hRR, hA, hDA, hclo, hnw⟩ := C0
        obtain ⟨e1, e2⟩ := vg_pop_eq _ _ _ _ _ hpop
        have hst : st = (Sum.inr m0 :: as : vgT).reverse ++ t := by rw [e1]; rfl
        have hav : ∀ v ∈ (Sum.inr m0 :: as : vgT), vg_ok nm v := fun v hv => hs v (by rw [hst]; exact List.mem_append_left _ (List.mem_reverse.mpr hv))
        have hlen : as.length = k := by simp at e2; omega
        have hm0 : m0 ∈ nm := hav _ List.mem_cons_self
        obtain ⟨q0, hq0, hws⟩ := vg_ws_get (shp := shp) (ad := ad) (tys := tys) (σ := σ) hm0
        rw [ho0] at hws
        have hws2 : (vg_ws shp nm ad tys σ)[q0]? = some (ad m0, .inr (ci, vg_fs ad (σ m0) 0 o.2)) := by rw [hws]; show some (ad m0, Sum.inr (o.1, _)) = _; rw [e]
        have hstk : st.map (vg_cv ad) = (as.map (vg_cv ad)).reverse ++ .ref (ad m0) :: t.map (vg_cv ad) := by rw [hst]; simp [vg_cv]
        have hg : ∀ w ∈ tb, goodWord w = true := fun w h => List.all_eq_true.mp hG w h
        have cb : CallB R s args own ix y bytes mL rt (.code y bytes mL rt :: tb) (vm_rmx d2) 1 6 k := by
          refine callB_of k hts (fun w hw => ?_) rfl rfl rfl (hts _ (by rw [hy.1]; exact hini)) (hts _ hl) hy.2 ⟨Nat.le_trans hR.2 hRR.1, ?_⟩
          · rcases List.mem_cons.mp hw with rfl | hw
            · exact ⟨hcw, good_of_word (hg _ hcw)⟩
            · exact ⟨hw, good_of_word (hg _ hw)⟩
          · show 8 + (mL + 11) + 32 * d2 ≤ R.locals
            omega
        have hX := (E0.2.2 rfl).1
        refine vm_callT (vx_runV (As := as.map (vg_cv ad)) (b := ad m0) (rest := t.map (vg_cv ad)) (C := C) ⟨hx, hcb, hml, hown, hts⟩ (hT l D tys ad H.size (.inr m0 :: as) σ (E0.2.2 rfl).2.1.1 hty hav htx) ⟨cb, hts _ hi, hts _ hse⟩ ⟨fun a U g mk q => ?_, va_recv hK hP (ci := ci) (q0 := q0) hc hws2, fun U hU hW => ⟨?_, ?_, ?_, ?_, ?_, fun z hz => va_Nw.warmM hW (hnw z hz), ?_⟩⟩ rfl (by rw [List.length_map]; exact hlen) hl0.1 hstk (lv_room (by rw [vg_wd_sum]; exact hwd)) hd ⟨(E0.2.2 rfl).2.1.2.1, (E0.2.2 rfl).2.1.2.2⟩) hS (vg_in_A (hDA σ) hA hS.1) (fun H1 locs1 q ce hS1 hq hcv hcls => ?_)
        · obtain ⟨q0, q1, qP, qK, qD, qN, qX⟩ := q
          exact ⟨q0, q1, qP, va_K.moved (u := U) (U := U.calling g mk a) (Vm.Alike.refl U.vm) qK, qD, fun z hz => va_Nw.same (u := U) (U := U.calling g mk a) rfl rfl (qN z hz), vm_XF.blind hmv qX⟩
        · rfl
        · rw [hU]
        · rw [hU]; exact hP
        · exact va_K.moved hW.alike hK
        · exact (hDA σ).weaken (fun _ _ _ _ => trivial)
        · exact vm_XF.call hmv hX hS (vg_in_A (hDA σ) hA hS.1) hU hW
        · exact (E0.2.2 rfl).2.2.2 x σ pc ls _ H1 locs1 q ce hP2 hS1 hq hcv hcls
    next => exact h'.elim
  · refine (vt_callV (bf := true) (tbx := tbx) (strs := strs) hM hd hc hG hcw hini hl hi hse hy hR.1 hn).2 p l e R s m args below meth c D tys ad A P ck cn Z C0 E0 lv st σ ?_
    unfold vi_callVX at h
    unfold vi_callV
    split at h
    next m0 as t hpop =>
      split at h
      next o ho0 =>
        cases hb : Nat.beq o.1 ci && Nat.ble (vg_wd t) 8 with
        | false => rw [hb] at h; exact h.elim
        | true =>
          rw [hb] at h
          rw [hpop]
          show (match shp m0 with | .inl o => bif Nat.beq o.1 ci && Nat.ble (vg_wd t) 8 then _ else False | _ => False)
          rw [ho0]
          show (bif Nat.beq o.1 ci && Nat.ble (vg_wd t) 8 then _ else False)
          rw [hb]
          exact h.2 (fun z => hcase ⟨m0, as, t, hpop, z⟩)
      next => exact h.elim
    next => exact h.elim
end VT4
end
section
/-! a third machine, for cells that are made: the world is a list of cells; the name (i, 0, 0) is the cell at place i there -/
theorem vq_AOA.moved {ty : FieldType} {u U : State} (hvm : u.vm.Alike U.vm) (h : vq_AOA ty u) : vq_AOA ty U := by
  have hidx : ∀ comp : ClassId, (U.vm.classes.findIdx? fun (x : Class) => match x.kind with | .array component _ => component == comp | _ => false) = (u.vm.classes.findIdx? fun (x : Class) => match x.kind with | .array component _ => component == comp | _ => false) := by
    intro comp
    have hb : U.vm.bare = u.vm.bare := by first | exact hvm.bare_eq | exact hvm.bare_eq.symm
    have h1 := va_idx_bare U.vm comp
    have h2 := va_idx_bare u.vm comp
    rw [hb] at h1
    exact h1.symm.trans h2
  unfold vq_AOA Cond.before Cond.holds at h ⊢
  simp only [Cond.value, hvm.findClass] at h ⊢
  cases hc : u.vm.findClass (FieldType.array ty).toString with
  | none => rw [hc] at h; simp at h
  | some comp =>
    rw [hc, Option.bind_some] at h
    rw [Option.bind_some]
    have h' := hidx comp
    cases hi : (u.vm.classes.findIdx? fun (x : Class) => match x.kind with | .array component _ => component == comp | _ => false) with
    | none =>
      exfalso
      refine Bool.false_ne_true (Eq.trans ?_ h)
      refine (congrArg (fun o : Option Nat => (o.bind (fun c => (u.vm.classes[c]?).map fun (k : Class) => match k.kind with | .array _ ty9 => decide (ty9 = FieldType.array ty) && decide (u.vm.findClass ("[" ++ (FieldType.array ty).toString) = some c) | _ => false) == some true)) hi).symm
    | some c =>
      have h2 := (congrArg (fun o : Option Nat => (o.bind (fun c => (u.vm.classes[c]?).map fun (k : Class) => match k.kind with | .array _ ty9 => decide (ty9 = FieldType.array ty) && decide (u.vm.findClass ("[" ++ (FieldType.array ty).toString) = some c) | _ => false) == some true)) hi).symm.trans h
      refine (congrArg (fun o : Option Nat => (o.bind (fun c => (U.vm.classes[c]?).map fun (k : Class) => match k.kind with | .array _ ty9 => decide (ty9 = FieldType.array ty) && decide (u.vm.findClass ("[" ++ (FieldType.array ty).toString) = some c) | _ => false) == some true)) (h'.trans hi)).trans ?_
      cases hk : u.vm.classes[c]? with
      | none => simp [hk] at h2
      | some k =>
        obtain ⟨k', hk', he⟩ := hvm.2.2 _ _ hk
        have hkind : k'.kind = k.kind := by rw [he]
        simp only [hk, Option.bind_some, Option.map_some] at h2
        simp only [hk', Option.bind_some, Option.map_some, hkind]
        exact h2
/-- facts of the tables that no word keeps: links to private members of nest mates; arrays over a class; arrays of int rows -/
abbrev vhW : Type := List (String × Nat × MethodName × String) × (List String × Bool)
def vh_nx (nx : vhW) (s : State) : Prop := vg_nw nx.1 s ∧ (∀ C ∈ nx.2.1, va_AO C s) ∧ (nx.2.2 = true → vq_AOA .int s)
theorem vh_nx.warm {nx : vhW} {s U : State} (hW : s.WarmedH U.vm) (h : vh_nx nx s) : vh_nx nx U := ⟨fun z hz => va_Nw.warmM hW (h.1 z hz), fun C hC => va_AO.moved hW.alike (h.2.1 C hC), fun hb => vq_AOA.moved hW.alike (h.2.2 hb)⟩
theorem vh_nx.blind {nx : vhW} {a : Array Value} {U : State} {g : JFrame} {mk : MethodId} (h : vh_nx nx U) : vh_nx nx (U.calling g mk a) := ⟨fun z hz => va_Nw.same (u := U) (U := U.calling g mk a) rfl rfl (h.1 z hz), fun C hC => va_AO.moved (u := U) (U := U.calling g mk a) (Vm.Alike.refl U.vm) (h.2.1 C hC), fun hb => vq_AOA.moved (u := U) (U := U.calling g mk a) (Vm.Alike.refl U.vm) (h.2.2 hb)⟩
abbrev vhX : Type := (Nat → Int32) ⊕ ((Nat → Int64) ⊕ (Nat → Option Nat))
abbrev vhC : Type := (Nat × List vgV) ⊕ (Nat × (Nat × vhX))
abbrev vhS : Type := List vhC
abbrev vhT : Type := vhS × (Nat × Nat)
abbrev vhK : Type := Nat → vgL → vgT → vhT → Prop
abbrev vhO : Type := Option vgV → vhT → Prop
abbrev vhF : Type := vhO → vhK → vgL → vgT → vhT → Prop
def vh_n (i : Nat) : vgN := (i, 0, 0)
def vh_N (n : Nat) : List vgN := (List.range n).map vh_n
theorem vh_N_in {n i : Nat} (h : i < n) : vh_n i ∈ vh_N n := List.mem_map.mpr ⟨i, List.mem_range.mpr h, rfl⟩
theorem vh_N_of {n : Nat} {z : vgN} (h : z ∈ vh_N n) : ∃ i, i < n ∧ z = vh_n i := by
  obtain ⟨i, h1, h2⟩ := List.mem_map.mp h
  exact ⟨i, List.mem_range.mp h1, h2.symm⟩
theorem vh_N_le {n k : Nat} (hnk : n ≤ k) {v : vgV} (h : vg_ok (vh_N n) v) : vg_ok (vh_N k) v := by
  cases v with
  | inl v => trivial
  | inr z =>
    obtain ⟨i, h1, rfl⟩ := vh_N_of h
    exact vh_N_in (Nat.lt_of_lt_of_le h1 hnk)
def vh_x (ad : vgN → Nat) : vhX → ((Nat → Int32) ⊕ (Nat → Int64) ⊕ (Nat → UInt32) ⊕ (Nat → UInt64) ⊕ (Nat → Option Nat))
  | .inl f => .inl f
  | .inr (.inl f) => .inr (.inl f)
  | .inr (.inr f) => .inr (.inr (.inr (.inr (fun i => (f i).map (fun j => ad (vh_n j))))))
def vh_e (ad : vgN → Nat) (tys : List (ClassId × FieldType)) : vhC → va_E
  | .inl q => .inr (q.1, q.2.map (vg_cv ad))
  | .inr q => .inl (vg_ty tys q.1, q.2.1, vh_x ad q.2.2)
def vh_ws (ad : vgN → Nat) (tys : List (ClassId × FieldType)) (S : vhS) : va_W := S.mapIdx (fun i c => (ad (vh_n i), vh_e ad tys c))
def vh_okC (n : Nat) : vhC → Prop
  | .inl q => ∀ v ∈ q.2, vg_ok (vh_N n) v
  | .inr q => match q.2.2 with
    | .inr (.inr f) => ∀ i j, f i = some j → j < n
    | _ => True
def vh_wf (S : vhS) : Prop := ∀ c ∈ S, vh_okC S.length c
theorem vh_okC_le {n k : Nat} (hnk : n ≤ k) : ∀ {c : vhC}, vh_okC n c → vh_okC k c
  | .inl q, h => fun v hv => vh_N_le hnk (h v hv)
  | .inr (t, m, .inl f), _ => trivial
  | .inr (t, m, .inr (.inl f)), _ => trivial
  | .inr (t, m, .inr (.inr f)), h => fun i j hij => Nat.lt_of_lt_of_le (h i j hij) hnk
theorem vh_cv_eq {ad ad' : vgN → Nat} {n : Nat} (h : ∀ i, i < n → ad' (vh_n i) = ad (vh_n i)) : ∀ {v : vgV}, vg_ok (vh_N n) v → vg_cv ad' v = vg_cv ad v
  | .inl v, _ => rfl
  | .inr z, hz => by
    obtain ⟨i, h1, rfl⟩ := vh_N_of hz
    show Value.ref _ = Value.ref _
    rw [h i h1]
theorem vh_e_eq {ad ad' : vgN → Nat} {tys : List (ClassId × FieldType)} {n : Nat} (h : ∀ i, i < n → ad' (vh_n i) = ad (vh_n i)) : ∀ {c : vhC}, vh_okC n c → vh_e ad' tys c = vh_e ad tys c
  | .inl q, hc => by
    show Sum.inr (q.1, q.2.map (vg_cv ad')) = Sum.inr (q.1, q.2.map (vg_cv ad))
    rw [List.map_congr_left (fun v hv => vh_cv_eq h (hc v hv))]
  | .inr (t, m, .inl f), _ => rfl
  | .inr (t, m, .inr (.inl f)), _ => rfl
  | .inr (t, m, .inr (.inr f)), hc => by
    show Sum.inl (_, m, Sum.inr (Sum.inr (Sum.inr (Sum.inr _)))) = Sum.inl (_, m, Sum.inr (Sum.inr (Sum.inr (Sum.inr _))))
    congr 7
    funext i
    cases hf : f i with
    | none => rfl
    | some j =>
      show some (ad' (vh_n j)) = some (ad (vh_n j))
      rw [h j (hc i j hf)]
theorem vh_ws_at (ad : vgN → Nat) (tys : List (ClassId × FieldType)) (S : vhS) (i : Nat) : (vh_ws ad tys S)[i]? = (S[i]?).map (fun c => (ad (vh_n i), vh_e ad tys c)) := by
  unfold vh_ws
  rw [List.getElem?_mapIdx]
theorem vh_ws_eq {ad ad' : vgN → Nat} {tys : List (ClassId × FieldType)} {S : vhS} {n : Nat} (hn : S.length ≤ n) (hw : ∀ c ∈ S, vh_okC n c) (h : ∀ i, i < n → ad' (vh_n i) = ad (vh_n i)) : vh_ws ad' tys S = vh_ws ad tys S := by
  apply List.ext_getElem?
  intro i
  rw [vh_ws_at, vh_ws_at]
  cases hs : S[i]? with
  | none => rfl
  | some c =>
    have hi : i < S.length := (List.getElem?_eq_some_iff.mp hs).1
    show some (ad' (vh_n i), vh_e ad' tys c) = some (ad (vh_n i), vh_e ad tys c)
    rw [h i (Nat.lt_of_lt_of_le hi hn), vh_e_eq h (hw c (List.mem_of_getElem? hs))]
theorem vh_ws_app (ad : vgN → Nat) (tys : List (ClassId × FieldType)) (S : vhS) (c : vhC) : vh_ws ad tys (S ++ [c]) = vh_ws ad tys S ++ [(ad (vh_n S.length), vh_e ad tys c)] := by
  unfold vh_ws
  rw [List.mapIdx_append]
  simp
theorem vh_ws_set {ad : vgN → Nat} {tys : List (ClassId × FieldType)} {S : vhS} {i : Nat} {c : vhC} : (vh_ws ad tys S).set i (ad (vh_n i), vh_e ad tys c) = vh_ws ad tys (S.set i c) := by
  apply List.ext_getElem?
  intro j
  rw [List.getElem?_set, vh_ws_at, vh_ws_at, List.getElem?_set]
  have hl : (vh_ws ad tys S).length = S.length := by unfold vh_ws; rw [List.length_mapIdx]
  rw [hl]
  by_cases hj : i = j
  · subst hj
    rw [if_pos rfl, if_pos rfl]
    by_cases hi : i < S.length
    · rw [if_pos hi, if_pos hi]; rfl
    · rw [if_neg hi, if_neg hi]; rfl
  · rw [if_neg hj, if_neg hj]
theorem vh_wf_set {S : vhS} {i : Nat} {c : vhC} (hw : vh_wf S) (hc : vh_okC S.length c) : vh_wf (S.set i c) := by
  intro d hd
  rw [List.length_set]
  rcases List.mem_or_eq_of_mem_set hd with h | h
  · exact hw d h
  · rw [h]; exact hc
theorem vh_wf_app {S : vhS} {c : vhC} (hw : vh_wf S) (hc : vh_okC (S.length + 1) c) : vh_wf (S ++ [c]) := by
  intro d hd
  rw [List.length_append]
  rcases List.mem_append.mp hd with h | h
  · exact vh_okC_le (Nat.le_add_right _ _) (hw d h)
  · rw [List.mem_singleton.mp h]; exact hc
/-- a new address at place k -/
def vh_ad (ad : vgN → Nat) (k q : Nat) : vgN → Nat := fun z => if z = vh_n k then q else ad z
theorem vh_ad_lt {ad : vgN → Nat} {k q i : Nat} (h : i < k) : vh_ad ad k q (vh_n i) = ad (vh_n i) := by
  unfold vh_ad
  rw [if_neg (fun z => ?_)]
  have : i = k := congrArg Prod.fst z
  omega
theorem vh_ad_at {ad : vgN → Nat} {k q : Nat} : vh_ad ad k q (vh_n k) = q := by
  unfold vh_ad
  rw [if_pos rfl]
def vh_rk (cc : ByteArray) (ret : Option FieldType) (pc : Nat) (r : Option vgV) : Prop := match r with
  | some (.inr _) => decode cc pc = .ok (.areturn, 1) ∧ ∃ ty, ret = some ty ∧ refKind ty = true
  | r => vm_rk cc ret pc r
def vh_C (tb : List Cond) (nw : vhW) (cl : List vw_C) (tyl : List FieldType) (cc : ByteArray) (nL : Nat) (own : String) (ret : Option FieldType) (d Rc Rs : Nat) (ini : Bool) (p : Program) (R : Room) (s : State) (m : MethodId) (args : Array Value) (meth : Method) (c : Code) (D : va_G) (tys : List (ClassId × FieldType)) (A : Nat → Prop) : Prop :=
  p.tables.exec = Jvm.exec ∧ c.code = cc ∧ c.maxLocals = nL ∧ s.vm.findClass own = some m.cls ∧ (∀ w ∈ tb, w.before args s = true) ∧ va_K D cl tys s ∧ tys.map (fun q => q.2) = tyl ∧ meth.sig.returnType = ret ∧ meth.locks = false ∧ (d ≤ R.frames ∧ 32 * d ≤ R.locals) ∧ (∀ q, s.heap.size ≤ q → A q) ∧ (Rc ≤ R.cells ∧ Rs ≤ R.slots) ∧ (ini = true → meth.name = "<init>") ∧ vh_nx nw s
def vh_X (cl : List vw_C) (nL : Nat) (p : Program) (l : Launch) (e : Env) (R : Room) (s : State) (m : MethodId) (args : Array Value) (below : List Frame) (meth : Method) (c : Code) (D : va_G) (tys : List (ClassId × FieldType)) (n0 : Nat) (ad0 : vgN → Nat) (A : Nat → Prop) (Z : State → Prop) : vhK := fun pc lv st σ =>
  ∀ (ad : vgN → Nat) (H : Heap) (locs : List Loc) (ls : Array Slot), (∀ i, i < n0 → ad (vh_n i) = ad0 (vh_n i)) → lv_has ls nL (vg_lm ad lv) → (∀ q ∈ lv, vg_ok (vh_N σ.1.length) q.2) → (∀ v ∈ st, vg_ok (vh_N σ.1.length) v) → (n0 ≤ σ.1.length ∧ vh_wf σ.1) → va_P D cl (vh_ws ad tys σ.1) H → va_D A (vh_ws ad tys σ.1) → va_S A s.heap H locs →
    W p l e R s m args below meth c H locs σ.2.1 σ.2.2 Z (F0 m pc ls (st.map (vg_cv ad)))
def vh_E (cl : List vw_C) (cc : ByteArray) (ret : Option FieldType) (p : Program) (l : Launch) (e : Env) (R : Room) (s : State) (m : MethodId) (args : Array Value) (below : List Frame) (meth : Method) (c : Code) (D : va_G) (tys : List (ClassId × FieldType)) (n0 : Nat) (ad0 : vgN → Nat) (A : Nat → Prop) (P : vhO) (Z : State → Prop) : Prop :=
  ∀ (r : Option vgV) (σ : vhT) (pc : Nat) (ad : vgN → Nat) (ls : Array Slot) (H : Heap) (locs : List Loc), P r σ → (∀ v, r = some v → vg_ok (vh_N σ.1.length) v) → (∀ i, i < n0 → ad (vh_n i) = ad0 (vh_n i)) → vh_wf σ.1 → va_P D cl (vh_ws ad tys σ.1) H → va_D A (vh_ws ad tys σ.1) → va_S A s.heap H locs → vh_rk cc ret pc r → W p l e R s m args below meth c H locs σ.2.1 σ.2.2 Z (F0 m pc ls ((r.map (vg_cv ad)).toList))
def vh_Mono (F : vhF) : Prop := ∀ (P : vhO) (K K' : vhK), (∀ pc lv st σ, K pc lv st σ → K' pc lv st σ) → ∀ lv st σ, F P K lv st σ → F P K' lv st σ
def vh_Snd (tb : List Cond) (nw : vhW) (cl : List vw_C) (tyl : List FieldType) (cc : ByteArray) (nL : Nat) (own : String) (ret : Option FieldType) (d Rc Rs : Nat) (ini : Bool) (pc : Nat) (F : vhF) : Prop :=
  vh_Mono F ∧ ∀ (p : Program) (l : Launch) (e : Env) (R : Room) (s : State) (m : MethodId) (args : Array Value) (below : List Frame) (meth : Method) (c : Code) (D : va_G) (tys : List (ClassId × FieldType)) (n0 : Nat) (ad0 : vgN → Nat) (A : Nat → Prop) (P : vhO) (Z : State → Prop),
    vh_C tb nw cl tyl cc nL own ret d Rc Rs ini p R s m args meth c D tys A → vh_E cl cc ret p l e R s m args below meth c D tys n0 ad0 A P Z → ∀ lv st σ, F P (vh_X cl nL p l e R s m args below meth c D tys n0 ad0 A Z) lv st σ → vh_X cl nL p l e R s m args below meth c D tys n0 ad0 A Z pc lv st σ
def vh_Go (code : List (Nat × vhF)) (P : vhO) : vhK := fun pc lv st σ =>
  ∀ X : vhK, (∀ pc lv st σ, (match vg_look code pc with | some F => F P X lv st σ | none => False) → X pc lv st σ) → (∀ pc lv lv' st σ, (∀ q : Nat × vgV, q ∈ lv' → q ∈ lv) → X pc lv' st σ → X pc lv st σ) → X pc lv st σ
def vh_Code (code : List (Nat × vhF)) : Prop := ∀ q ∈ code, vh_Mono q.2
theorem vh_step {code : List (Nat × vhF)} (hm : vh_Code code) {P : vhO} {pc : Nat} {lv : vgL} {st : vgT} {σ : vhT} (h : match vg_look code pc with | some F => F P (vh_Go code P) lv st σ | none => False) : vh_Go code P pc lv st σ := by
  intro X hX hW
  refine hX pc lv st σ ?_
  cases hF : vg_look code pc with
  | none => rw [hF] at h; exact h
  | some F =>
    rw [hF] at h
    exact hm _ (vg_look_mem hF) P _ _ (fun pc lv st σ g => g X hX hW) lv st σ h
theorem vh_weak {code : List (Nat × vhF)} {P : vhO} {pc : Nat} {lv lv' : vgL} {st : vgT} {σ : vhT} (hs : ∀ q : Nat × vgV, q ∈ lv' → q ∈ lv) (h : vh_Go code P pc lv' st σ) : vh_Go code P pc lv st σ :=
  fun X hX hW => hW pc lv lv' st σ hs (h X hX hW)
def vh_R (cuts : List (Nat × List Nat)) (code : List (Nat × vhF)) (P : vhO) : Nat → vhK
  | 0 => vh_Go code P
  | n + 1 => fun pc lv st σ => match vg_look code pc with
    | some F => F P (fun pc' lv' st' σ' => match vg_look cuts pc' with
      | some ks => vh_Go code P pc' (vg_sel ks lv') st' σ'
      | none => vh_R cuts code P n pc' lv' st' σ') lv st σ
    | none => False
theorem vh_run {cuts : List (Nat × List Nat)} {code : List (Nat × vhF)} (hm : vh_Code code) {P : vhO} : ∀ (n : Nat) {pc : Nat} {lv : vgL} {st : vgT} {σ : vhT}, vh_R cuts code P n pc lv st σ → vh_Go code P pc lv st σ
  | 0, _, _, _, _, h => h
  | n + 1, pc, lv, st, σ, h => by
    refine vh_step hm ?_
    unfold vh_R at h
    cases hF : vg_look code pc with
    | none => rw [hF] at h; exact h
    | some F =>
      rw [hF] at h
      refine hm _ (vg_look_mem hF) P _ _ (fun pc' lv' st' σ' g => ?_) lv st σ h
      cases hc : vg_look cuts pc' with
      | some ks => rw [hc] at g; exact vh_weak (fun q hq => vg_sel_in ks q hq) g
      | none => rw [hc] at g; exact vh_run hm n g
theorem vh_sound {tb : List Cond} {nw : vhW} {cl : List vw_C} {tyl : List FieldType} {cc : ByteArray} {nL : Nat} {own : String} {ret : Option FieldType} {d Rc Rs : Nat} {ini : Bool} {code : List (Nat × vhF)} (hs : ∀ q ∈ code, vh_Snd tb nw cl tyl cc nL own ret d Rc Rs ini q.1 q.2)
    {p : Program} {l : Launch} {e : Env} {R : Room} {s : State} {m : MethodId} {args : Array Value} {below : List Frame} {meth : Method} {c : Code} {D : va_G} {tys : List (ClassId × FieldType)} {n0 : Nat} {ad0 : vgN → Nat} {A : Nat → Prop} {P : vhO} {Z : State → Prop}
    (C0 : vh_C tb nw cl tyl cc nL own ret d Rc Rs ini p R s m args meth c D tys A) (E0 : vh_E cl cc ret p l e R s m args below meth c D tys n0 ad0 A P Z) {pc : Nat} {lv : vgL} {st : vgT} {σ : vhT} (h : vh_Go code P pc lv st σ) : vh_X cl nL p l e R s m args below meth c D tys n0 ad0 A Z pc lv st σ := by
  refine h _ (fun pc lv st σ g => ?_) (fun pc lv lv' st σ hsub g ad H locs ls hag hl ho hs hw hP hD hS => g ad H locs ls hag ⟨hl.1, hl.2.1, fun q hq => ?_⟩ (fun q hq => ho q (hsub q hq)) hs hw hP hD hS)
  · cases hL : vg_look code pc with
    | none => rw [hL] at g; exact g.elim
    | some F =>
      rw [hL] at g
      exact (hs _ (vg_look_mem hL)).2 p l e R s m args below meth c D tys n0 ad0 A P Z C0 E0 lv st σ g
  · obtain ⟨q', hq', rfl⟩ := List.mem_map.mp hq
    exact hl.2.2 _ (List.mem_map.mpr ⟨q', hsub q' hq', rfl⟩)
/-! a constructor without arguments: it is begun with one blank cell (class no. ci, fields fs), and leaves the cells cs, the object first -/
def vh_sv (k : Nat) : vgV → vgV
  | .inl v => .inl v
  | .inr z => .inr (vh_n (z.1 + k))
def vh_sx (k : Nat) : vhX → vhX
  | .inl f => .inl f
  | .inr (.inl f) => .inr (.inl f)
  | .inr (.inr f) => .inr (.inr (fun i => (f i).map (fun j => j + k)))
/-- a cell, its places counted from k -/
def vh_sh (k : Nat) : vhC → vhC
  | .inl q => .inl (q.1, q.2.map (vh_sv k))
  | .inr q => .inr (q.1, q.2.1, vh_sx k q.2.2)
def vh_Ini (tb : List Cond) (nw : vhW) (cl : List vw_C) (tyl : List FieldType) (y : MethodName) (cc : ByteArray) (nL d mc ms ci : Nat) (fs : List Value) (cs : vhS) : Prop :=
  vh_wf cs ∧ ∀ (l : Launch) (D : va_G) (tys : List (ClassId × FieldType)) (a sz : Nat), tys.map (fun q => q.2) = tyl →
    Met l y (.code y cc nL none :: tb) { frames := d, cells := mc, slots := ms, locals := 32 * d } (va_Pc [.ref a] (fun U => U.heap.size = sz ∧ va_P D cl [(a, .inr (ci, fs))] U.heap ∧ va_K D cl tys U ∧ vh_nx nw U))
      (fun _ st oc t => (oc = .returned none ∧ ∃ ad : vgN → Nat, va_P D cl (vh_ws ad tys cs) t.heap ∧ va_D (va_A [(a, .inr (ci, fs))] sz) (vh_ws ad tys cs) ∧ ad (vh_n 0) = a) ∧ va_F (va_A [(a, .inr (ci, fs))] sz) st t) mc ms (va_A [(a, .inr (ci, fs))] sz)
theorem vh_ini {tb : List Cond} {nw : vhW} {cl : List vw_C} {tyl : List FieldType} {y : MethodName} {cc : ByteArray} {nL : Nat} {own : String} {d mc ms ci : Nat} {fs : List Value} {cs : vhS} {code : List (Nat × vhF)} (hwf : vh_wf cs)
    (hy : plainName y.cls = true) (hown : y.cls = own) (hyn : y.name = "<init>") (hnL : 1 ≤ nL) (hs : ∀ q ∈ code, vh_Snd tb nw cl tyl cc nL own none d mc ms true q.1 q.2)
    (go : vh_Go code (fun r σ => r = none ∧ σ.1 = cs ∧ σ.2.1 ≤ mc ∧ σ.2.2 ≤ ms) 0 [(0, .inr (vh_n 0))] [] ([.inl (ci, fs.map .inl)], 0, 0)) : vh_Ini tb nw cl tyl y cc nL d mc ms ci fs cs := by
  refine ⟨hwf, fun l D tys a sz hty => ?_⟩
  refine Met.ofW (cc := cc) (maxL := nL) (ret := none) hy rfl ?_
  intro p e s m args below meth c s₁ B hml hv
  obtain ⟨rfl, hsz, hP, hK, hnw⟩ := hv
  have hx := B.exec
  have hb := B.bytes
  have hr := B.returns
  have hts : ∀ w ∈ tb, w.before ([Value.ref a] : List Value).toArray s = true := fun w h => atoms_spec (ws := .code y cc nL none :: tb) B.pre w (List.mem_cons_of_mem _ h)
  have ho : s.vm.findClass own = some m.cls := by rw [← hown]; exact findClass_of_methodNamed B.named
  have hlocks := B.notSynchronized
  have hin : meth.name = "<init>" := (name_of_methodNamed B.named B.method).1.trans hyn
  subst hsz
  have C0 : vh_C tb nw cl tyl cc nL own none d mc ms true p { frames := d, cells := mc, slots := ms, locals := 32 * d } s m ([Value.ref a] : List Value).toArray meth c D tys (va_A [(a, .inr (ci, fs))] s.heap.size) := ⟨hx, hb, hml, ho, hts, hK, hty, hr, hlocks, ⟨Nat.le_refl _, Nat.le_refl _⟩, fun q h => Or.inr h, ⟨Nat.le_refl _, Nat.le_refl _⟩, fun _ => hin, hnw⟩
  have E0 : vh_E cl cc none p l e { frames := d, cells := mc, slots := ms, locals := 32 * d } s m ([Value.ref a] : List Value).toArray below meth c D tys 1 (fun _ => a) (va_A [(a, .inr (ci, fs))] s.heap.size) (fun r σ => r = none ∧ σ.1 = cs ∧ σ.2.1 ≤ mc ∧ σ.2.2 ≤ ms) (MQ below (fun _ st oc t => (oc = .returned none ∧ ∃ ad : vgN → Nat, va_P D cl (vh_ws ad tys cs) t.heap ∧ va_D (va_A [(a, .inr (ci, fs))] s.heap.size) (vh_ws ad tys cs) ∧ ad (vh_n 0) = a) ∧ va_F (va_A [(a, .inr (ci, fs))] s.heap.size) st t) ([Value.ref a] : List Value).toArray s mc ms (va_A [(a, .inr (ci, fs))] s.heap.size)) := by
    intro r σ pc ad ls H locs hp hok hag hw hP' hD' hS hk
    obtain ⟨rfl, h1, h2, h3⟩ := hp
    refine W.widen (k := mc) (n := ms) h2 h3 ?_
    exact vm_leave (r := none) (ad := ad) hx hb hr hlocks hk hS.2.2 (fun t ht => ⟨⟨rfl, ad, by rw [ht, ← h1]; exact hP', by rw [← h1]; exact hD', hag 0 (by decide)⟩, hS.F ht⟩)
  have hl := lv_entry ([.ref a] : List Value) (n := nL) (by show 1 ≤ nL; exact hnL)
  rw [lg_entry_eq]
  have hwe : vh_ws (fun _ => a) tys [.inl (ci, fs.map .inl)] = [(a, .inr (ci, fs))] := by
    show [(a, Sum.inr (ci, (fs.map Sum.inl).map (vg_cv _)))] = _
    rw [List.map_map]
    have e : (vg_cv (fun _ => a) ∘ (Sum.inl : Value → vgV)) = id := by funext v; rfl
    rw [e, List.map_id]
  refine vh_sound hs C0 E0 go (fun _ => a) s.heap [] _ (fun _ _ => rfl) hl (fun q hq => ?_) (fun v h => by cases h) ⟨Nat.le_refl _, fun c hc => ?_⟩ (by rw [hwe]; exact hP) ?_ va_S.rf
  · rw [List.mem_singleton.mp hq]
    exact vh_N_in (Nat.zero_lt_one)
  · rw [List.mem_singleton.mp hc]
    intro v hv
    obtain ⟨w, -, rfl⟩ := List.mem_map.mp hv
    exact trivial
  · rw [hwe]
    refine ⟨fun i j p q hi hj _ => ?_, fun k q hk => ?_⟩
    · have h1 : i < 1 := (List.getElem?_eq_some_iff.mp hi).1
      have h2 : j < 1 := (List.getElem?_eq_some_iff.mp hj).1
      omega
    · have h1 : k < 1 := (List.getElem?_eq_some_iff.mp hk).1
      have h2 : k = 0 := by omega
      subst h2
      cases hk
      exact Or.inl ⟨0, _, rfl⟩
end
section
/-! the machine vh: instructions that touch no cell (laid by program out of those of vg) -/
def hi_no : vhF := fun _ _ _ _ _ => False
def hi_icst (v : Int32) (n : Nat) : vhF := fun _ K lv st σ => K n lv (.inl (.int v) :: st) σ
def hi_lcst (v : Int64) (n : Nat) : vhF := fun _ K lv st σ => K n lv (.inl (.long v) :: st) σ
def hi_iload (i n : Nat) : vhF := fun _ K lv st σ => match vg_look lv i with
  | some (.inl (.int x)) => K n lv (.inl (.int x) :: st) σ
  | _ => False
def hi_lload (i n : Nat) : vhF := fun _ K lv st σ => match vg_look lv i with
  | some (.inl (.long x)) => K n lv (.inl (.long x) :: st) σ
  | _ => False
def hi_aload (i n : Nat) : vhF := fun _ K lv st σ => match vg_look lv i with
  | some (.inr x) => K n lv (.inr x :: st) σ
  | _ => False
def hi_istore (i n : Nat) : vhF := fun _ K lv st σ => match st with
  | .inl (.int x) :: t => K n (vg_put lv i (.inl (.int x))) t σ
  | _ => False
def hi_lstore (i n : Nat) : vhF := fun _ K lv st σ => match st with
  | .inl (.long x) :: t => K n (vg_put2 lv i (.inl (.long x))) t σ
  | _ => False
def hi_astore (i n : Nat) : vhF := fun _ K lv st σ => match st with
  | .inr x :: t => K n (vg_put lv i (.inr x)) t σ
  | _ => False
def hi_iinc (i : Nat) (v : Int32) (n : Nat) : vhF := fun _ K lv st σ => match vg_look lv i with
  | some (.inl (.int x)) => K n (vg_put lv i (.inl (.int (x + v)))) st σ
  | _ => False
def hi_bin (f : Int32 → Int32 → Int32) (n : Nat) : vhF := fun _ K lv st σ => match st with
  | .inl (.int y) :: .inl (.int x) :: t => K n lv (.inl (.int (f x y)) :: t) σ
  | _ => False
def hi_div (f : Int32 → Int32 → Int32) (n : Nat) : vhF := fun _ K lv st σ => match st with
  | .inl (.int y) :: .inl (.int x) :: t => ¬ y = 0 ∧ K n lv (.inl (.int (f x y)) :: t) σ
  | _ => False
def hi_un (f : Int32 → Int32) (n : Nat) : vhF := fun _ K lv st σ => match st with
  | .inl (.int x) :: t => K n lv (.inl (.int (f x)) :: t) σ
  | _ => False
def hi_lbin (f : Int64 → Int64 → Int64) (n : Nat) : vhF := fun _ K lv st σ => match st with
  | .inl (.long y) :: .inl (.long x) :: t => K n lv (.inl (.long (f x y)) :: t) σ
  | _ => False
def hi_i2l (n : Nat) : vhF := fun _ K lv st σ => match st with
  | .inl (.int x) :: t => K n lv (.inl (.long x.toInt64) :: t) σ
  | _ => False
def hi_if (c : Int32 → Prop) (g n : Nat) : vhF := fun _ K lv st σ => match st with
  | .inl (.int x) :: t => (c x → K g lv t σ) ∧ (¬ c x → K n lv t σ)
  | _ => False
def hi_cmp (c : Int32 → Int32 → Prop) (g n : Nat) : vhF := fun _ K lv st σ => match st with
  | .inl (.int y) :: .inl (.int x) :: t => (c x y → K g lv t σ) ∧ (¬ c x y → K n lv t σ)
  | _ => False
def hi_goto (g : Nat) : vhF := fun _ K lv st σ => K g lv st σ
def hi_dup (n : Nat) : vhF := fun _ K lv st σ => match st with
  | a :: t => vg_c2 a = false ∧ K n lv (a :: a :: t) σ
  | _ => False
def hi_pop (n : Nat) : vhF := fun _ K lv st σ => match st with
  | a :: t => vg_c2 a = false ∧ K n lv t σ
  | _ => False
def hi_dupx1 (n : Nat) : vhF := fun _ K lv st σ => match st with
  | a :: b :: t => (vg_c2 a = false ∧ vg_c2 b = false) ∧ K n lv (a :: b :: a :: t) σ
  | _ => False
def hi_dup2 (n : Nat) : vhF := fun _ K lv st σ => match st with
  | a :: b :: t => (vg_c2 a = false ∧ vg_c2 b = false) ∧ K n lv (a :: b :: a :: b :: t) σ
  | _ => False
def hi_ret : vhF := fun P _ _ st σ => match st with
  | [.inl (.int x)] => P (some (.inl (.int x))) σ
  | _ => False
def hi_retL : vhF := fun P _ _ st σ => match st with
  | [.inl (.long x)] => P (some (.inl (.long x))) σ
  | _ => False
def hi_retV : vhF := fun P _ _ st σ => match st with
  | [] => P none σ
  | _ => False

section HT
variable {tb : List Cond} {nw : vhW} {cl : List vw_C} {tyl : List FieldType} {cc : ByteArray} {nL : Nat} {own : String} {ret : Option FieldType} {d Rc Rs : Nat} {ini : Bool} {pc n : Nat}
theorem hs_m1 {F : (vhK → vgL → vgT → vhT → Prop)} (h : ∀ (K K' : vhK), (∀ pc lv st σ, K pc lv st σ → K' pc lv st σ) → ∀ lv st σ, F K lv st σ → F K' lv st σ) : vh_Mono (fun _ => F) := fun _ K K' => h K K'
theorem ht_iconst {z : Int} {v : Int32} (hd : decode cc pc = .ok (.iconst z, 1)) (hv : Int32.ofInt z = v) (hn : pc + 1 = n) : vh_Snd tb nw cl tyl cc nL own ret d Rc Rs ini pc (hi_icst v n) := by
  subst hn
  refine ⟨fun P K K' h lv st σ g => h _ _ _ _ g, ?_⟩
  intro p l e R s m args below meth c D tys n0 ad0 A P Z C0 E0 lv st σ h ad H locs ls hag hl ho hs hwf hP hD hS
  exact lv_iconst C0.1 C0.2.1 hd hv (h ad H locs ls hag hl ho (vg_okc trivial hs) hwf hP hD hS)
theorem ht_bipush {z : Int} {v : Int32} (hd : decode cc pc = .ok (.bipush z, 2)) (hv : (Int8.ofInt z).toInt32 = v) (hn : pc + 2 = n) : vh_Snd tb nw cl tyl cc nL own ret d Rc Rs ini pc (hi_icst v n) := by
  subst hn
  refine ⟨fun P K K' h lv st σ g => h _ _ _ _ g, ?_⟩
  intro p l e R s m args below meth c D tys n0 ad0 A P Z C0 E0 lv st σ h ad H locs ls hag hl ho hs hwf hP hD hS
  exact lv_bipush C0.1 C0.2.1 hd hv (h ad H locs ls hag hl ho (vg_okc trivial hs) hwf hP hD hS)
theorem ht_sipush {z : Int} {v : Int32} (hd : decode cc pc = .ok (.sipush z, 3)) (hv : (Int16.ofInt z).toInt32 = v) (hn : pc + 3 = n) : vh_Snd tb nw cl tyl cc nL own ret d Rc Rs ini pc (hi_icst v n) := by
  subst hn
  refine ⟨fun P K K' h lv st σ g => h _ _ _ _ g, ?_⟩
  intro p l e R s m args below meth c D tys n0 ad0 A P Z C0 E0 lv st σ h ad H locs ls hag hl ho hs hwf hP hD hS
  exact lv_sipush C0.1 C0.2.1 hd hv (h ad H locs ls hag hl ho (vg_okc trivial hs) hwf hP hD hS)
theorem ht_ldc {ix : Nat} {v : Int32} (hd : decode cc pc = .ok (.ldc ix, 2)) (hw : Cond.constant own ix v ∈ tb) (hn : pc + 2 = n) : vh_Snd tb nw cl tyl cc nL own ret d Rc Rs ini pc (hi_icst v n) := by
  subst hn
  refine ⟨fun P K K' h lv st σ g => h _ _ _ _ g, ?_⟩
  intro p l e R s m args below meth c D tys n0 ad0 A P Z C0 E0 lv st σ h ad H locs ls hag hl ho hs hwf hP hD hS
  exact lv_ldc C0.1 C0.2.1 C0.2.2.2.1 (C0.2.2.2.2.1 _ hw) hd (h ad H locs ls hag hl ho (vg_okc trivial hs) hwf hP hD hS)
theorem ht_ldcw {ix : Nat} {v : Int32} (hd : decode cc pc = .ok (.ldc_w ix, 3)) (hw : Cond.constant own ix v ∈ tb) (hn : pc + 3 = n) : vh_Snd tb nw cl tyl cc nL own ret d Rc Rs ini pc (hi_icst v n) := by
  subst hn
  refine ⟨fun P K K' h lv st σ g => h _ _ _ _ g, ?_⟩
  intro p l e R s m args below meth c D tys n0 ad0 A P Z C0 E0 lv st σ h ad H locs ls hag hl ho hs hwf hP hD hS
  exact lv_ldcw C0.1 C0.2.1 C0.2.2.2.1 (C0.2.2.2.2.1 _ hw) hd (h ad H locs ls hag hl ho (vg_okc trivial hs) hwf hP hD hS)
theorem ht_ldc2 {ix : Nat} {v : Int64} (hd : decode cc pc = .ok (.ldc2_w ix, 3)) (hw : Cond.constantLong own ix v ∈ tb) (hn : pc + 3 = n) : vh_Snd tb nw cl tyl cc nL own ret d Rc Rs ini pc (hi_lcst v n) := by
  subst hn
  refine ⟨fun P K K' h lv st σ g => h _ _ _ _ g, ?_⟩
  intro p l e R s m args below meth c D tys n0 ad0 A P Z C0 E0 lv st σ h ad H locs ls hag hl ho hs hwf hP hD hS
  exact lv_ldc2 C0.1 C0.2.1 C0.2.2.2.1 (C0.2.2.2.2.1 _ hw) hd (h ad H locs ls hag hl ho (vg_okc trivial hs) hwf hP hD hS)
theorem ht_iload_n {k : Fin 4} {i : Nat} (hd : decode cc pc = .ok (.iload_n k, 1)) (hi : (k : Nat) = i) (hn : pc + 1 = n) : vh_Snd tb nw cl tyl cc nL own ret d Rc Rs ini pc (hi_iload i n) := by
  subst hn
  refine ⟨hs_m1 fun K K' h lv st σ g => ?_, ?_⟩
  · split at g
    · exact h _ _ _ _ g
    · exact g
  intro p l e R s m args below meth c D tys n0 ad0 A P Z C0 E0 lv st σ h ad H locs ls hag hl ho hs hwf hP hD hS
  unfold hi_iload at h
  split at h
  next x hx => exact lv_iload_n C0.1 C0.2.1 hd hi (vg_lm_at hl hx) (h ad H locs ls hag hl ho (vg_okc trivial hs) hwf hP hD hS)
  next => exact h.elim
theorem ht_iload {i : Nat} (hd : decode cc pc = .ok (.iload i, 2)) (hn : pc + 2 = n) : vh_Snd tb nw cl tyl cc nL own ret d Rc Rs ini pc (hi_iload i n) := by
  subst hn
  refine ⟨hs_m1 fun K K' h lv st σ g => ?_, ?_⟩
  · split at g
    · exact h _ _ _ _ g
    · exact g
  intro p l e R s m args below meth c D tys n0 ad0 A P Z C0 E0 lv st σ h ad H locs ls hag hl ho hs hwf hP hD hS
  unfold hi_iload at h
  split at h
  next x hx => exact lv_iload C0.1 C0.2.1 hd (vg_lm_at hl hx) (h ad H locs ls hag hl ho (vg_okc trivial hs) hwf hP hD hS)
  next => exact h.elim
theorem ht_lload_n {k : Fin 4} {i : Nat} (hd : decode cc pc = .ok (.lload_n k, 1)) (hi : (k : Nat) = i) (hn : pc + 1 = n) : vh_Snd tb nw cl tyl cc nL own ret d Rc Rs ini pc (hi_lload i n) := by
  subst hn
  refine ⟨hs_m1 fun K K' h lv st σ g => ?_, ?_⟩
  · split at g
    · exact h _ _ _ _ g
    · exact g
  intro p l e R s m args below meth c D tys n0 ad0 A P Z C0 E0 lv st σ h ad H locs ls hag hl ho hs hwf hP hD hS
  unfold hi_lload at h
  split at h
  next x hx => exact lv_lload_n C0.1 C0.2.1 hd hi (vg_lm_at hl hx) (h ad H locs ls hag hl ho (vg_okc trivial hs) hwf hP hD hS)
  next => exact h.elim
theorem ht_lload {i : Nat} (hd : decode cc pc = .ok (.lload i, 2)) (hn : pc + 2 = n) : vh_Snd tb nw cl tyl cc nL own ret d Rc Rs ini pc (hi_lload i n) := by
  subst hn
  refine ⟨hs_m1 fun K K' h lv st σ g => ?_, ?_⟩
  · split at g
    · exact h _ _ _ _ g
    · exact g
  intro p l e R s m args below meth c D tys n0 ad0 A P Z C0 E0 lv st σ h ad H locs ls hag hl ho hs hwf hP hD hS
  unfold hi_lload at h
  split at h
  next x hx => exact lv_lload C0.1 C0.2.1 hd (vg_lm_at hl hx) (h ad H locs ls hag hl ho (vg_okc trivial hs) hwf hP hD hS)
  next => exact h.elim
theorem ht_aload_n {k : Fin 4} {i : Nat} (hd : decode cc pc = .ok (.aload_n k, 1)) (hi : (k : Nat) = i) (hn : pc + 1 = n) : vh_Snd tb nw cl tyl cc nL own ret d Rc Rs ini pc (hi_aload i n) := by
  subst hn
  refine ⟨hs_m1 fun K K' h lv st σ g => ?_, ?_⟩
  · split at g
    · exact h _ _ _ _ g
    · exact g
  intro p l e R s m args below meth c D tys n0 ad0 A P Z C0 E0 lv st σ h ad H locs ls hag hl ho hs hwf hP hD hS
  unfold hi_aload at h
  split at h
  next x hx => exact lv_aload_n C0.1 C0.2.1 hd hi (vg_lm_at hl hx) (h ad H locs ls hag hl ho (vg_okc (vg_okl ho hx) hs) hwf hP hD hS)
  next => exact h.elim
theorem ht_aload {i : Nat} (hd : decode cc pc = .ok (.aload i, 2)) (hn : pc + 2 = n) : vh_Snd tb nw cl tyl cc nL own ret d Rc Rs ini pc (hi_aload i n) := by
  subst hn
  refine ⟨hs_m1 fun K K' h lv st σ g => ?_, ?_⟩
  · split at g
    · exact h _ _ _ _ g
    · exact g
  intro p l e R s m args below meth c D tys n0 ad0 A P Z C0 E0 lv st σ h ad H locs ls hag hl ho hs hwf hP hD hS
  unfold hi_aload at h
  split at h
  next x hx => exact lv_aload C0.1 C0.2.1 hd (vg_lm_at hl hx) (h ad H locs ls hag hl ho (vg_okc (vg_okl ho hx) hs) hwf hP hD hS)
  next => exact h.elim
theorem ht_istore_n {k : Fin 4} {i : Nat} (hd : decode cc pc = .ok (.istore_n k, 1)) (hi : (k : Nat) = i) (hL : i < nL) (hn : pc + 1 = n) : vh_Snd tb nw cl tyl cc nL own ret d Rc Rs ini pc (hi_istore i n) := by
  subst hn
  refine ⟨hs_m1 fun K K' h lv st σ g => ?_, ?_⟩
  · split at g
    · exact h _ _ _ _ g
    · exact g
  intro p l e R s m args below meth c D tys n0 ad0 A P Z C0 E0 lv st σ h ad H locs ls hag hl ho hs hwf hP hD hS
  unfold hi_istore at h
  split at h
  next x t => exact lv_istore_n C0.1 C0.2.1 hd hi hl hL (vg_lm_put ad lv i (.inl (.int x))) (fun ls' hl' => h ad H locs ls' hag hl' (vg_ok_put ho trivial) (vg_okt hs) hwf hP hD hS)
  next => exact h.elim
theorem ht_istore {i : Nat} (hd : decode cc pc = .ok (.istore i, 2)) (hL : i < nL) (hn : pc + 2 = n) : vh_Snd tb nw cl tyl cc nL own ret d Rc Rs ini pc (hi_istore i n) := by
  subst hn
  refine ⟨hs_m1 fun K K' h lv st σ g => ?_, ?_⟩
  · split at g
    · exact h _ _ _ _ g
    · exact g
  intro p l e R s m args below meth c D tys n0 ad0 A P Z C0 E0 lv st σ h ad H locs ls hag hl ho hs hwf hP hD hS
  unfold hi_istore at h
  split at h
  next x t => exact lv_istore C0.1 C0.2.1 hd hl hL (vg_lm_put ad lv i (.inl (.int x))) (fun ls' hl' => h ad H locs ls' hag hl' (vg_ok_put ho trivial) (vg_okt hs) hwf hP hD hS)
  next => exact h.elim
theorem ht_lstore_n {k : Fin 4} {i : Nat} (hd : decode cc pc = .ok (.lstore_n k, 1)) (hi : (k : Nat) = i) (hL : i + 1 < nL) (hn : pc + 1 = n) : vh_Snd tb nw cl tyl cc nL own ret d Rc Rs ini pc (hi_lstore i n) := by
  subst hn
  refine ⟨hs_m1 fun K K' h lv st σ g => ?_, ?_⟩
  · split at g
    · exact h _ _ _ _ g
    · exact g
  intro p l e R s m args below meth c D tys n0 ad0 A P Z C0 E0 lv st σ h ad H locs ls hag hl ho hs hwf hP hD hS
  unfold hi_lstore at h
  split at h
  next x t => exact lv_lstore_n C0.1 C0.2.1 hd hi hl hL (vg_lm_put2 ad lv i (.inl (.long x))) (fun ls' hl' => h ad H locs ls' hag hl' (vg_ok_put2 ho trivial) (vg_okt hs) hwf hP hD hS)
  next => exact h.elim
theorem ht_lstore {i : Nat} (hd : decode cc pc = .ok (.lstore i, 2)) (hL : i + 1 < nL) (hn : pc + 2 = n) : vh_Snd tb nw cl tyl cc nL own ret d Rc Rs ini pc (hi_lstore i n) := by
  subst hn
  refine ⟨hs_m1 fun K K' h lv st σ g => ?_, ?_⟩
  · split at g
    · exact h _ _ _ _ g
    · exact g
  intro p l e R s m args below meth c D tys n0 ad0 A P Z C0 E0 lv st σ h ad H locs ls hag hl ho hs hwf hP hD hS
  unfold hi_lstore at h
  split at h
  next x t => exact lv_lstore C0.1 C0.2.1 hd hl hL (vg_lm_put2 ad lv i (.inl (.long x))) (fun ls' hl' => h ad H locs ls' hag hl' (vg_ok_put2 ho trivial) (vg_okt hs) hwf hP hD hS)
  next => exact h.elim
theorem ht_astore_n {k : Fin 4} {i : Nat} (hd : decode cc pc = .ok (.astore_n k, 1)) (hi : (k : Nat) = i) (hL : i < nL) (hn : pc + 1 = n) : vh_Snd tb nw cl tyl cc nL own ret d Rc Rs ini pc (hi_astore i n) := by
  subst hn
  refine ⟨hs_m1 fun K K' h lv st σ g => ?_, ?_⟩
  · split at g
    · exact h _ _ _ _ g
    · exact g
  intro p l e R s m args below meth c D tys n0 ad0 A P Z C0 E0 lv st σ h ad H locs ls hag hl ho hs hwf hP hD hS
  unfold hi_astore at h
  split at h
  next x t => exact lv_astore_n C0.1 C0.2.1 hd hi hl hL (vg_lm_put ad lv i (.inr x)) (fun ls' hl' => h ad H locs ls' hag hl' (vg_ok_put ho (vg_okh hs)) (vg_okt hs) hwf hP hD hS)
  next => exact h.elim
theorem ht_astore {i : Nat} (hd : decode cc pc = .ok (.astore i, 2)) (hL : i < nL) (hn : pc + 2 = n) : vh_Snd tb nw cl tyl cc nL own ret d Rc Rs ini pc (hi_astore i n) := by
  subst hn
  refine ⟨hs_m1 fun K K' h lv st σ g => ?_, ?_⟩
  · split at g
    · exact h _ _ _ _ g
    · exact g
  intro p l e R s m args below meth c D tys n0 ad0 A P Z C0 E0 lv st σ h ad H locs ls hag hl ho hs hwf hP hD hS
  unfold hi_astore at h
  split at h
  next x t => exact lv_astore C0.1 C0.2.1 hd hl hL (vg_lm_put ad lv i (.inr x)) (fun ls' hl' => h ad H locs ls' hag hl' (vg_ok_put ho (vg_okh hs)) (vg_okt hs) hwf hP hD hS)
  next => exact h.elim
theorem ht_iinc {i : Nat} {z : Int} {v : Int32} (hd : decode cc pc = .ok (.iinc i z, 3)) (hv : Int32.ofInt z = v) (hn : pc + 3 = n) : vh_Snd tb nw cl tyl cc nL own ret d Rc Rs ini pc (hi_iinc i v n) := by
  subst hn
  refine ⟨hs_m1 fun K K' h lv st σ g => ?_, ?_⟩
  · split at g
    · exact h _ _ _ _ g
    · exact g
  intro p l e R s m args below meth c D tys n0 ad0 A P Z C0 E0 lv st σ h ad H locs ls hag hl ho hs hwf hP hD hS
  unfold hi_iinc at h
  split at h
  next x hx =>
    obtain ⟨k, hk⟩ := List.getElem?_of_mem (vg_look_mem hx)
    exact lv_iinc (k := k) C0.1 C0.2.1 hd hl (by unfold vg_lm; rw [List.getElem?_map, hk]; rfl) (by rw [hv]) (vg_lms hl hx) (vg_lm_put ad lv i (.inl (.int (x + v)))) (fun ls' hl' => h ad H locs ls' hag hl' (vg_ok_put ho trivial) hs hwf hP hD hS)
  next => exact h.elim
theorem ht_iadd (hd : decode cc pc = .ok (.iadd, 1)) (hn : pc + 1 = n) : vh_Snd tb nw cl tyl cc nL own ret d Rc Rs ini pc (hi_bin (fun x y => x + y) n) := by
  subst hn
  refine ⟨hs_m1 fun K K' h lv st σ g => ?_, ?_⟩
  · split at g
    · exact h _ _ _ _ g
    · exact g
  intro p l e R s m args below meth c D tys n0 ad0 A P Z C0 E0 lv st σ h ad H locs ls hag hl ho hs hwf hP hD hS
  unfold hi_bin at h
  split at h
  next y x t => exact lv_iadd C0.1 C0.2.1 hd (h ad H locs ls hag hl ho (vg_okc trivial (vg_okt (vg_okt hs))) hwf hP hD hS)
  next => exact h.elim
theorem ht_isub (hd : decode cc pc = .ok (.isub, 1)) (hn : pc + 1 = n) : vh_Snd tb nw cl tyl cc nL own ret d Rc Rs ini pc (hi_bin (fun x y => x - y) n) := by
  subst hn
  refine ⟨hs_m1 fun K K' h lv st σ g => ?_, ?_⟩
  · split at g
    · exact h _ _ _ _ g
    · exact g
  intro p l e R s m args below meth c D tys n0 ad0 A P Z C0 E0 lv st σ h ad H locs ls hag hl ho hs hwf hP hD hS
  unfold hi_bin at h
  split at h
  next y x t => exact lv_isub C0.1 C0.2.1 hd (h ad H locs ls hag hl ho (vg_okc trivial (vg_okt (vg_okt hs))) hwf hP hD hS)
  next => exact h.elim
theorem ht_imul (hd : decode cc pc = .ok (.imul, 1)) (hn : pc + 1 = n) : vh_Snd tb nw cl tyl cc nL own ret d Rc Rs ini pc (hi_bin (fun x y => x * y) n) := by
  subst hn
  refine ⟨hs_m1 fun K K' h lv st σ g => ?_, ?_⟩
  · split at g
    · exact h _ _ _ _ g
    · exact g
  intro p l e R s m args below meth c D tys n0 ad0 A P Z C0 E0 lv st σ h ad H locs ls hag hl ho hs hwf hP hD hS
  unfold hi_bin at h
  split at h
  next y x t => exact lv_imul C0.1 C0.2.1 hd (h ad H locs ls hag hl ho (vg_okc trivial (vg_okt (vg_okt hs))) hwf hP hD hS)
  next => exact h.elim
theorem ht_iand (hd : decode cc pc = .ok (.iand, 1)) (hn : pc + 1 = n) : vh_Snd tb nw cl tyl cc nL own ret d Rc Rs ini pc (hi_bin (fun x y => x &&& y) n) := by
  subst hn
  refine ⟨hs_m1 fun K K' h lv st σ g => ?_, ?_⟩
  · split at g
    · exact h _ _ _ _ g
    · exact g
  intro p l e R s m args below meth c D tys n0 ad0 A P Z C0 E0 lv st σ h ad H locs ls hag hl ho hs hwf hP hD hS
  unfold hi_bin at h
  split at h
  next y x t => exact lv_iand C0.1 C0.2.1 hd (h ad H locs ls hag hl ho (vg_okc trivial (vg_okt (vg_okt hs))) hwf hP hD hS)
  next => exact h.elim
theorem ht_ior (hd : decode cc pc = .ok (.ior, 1)) (hn : pc + 1 = n) : vh_Snd tb nw cl tyl cc nL own ret d Rc Rs ini pc (hi_bin (fun x y => x ||| y) n) := by
  subst hn
  refine ⟨hs_m1 fun K K' h lv st σ g => ?_, ?_⟩
  · split at g
    · exact h _ _ _ _ g
    · exact g
  intro p l e R s m args below meth c D tys n0 ad0 A P Z C0 E0 lv st σ h ad H locs ls hag hl ho hs hwf hP hD hS
  unfold hi_bin at h
  split at h
  next y x t => exact lv_ior C0.1 C0.2.1 hd (h ad H locs ls hag hl ho (vg_okc trivial (vg_okt (vg_okt hs))) hwf hP hD hS)
  next => exact h.elim
theorem ht_ixor (hd : decode cc pc = .ok (.ixor, 1)) (hn : pc + 1 = n) : vh_Snd tb nw cl tyl cc nL own ret d Rc Rs ini pc (hi_bin (fun x y => x ^^^ y) n) := by
  subst hn
  refine ⟨hs_m1 fun K K' h lv st σ g => ?_, ?_⟩
  · split at g
    · exact h _ _ _ _ g
    · exact g
  intro p l e R s m args below meth c D tys n0 ad0 A P Z C0 E0 lv st σ h ad H locs ls hag hl ho hs hwf hP hD hS
  unfold hi_bin at h
  split at h
  next y x t => exact lv_ixor C0.1 C0.2.1 hd (h ad H locs ls hag hl ho (vg_okc trivial (vg_okt (vg_okt hs))) hwf hP hD hS)
  next => exact h.elim
theorem ht_ishl (hd : decode cc pc = .ok (.ishl, 1)) (hn : pc + 1 = n) : vh_Snd tb nw cl tyl cc nL own ret d Rc Rs ini pc (hi_bin (fun x y => x <<< (y &&& 31)) n) := by
  subst hn
  refine ⟨hs_m1 fun K K' h lv st σ g => ?_, ?_⟩
  · split at g
    · exact h _ _ _ _ g
    · exact g
  intro p l e R s m args below meth c D tys n0 ad0 A P Z C0 E0 lv st σ h ad H locs ls hag hl ho hs hwf hP hD hS
  unfold hi_bin at h
  split at h
  next y x t => exact lv_ishl C0.1 C0.2.1 hd (h ad H locs ls hag hl ho (vg_okc trivial (vg_okt (vg_okt hs))) hwf hP hD hS)
  next => exact h.elim
theorem ht_ishr (hd : decode cc pc = .ok (.ishr, 1)) (hn : pc + 1 = n) : vh_Snd tb nw cl tyl cc nL own ret d Rc Rs ini pc (hi_bin (fun x y => x >>> (y &&& 31)) n) := by
  subst hn
  refine ⟨hs_m1 fun K K' h lv st σ g => ?_, ?_⟩
  · split at g
    · exact h _ _ _ _ g
    · exact g
  intro p l e R s m args below meth c D tys n0 ad0 A P Z C0 E0 lv st σ h ad H locs ls hag hl ho hs hwf hP hD hS
  unfold hi_bin at h
  split at h
  next y x t => exact lv_ishr C0.1 C0.2.1 hd (h ad H locs ls hag hl ho (vg_okc trivial (vg_okt (vg_okt hs))) hwf hP hD hS)
  next => exact h.elim
theorem ht_idiv (hd : decode cc pc = .ok (.idiv, 1)) (hn : pc + 1 = n) : vh_Snd tb nw cl tyl cc nL own ret d Rc Rs ini pc (hi_div (fun x y => x / y) n) := by
  subst hn
  refine ⟨hs_m1 fun K K' h lv st σ g => ?_, ?_⟩
  · split at g
    · exact ⟨g.1, h _ _ _ _ g.2⟩
    · exact g
  intro p l e R s m args below meth c D tys n0 ad0 A P Z C0 E0 lv st σ h ad H locs ls hag hl ho hs hwf hP hD hS
  unfold hi_div at h
  split at h
  next y x t => exact lv_idiv C0.1 C0.2.1 hd h.1 (h.2 ad H locs ls hag hl ho (vg_okc trivial (vg_okt (vg_okt hs))) hwf hP hD hS)
  next => exact h.elim
theorem ht_irem (hd : decode cc pc = .ok (.irem, 1)) (hn : pc + 1 = n) : vh_Snd tb nw cl tyl cc nL own ret d Rc Rs ini pc (hi_div (fun x y => x - x / y * y) n) := by
  subst hn
  refine ⟨hs_m1 fun K K' h lv st σ g => ?_, ?_⟩
  · split at g
    · exact ⟨g.1, h _ _ _ _ g.2⟩
    · exact g
  intro p l e R s m args below meth c D tys n0 ad0 A P Z C0 E0 lv st σ h ad H locs ls hag hl ho hs hwf hP hD hS
  unfold hi_div at h
  split at h
  next y x t => exact lv_irem C0.1 C0.2.1 hd h.1 (h.2 ad H locs ls hag hl ho (vg_okc trivial (vg_okt (vg_okt hs))) hwf hP hD hS)
  next => exact h.elim
theorem ht_ladd (hd : decode cc pc = .ok (.ladd, 1)) (hn : pc + 1 = n) : vh_Snd tb nw cl tyl cc nL own ret d Rc Rs ini pc (hi_lbin (fun x y => x + y) n) := by
  subst hn
  refine ⟨hs_m1 fun K K' h lv st σ g => ?_, ?_⟩
  · split at g
    · exact h _ _ _ _ g
    · exact g
  intro p l e R s m args below meth c D tys n0 ad0 A P Z C0 E0 lv st σ h ad H locs ls hag hl ho hs hwf hP hD hS
  unfold hi_lbin at h
  split at h
  next y x t => exact lv_ladd C0.1 C0.2.1 hd (h ad H locs ls hag hl ho (vg_okc trivial (vg_okt (vg_okt hs))) hwf hP hD hS)
  next => exact h.elim
theorem ht_lmul (hd : decode cc pc = .ok (.lmul, 1)) (hn : pc + 1 = n) : vh_Snd tb nw cl tyl cc nL own ret d Rc Rs ini pc (hi_lbin (fun x y => x * y) n) := by
  subst hn
  refine ⟨hs_m1 fun K K' h lv st σ g => ?_, ?_⟩
  · split at g
    · exact h _ _ _ _ g
    · exact g
  intro p l e R s m args below meth c D tys n0 ad0 A P Z C0 E0 lv st σ h ad H locs ls hag hl ho hs hwf hP hD hS
  unfold hi_lbin at h
  split at h
  next y x t => exact lv_lmul C0.1 C0.2.1 hd (h ad H locs ls hag hl ho (vg_okc trivial (vg_okt (vg_okt hs))) hwf hP hD hS)
  next => exact h.elim
theorem ht_i2l (hd : decode cc pc = .ok (.i2l, 1)) (hn : pc + 1 = n) : vh_Snd tb nw cl tyl cc nL own ret d Rc Rs ini pc (hi_i2l n) := by
  subst hn
  refine ⟨hs_m1 fun K K' h lv st σ g => ?_, ?_⟩
  · split at g
    · exact h _ _ _ _ g
    · exact g
  intro p l e R s m args below meth c D tys n0 ad0 A P Z C0 E0 lv st σ h ad H locs ls hag hl ho hs hwf hP hD hS
  unfold hi_i2l at h
  split at h
  next x t => exact lv_i2l C0.1 C0.2.1 hd rfl (h ad H locs ls hag hl ho (vg_okc trivial (vg_okt hs)) hwf hP hD hS)
  next => exact h.elim
theorem ht_if_eq {off : Int} {g : Nat} (hd : decode cc pc = .ok (.ifCond .eq off, 3)) (ht : (pc : Int) + off = (g : Int)) (hn : pc + 3 = n) : vh_Snd tb nw cl tyl cc nL own ret d Rc Rs ini pc (hi_if (fun x => x = 0) g n) := by
  subst hn
  refine ⟨hs_m1 fun K K' h lv st σ g => ?_, ?_⟩
  · split at g
    · exact ⟨fun q => h _ _ _ _ (g.1 q), fun q => h _ _ _ _ (g.2 q)⟩
    · exact g
  intro p l e R s m args below meth c D tys n0 ad0 A P Z C0 E0 lv st σ h ad H locs ls hag hl ho hs hwf hP hD hS
  unfold hi_if at h
  split at h
  next x t => exact lv_if_eq C0.1 C0.2.1 hd ht (fun q => h.1 q ad H locs ls hag hl ho (vg_okt hs) hwf hP hD hS) (fun q => h.2 q ad H locs ls hag hl ho (vg_okt hs) hwf hP hD hS)
  next => exact h.elim
theorem ht_if_ne {off : Int} {g : Nat} (hd : decode cc pc = .ok (.ifCond .ne off, 3)) (ht : (pc : Int) + off = (g : Int)) (hn : pc + 3 = n) : vh_Snd tb nw cl tyl cc nL own ret d Rc Rs ini pc (hi_if (fun x => x = 0) n g) := by
  subst hn
  refine ⟨hs_m1 fun K K' h lv st σ g => ?_, ?_⟩
  · split at g
    · exact ⟨fun q => h _ _ _ _ (g.1 q), fun q => h _ _ _ _ (g.2 q)⟩
    · exact g
  intro p l e R s m args below meth c D tys n0 ad0 A P Z C0 E0 lv st σ h ad H locs ls hag hl ho hs hwf hP hD hS
  unfold hi_if at h
  split at h
  next x t => exact lv_if_ne C0.1 C0.2.1 hd ht (fun q => h.2 q ad H locs ls hag hl ho (vg_okt hs) hwf hP hD hS) (fun q => h.1 q ad H locs ls hag hl ho (vg_okt hs) hwf hP hD hS)
  next => exact h.elim
theorem ht_if_lt {off : Int} {g : Nat} (hd : decode cc pc = .ok (.ifCond .lt off, 3)) (ht : (pc : Int) + off = (g : Int)) (hn : pc + 3 = n) : vh_Snd tb nw cl tyl cc nL own ret d Rc Rs ini pc (hi_if (fun x => x < 0) g n) := by
  subst hn
  refine ⟨hs_m1 fun K K' h lv st σ g => ?_, ?_⟩
  · split at g
    · exact ⟨fun q => h _ _ _ _ (g.1 q), fun q => h _ _ _ _ (g.2 q)⟩
    · exact g
  intro p l e R s m args below meth c D tys n0 ad0 A P Z C0 E0 lv st σ h ad H locs ls hag hl ho hs hwf hP hD hS
  unfold hi_if at h
  split at h
  next x t => exact lv_if_lt C0.1 C0.2.1 hd ht (fun q => h.1 q ad H locs ls hag hl ho (vg_okt hs) hwf hP hD hS) (fun q => h.2 q ad H locs ls hag hl ho (vg_okt hs) hwf hP hD hS)
  next => exact h.elim
theorem ht_if_ge {off : Int} {g : Nat} (hd : decode cc pc = .ok (.ifCond .ge off, 3)) (ht : (pc : Int) + off = (g : Int)) (hn : pc + 3 = n) : vh_Snd tb nw cl tyl cc nL own ret d Rc Rs ini pc (hi_if (fun x => 0 ≤ x) g n) := by
  subst hn
  refine ⟨hs_m1 fun K K' h lv st σ g => ?_, ?_⟩
  · split at g
    · exact ⟨fun q => h _ _ _ _ (g.1 q), fun q => h _ _ _ _ (g.2 q)⟩
    · exact g
  intro p l e R s m args below meth c D tys n0 ad0 A P Z C0 E0 lv st σ h ad H locs ls hag hl ho hs hwf hP hD hS
  unfold hi_if at h
  split at h
  next x t => exact lv_if_ge C0.1 C0.2.1 hd ht (fun q => h.1 q ad H locs ls hag hl ho (vg_okt hs) hwf hP hD hS) (fun q => h.2 q ad H locs ls hag hl ho (vg_okt hs) hwf hP hD hS)
  next => exact h.elim
theorem ht_if_gt {off : Int} {g : Nat} (hd : decode cc pc = .ok (.ifCond .gt off, 3)) (ht : (pc : Int) + off = (g : Int)) (hn : pc + 3 = n) : vh_Snd tb nw cl tyl cc nL own ret d Rc Rs ini pc (hi_if (fun x => 0 < x) g n) := by
  subst hn
  refine ⟨hs_m1 fun K K' h lv st σ g => ?_, ?_⟩
  · split at g
    · exact ⟨fun q => h _ _ _ _ (g.1 q), fun q => h _ _ _ _ (g.2 q)⟩
    · exact g
  intro p l e R s m args below meth c D tys n0 ad0 A P Z C0 E0 lv st σ h ad H locs ls hag hl ho hs hwf hP hD hS
  unfold hi_if at h
  split at h
  next x t => exact lv_if_gt C0.1 C0.2.1 hd ht (fun q => h.1 q ad H locs ls hag hl ho (vg_okt hs) hwf hP hD hS) (fun q => h.2 q ad H locs ls hag hl ho (vg_okt hs) hwf hP hD hS)
  next => exact h.elim
theorem ht_if_le {off : Int} {g : Nat} (hd : decode cc pc = .ok (.ifCond .le off, 3)) (ht : (pc : Int) + off = (g : Int)) (hn : pc + 3 = n) : vh_Snd tb nw cl tyl cc nL own ret d Rc Rs ini pc (hi_if (fun x => x ≤ 0) g n) := by
  subst hn
  refine ⟨hs_m1 fun K K' h lv st σ g => ?_, ?_⟩
  · split at g
    · exact ⟨fun q => h _ _ _ _ (g.1 q), fun q => h _ _ _ _ (g.2 q)⟩
    · exact g
  intro p l e R s m args below meth c D tys n0 ad0 A P Z C0 E0 lv st σ h ad H locs ls hag hl ho hs hwf hP hD hS
  unfold hi_if at h
  split at h
  next x t => exact lv_if_le C0.1 C0.2.1 hd ht (fun q => h.1 q ad H locs ls hag hl ho (vg_okt hs) hwf hP hD hS) (fun q => h.2 q ad H locs ls hag hl ho (vg_okt hs) hwf hP hD hS)
  next => exact h.elim
theorem ht_cmp_eq {off : Int} {g : Nat} (hd : decode cc pc = .ok (.if_icmp .eq off, 3)) (ht : (pc : Int) + off = (g : Int)) (hn : pc + 3 = n) : vh_Snd tb nw cl tyl cc nL own ret d Rc Rs ini pc (hi_cmp (fun x y => x = y) g n) := by
  subst hn
  refine ⟨hs_m1 fun K K' h lv st σ g => ?_, ?_⟩
  · split at g
    · exact ⟨fun q => h _ _ _ _ (g.1 q), fun q => h _ _ _ _ (g.2 q)⟩
    · exact g
  intro p l e R s m args below meth c D tys n0 ad0 A P Z C0 E0 lv st σ h ad H locs ls hag hl ho hs hwf hP hD hS
  unfold hi_cmp at h
  split at h
  next y x t => exact lv_icmp_eq C0.1 C0.2.1 hd ht (fun q => h.1 q ad H locs ls hag hl ho (vg_okt (vg_okt hs)) hwf hP hD hS) (fun q => h.2 q ad H locs ls hag hl ho (vg_okt (vg_okt hs)) hwf hP hD hS)
  next => exact h.elim
theorem ht_cmp_ne {off : Int} {g : Nat} (hd : decode cc pc = .ok (.if_icmp .ne off, 3)) (ht : (pc : Int) + off = (g : Int)) (hn : pc + 3 = n) : vh_Snd tb nw cl tyl cc nL own ret d Rc Rs ini pc (hi_cmp (fun x y => x = y) n g) := by
  subst hn
  refine ⟨hs_m1 fun K K' h lv st σ g => ?_, ?_⟩
  · split at g
    · exact ⟨fun q => h _ _ _ _ (g.1 q), fun q => h _ _ _ _ (g.2 q)⟩
    · exact g
  intro p l e R s m args below meth c D tys n0 ad0 A P Z C0 E0 lv st σ h ad H locs ls hag hl ho hs hwf hP hD hS
  unfold hi_cmp at h
  split at h
  next y x t => exact lv_icmp_ne C0.1 C0.2.1 hd ht (fun q => h.2 q ad H locs ls hag hl ho (vg_okt (vg_okt hs)) hwf hP hD hS) (fun q => h.1 q ad H locs ls hag hl ho (vg_okt (vg_okt hs)) hwf hP hD hS)
  next => exact h.elim
theorem ht_cmp_lt {off : Int} {g : Nat} (hd : decode cc pc = .ok (.if_icmp .lt off, 3)) (ht : (pc : Int) + off = (g : Int)) (hn : pc + 3 = n) : vh_Snd tb nw cl tyl cc nL own ret d Rc Rs ini pc (hi_cmp (fun x y => x < y) g n) := by
  subst hn
  refine ⟨hs_m1 fun K K' h lv st σ g => ?_, ?_⟩
  · split at g
    · exact ⟨fun q => h _ _ _ _ (g.1 q), fun q => h _ _ _ _ (g.2 q)⟩
    · exact g
  intro p l e R s m args below meth c D tys n0 ad0 A P Z C0 E0 lv st σ h ad H locs ls hag hl ho hs hwf hP hD hS
  unfold hi_cmp at h
  split at h
  next y x t => exact lv_icmp_lt C0.1 C0.2.1 hd ht (fun q => h.1 q ad H locs ls hag hl ho (vg_okt (vg_okt hs)) hwf hP hD hS) (fun q => h.2 q ad H locs ls hag hl ho (vg_okt (vg_okt hs)) hwf hP hD hS)
  next => exact h.elim
theorem ht_cmp_ge {off : Int} {g : Nat} (hd : decode cc pc = .ok (.if_icmp .ge off, 3)) (ht : (pc : Int) + off = (g : Int)) (hn : pc + 3 = n) : vh_Snd tb nw cl tyl cc nL own ret d Rc Rs ini pc (hi_cmp (fun x y => y ≤ x) g n) := by
  subst hn
  refine ⟨hs_m1 fun K K' h lv st σ g => ?_, ?_⟩
  · split at g
    · exact ⟨fun q => h _ _ _ _ (g.1 q), fun q => h _ _ _ _ (g.2 q)⟩
    · exact g
  intro p l e R s m args below meth c D tys n0 ad0 A P Z C0 E0 lv st σ h ad H locs ls hag hl ho hs hwf hP hD hS
  unfold hi_cmp at h
  split at h
  next y x t => exact lv_icmp_ge C0.1 C0.2.1 hd ht (fun q => h.1 q ad H locs ls hag hl ho (vg_okt (vg_okt hs)) hwf hP hD hS) (fun q => h.2 q ad H locs ls hag hl ho (vg_okt (vg_okt hs)) hwf hP hD hS)
  next => exact h.elim
theorem ht_cmp_gt {off : Int} {g : Nat} (hd : decode cc pc = .ok (.if_icmp .gt off, 3)) (ht : (pc : Int) + off = (g : Int)) (hn : pc + 3 = n) : vh_Snd tb nw cl tyl cc nL own ret d Rc Rs ini pc (hi_cmp (fun x y => y < x) g n) := by
  subst hn
  refine ⟨hs_m1 fun K K' h lv st σ g => ?_, ?_⟩
  · split at g
    · exact ⟨fun q => h _ _ _ _ (g.1 q), fun q => h _ _ _ _ (g.2 q)⟩
    · exact g
  intro p l e R s m args below meth c D tys n0 ad0 A P Z C0 E0 lv st σ h ad H locs ls hag hl ho hs hwf hP hD hS
  unfold hi_cmp at h
  split at h
  next y x t => exact lv_icmp_gt C0.1 C0.2.1 hd ht (fun q => h.1 q ad H locs ls hag hl ho (vg_okt (vg_okt hs)) hwf hP hD hS) (fun q => h.2 q ad H locs ls hag hl ho (vg_okt (vg_okt hs)) hwf hP hD hS)
  next => exact h.elim
theorem ht_cmp_le {off : Int} {g : Nat} (hd : decode cc pc = .ok (.if_icmp .le off, 3)) (ht : (pc : Int) + off = (g : Int)) (hn : pc + 3 = n) : vh_Snd tb nw cl tyl cc nL own ret d Rc Rs ini pc (hi_cmp (fun x y => x ≤ y) g n) := by
  subst hn
  refine ⟨hs_m1 fun K K' h lv st σ g => ?_, ?_⟩
  · split at g
    · exact ⟨fun q => h _ _ _ _ (g.1 q), fun q => h _ _ _ _ (g.2 q)⟩
    · exact g
  intro p l e R s m args below meth c D tys n0 ad0 A P Z C0 E0 lv st σ h ad H locs ls hag hl ho hs hwf hP hD hS
  unfold hi_cmp at h
  split at h
  next y x t => exact lv_icmp_le C0.1 C0.2.1 hd ht (fun q => h.1 q ad H locs ls hag hl ho (vg_okt (vg_okt hs)) hwf hP hD hS) (fun q => h.2 q ad H locs ls hag hl ho (vg_okt (vg_okt hs)) hwf hP hD hS)
  next => exact h.elim
theorem ht_goto {off : Int} {g : Nat} (hd : decode cc pc = .ok (.goto off, 3)) (ht : (pc : Int) + off = (g : Int)) : vh_Snd tb nw cl tyl cc nL own ret d Rc Rs ini pc (hi_goto g) := by
  refine ⟨hs_m1 fun K K' h lv st σ g => h _ _ _ _ g, ?_⟩
  intro p l e R s m args below meth c D tys n0 ad0 A P Z C0 E0 lv st σ h ad H locs ls hag hl ho hs hwf hP hD hS
  exact lv_goto C0.1 C0.2.1 hd ht (h ad H locs ls hag hl ho hs hwf hP hD hS)
theorem ht_dup (hd : decode cc pc = .ok (.dup, 1)) (hn : pc + 1 = n) : vh_Snd tb nw cl tyl cc nL own ret d Rc Rs ini pc (hi_dup n) := by
  subst hn
  refine ⟨hs_m1 fun K K' h lv st σ g => ?_, ?_⟩
  · split at g
    · exact ⟨g.1, h _ _ _ _ g.2⟩
    · exact g
  intro p l e R s m args below meth c D tys n0 ad0 A P Z C0 E0 lv st σ h ad H locs ls hag hl ho hs hwf hP hD hS
  unfold hi_dup at h
  split at h
  next a t => exact lv_dup C0.1 C0.2.1 hd (vg_cat1 h.1) (h.2 ad H locs ls hag hl ho (vg_okc (vg_okh hs) hs) hwf hP hD hS)
  next => exact h.elim
theorem ht_pop (hd : decode cc pc = .ok (.pop, 1)) (hn : pc + 1 = n) : vh_Snd tb nw cl tyl cc nL own ret d Rc Rs ini pc (hi_pop n) := by
  subst hn
  refine ⟨hs_m1 fun K K' h lv st σ g => ?_, ?_⟩
  · split at g
    · exact ⟨g.1, h _ _ _ _ g.2⟩
    · exact g
  intro p l e R s m args below meth c D tys n0 ad0 A P Z C0 E0 lv st σ h ad H locs ls hag hl ho hs hwf hP hD hS
  unfold hi_pop at h
  split at h
  next a t => exact lv_pop C0.1 C0.2.1 hd (vg_cat1 h.1) (h.2 ad H locs ls hag hl ho (vg_okt hs) hwf hP hD hS)
  next => exact h.elim
theorem ht_dup_x1 (hd : decode cc pc = .ok (.dup_x1, 1)) (hn : pc + 1 = n) : vh_Snd tb nw cl tyl cc nL own ret d Rc Rs ini pc (hi_dupx1 n) := by
  subst hn
  refine ⟨hs_m1 fun K K' h lv st σ g => ?_, ?_⟩
  · split at g
    · exact ⟨g.1, h _ _ _ _ g.2⟩
    · exact g
  intro p l e R s m args below meth c D tys n0 ad0 A P Z C0 E0 lv st σ h ad H locs ls hag hl ho hs hwf hP hD hS
  unfold hi_dupx1 at h
  split at h
  next a b t => exact lv_dup_x1 C0.1 C0.2.1 hd (vg_cat1 h.1.1) (vg_cat1 h.1.2) (h.2 ad H locs ls hag hl ho (vg_okc (vg_okh hs) (vg_okc (vg_okh (vg_okt hs)) (vg_okc (vg_okh hs) (vg_okt (vg_okt hs))))) hwf hP hD hS)
  next => exact h.elim
theorem ht_dup2 (hd : decode cc pc = .ok (.dup2, 1)) (hn : pc + 1 = n) : vh_Snd tb nw cl tyl cc nL own ret d Rc Rs ini pc (hi_dup2 n) := by
  subst hn
  refine ⟨hs_m1 fun K K' h lv st σ g => ?_, ?_⟩
  · split at g
    · exact ⟨g.1, h _ _ _ _ g.2⟩
    · exact g
  intro p l e R s m args below meth c D tys n0 ad0 A P Z C0 E0 lv st σ h ad H locs ls hag hl ho hs hwf hP hD hS
  unfold hi_dup2 at h
  split at h
  next a b t => exact lv_dup2_11 C0.1 C0.2.1 hd (vg_cat1 h.1.1) (vg_cat1 h.1.2) (h.2 ad H locs ls hag hl ho (vg_okc (vg_okh hs) (vg_okc (vg_okh (vg_okt hs)) hs)) hwf hP hD hS)
  next => exact h.elim
theorem ht_return (hd : decode cc pc = .ok (.return_, 1)) (hr : ret = none) : vh_Snd tb nw cl tyl cc nL own ret d Rc Rs ini pc hi_retV := by
  refine ⟨fun P K K' h lv st σ g => g, ?_⟩
  intro p l e R s m args below meth c D tys n0 ad0 A P Z C0 E0 lv st σ h ad H locs ls hag hl ho hs hwf hP hD hS
  unfold hi_retV at h
  split at h
  next => exact E0 none σ pc ad ls H locs h (fun v z => by cases z) hag hwf.2 hP hD hS ⟨hd, hr⟩
  next => exact h.elim
end HT
end
section
/-! instructions that read, write and make cells, in the machine vh -/
def vh_at {α : Type} : List α → Nat → Option α
  | [], _ => none
  | a :: _, 0 => some a
  | _ :: t, k + 1 => vh_at t k
theorem vh_at_eq {α : Type} : ∀ (l : List α) (k : Nat), vh_at l k = l[k]?
  | [], k => by simp [vh_at]
  | a :: t, 0 => by simp [vh_at]
  | a :: t, k + 1 => by simp [vh_at, vh_at_eq t k]
def vh_put {α : Type} : List α → Nat → α → List α
  | [], _, _ => []
  | _ :: t, 0, x => x :: t
  | a :: t, k + 1, x => a :: vh_put t k x
theorem vh_put_eq {α : Type} : ∀ (l : List α) (k : Nat) (x : α), vh_put l k x = l.set k x
  | [], k, x => by simp [vh_put]
  | a :: t, 0, x => by simp [vh_put]
  | a :: t, k + 1, x => by simp [vh_put, vh_put_eq t k x]
def hi_get (ci k n : Nat) : vhF := fun _ K lv st σ => match st with
  | .inr m :: t => (match vh_at σ.1 m.1 with
    | some (.inl q) => bif Nat.beq q.1 ci then (match vh_at q.2 k with
      | some v => K n lv (v :: t) σ
      | none => False) else False
    | _ => False)
  | _ => False
def hi_putI (ci k n : Nat) : vhF := fun _ K lv st σ => match st with
  | .inl (.int x) :: .inr m :: t => (match vh_at σ.1 m.1 with
    | some (.inl q) => bif Nat.beq q.1 ci && Nat.blt k q.2.length then K n lv t (vh_put σ.1 m.1 (.inl (ci, vh_put q.2 k (.inl (.int x)))), σ.2) else False
    | _ => False)
  | _ => False
def hi_putR (ci k n : Nat) : vhF := fun _ K lv st σ => match st with
  | .inr z :: .inr m :: t => (match vh_at σ.1 m.1 with
    | some (.inl q) => bif Nat.beq q.1 ci && Nat.blt k q.2.length then K n lv t (vh_put σ.1 m.1 (.inl (ci, vh_put q.2 k (.inr z))), σ.2) else False
    | _ => False)
  | _ => False
def hi_newa (t0 Rc Rs n : Nat) : vhF := fun _ K lv st σ => match st with
  | .inl (.int len) :: t => (¬ len < 0 ∧ len.toNatClampNeg ≤ 1000 ∧ σ.2.1 + 1 ≤ Rc ∧ σ.2.2 + len.toNatClampNeg ≤ Rs) ∧ K n lv (.inr (vh_n σ.1.length) :: t) (σ.1 ++ [.inr (t0, len.toNatClampNeg, .inl (fun _ => 0))], σ.2.1 + 1, σ.2.2 + len.toNatClampNeg)
  | _ => False
def hi_newq (t0 Rc Rs n : Nat) : vhF := fun _ K lv st σ => match st with
  | .inl (.int len) :: t => (¬ len < 0 ∧ len.toNatClampNeg ≤ 1000 ∧ σ.2.1 + 1 ≤ Rc ∧ σ.2.2 + len.toNatClampNeg ≤ Rs) ∧ K n lv (.inr (vh_n σ.1.length) :: t) (σ.1 ++ [.inr (t0, len.toNatClampNeg, .inr (.inr (fun _ => none)))], σ.2.1 + 1, σ.2.2 + len.toNatClampNeg)
  | _ => False
/-- new; dup; invokespecial of a constructor without arguments -/
def hi_newc (Rc Rs nf mc ms : Nat) (cs : vhS) (n : Nat) : vhF := fun _ K lv st σ => bif Nat.ble (vg_wd st) 6 then ((σ.2.1 + 1 + mc ≤ Rc ∧ σ.2.2 + nf + ms ≤ Rs) ∧ K n lv (.inr (vh_n σ.1.length) :: st) (σ.1 ++ cs.map (vh_sh σ.1.length), σ.2.1 + 1 + mc, σ.2.2 + nf + ms)) else False
def hi_iast (t0 n : Nat) : vhF := fun _ K lv st σ => match st with
  | .inl (.int x) :: .inl (.int i) :: .inr m :: t => (match vh_at σ.1 m.1 with
    | some (.inr (t1, len, .inl f)) => bif Nat.beq t1 t0 then (vp_in i len ∧ K n lv t (vh_put σ.1 m.1 (.inr (t0, len, .inl (upd f i.toNatClampNeg x))), σ.2)) else False
    | _ => False)
  | _ => False
def hi_aast (t0 ci n : Nat) : vhF := fun _ K lv st σ => match st with
  | .inr v :: .inl (.int i) :: .inr m :: t => (match vh_at σ.1 m.1 with
    | some (.inr (t1, len, .inr (.inr f))) => bif Nat.beq t1 t0 then ((vp_in i len ∧ ∃ fs, vh_at σ.1 v.1 = some (.inl (ci, fs))) ∧ K n lv t (vh_put σ.1 m.1 (.inr (t0, len, .inr (.inr (va_up f i.toNatClampNeg (some v.1))))), σ.2)) else False
    | _ => False)
  | _ => False
def hi_oinit (n : Nat) : vhF := fun _ K lv st σ => match st with
  | .inr _ :: t => bif Nat.ble (vg_wd t) 8 then K n lv t σ else False
  | _ => False
section HG
variable {p : Program} {l : Launch} {e : Env} {R : Room} {s : State} {m : MethodId} {args : Array Value} {below : List Frame} {meth : Method} {c : Code}
theorem vh_sh_e {ad ad1 : vgN → Nat} {tys : List (ClassId × FieldType)} {k n : Nat} (h : ∀ i, i < n → ad (vh_n (i + k)) = ad1 (vh_n i)) : ∀ {x : vhC}, vh_okC n x → vh_e ad tys (vh_sh k x) = vh_e ad1 tys x
  | .inl q, hc => by
    show Sum.inr (q.1, (q.2.map (vh_sv k)).map (vg_cv ad)) = Sum.inr (q.1, q.2.map (vg_cv ad1))
    rw [List.map_map, List.map_congr_left (fun v hv => ?_)]
    cases v with
    | inl v => rfl
    | inr z =>
      obtain ⟨i, h1, rfl⟩ := vh_N_of (hc _ hv)
      show Value.ref (ad (vh_n (i + k))) = Value.ref (ad1 (vh_n i))
      rw [h i h1]
  | .inr (t, m, .inl f), _ => rfl
  | .inr (t, m, .inr (.inl f)), _ => rfl
  | .inr (t, m, .inr (.inr f)), hc => by
    show Sum.inl (_, m, Sum.inr (Sum.inr (Sum.inr (Sum.inr _)))) = Sum.inl (_, m, Sum.inr (Sum.inr (Sum.inr (Sum.inr _))))
    congr 7
    funext i
    show Option.map _ (Option.map _ (f i)) = _
    cases hf : f i with
    | none => rfl
    | some j =>
      show some (ad (vh_n (j + k))) = some (ad1 (vh_n j))
      rw [h j (hc i j hf)]
theorem vh_sh_ok {k n : Nat} : ∀ {x : vhC}, vh_okC n x → vh_okC (k + n) (vh_sh k x)
  | .inl q, hc => by
    intro v hv
    obtain ⟨w, hw, rfl⟩ := List.mem_map.mp hv
    cases w with
    | inl w => trivial
    | inr z =>
      obtain ⟨i, h1, rfl⟩ := vh_N_of (hc _ hw)
      exact vh_N_in (by show i + k < k + n; omega)
  | .inr (t, m, .inl f), _ => trivial
  | .inr (t, m, .inr (.inl f)), _ => trivial
  | .inr (t, m, .inr (.inr f)), hc => by
    intro i j hij
    have h2 : (f i).map (fun j => j + k) = some j := hij
    cases hf : f i with
    | none => rw [hf] at h2; cases h2
    | some j0 =>
      rw [hf] at h2
      cases h2
      have := hc i j0 hf
      show j0 + k < k + n
      omega
def vh_j (ad : vgN → Nat) (k : Nat) (ad1 : vgN → Nat) : vgN → Nat := fun z => if z.1 < k then ad z else ad1 (vh_n (z.1 - k))
theorem vh_j_lt {ad ad1 : vgN → Nat} {k i : Nat} (h : i < k) : vh_j ad k ad1 (vh_n i) = ad (vh_n i) := if_pos h
theorem vh_j_ge {ad ad1 : vgN → Nat} {k i : Nat} : vh_j ad k ad1 (vh_n (i + k)) = ad1 (vh_n i) := by
  unfold vh_j
  rw [if_neg (by show ¬ i + k < k; omega)]
  show ad1 (vh_n (i + k - k)) = _
  rw [Nat.add_sub_cancel]
theorem vh_j_ws {ad ad1 : vgN → Nat} {tys : List (ClassId × FieldType)} {S cs : vhS} (hS : vh_wf S) (hc : vh_wf cs) : vh_ws (vh_j ad S.length ad1) tys (S ++ cs.map (vh_sh S.length)) = vh_ws ad tys S ++ vh_ws ad1 tys cs := by
  apply List.ext_getElem?
  intro i
  have hl : (vh_ws ad tys S).length = S.length := by unfold vh_ws; rw [List.length_mapIdx]
  rw [vh_ws_at]
  by_cases hi : i < S.length
  · rw [List.getElem?_append_left hi, List.getElem?_append_left (by rw [hl]; exact hi), vh_ws_at]
    have hx : S[i]? = some S[i] := List.getElem?_eq_getElem hi
    rw [hx]
    show some (_, _) = some (_, _)
    rw [vh_j_lt hi, vh_e_eq (n := S.length) (fun j hj => vh_j_lt hj) (hS _ (List.getElem_mem hi))]
  · rw [List.getElem?_append_right (by omega), List.getElem?_append_right (by rw [hl]; omega), hl, vh_ws_at, List.getElem?_map]
    cases hx : cs[i - S.length]? with
    | none => rfl
    | some x =>
      show some (vh_j ad S.length ad1 (vh_n i), _) = some (ad1 (vh_n (i - S.length)), _)
      have e1 : vh_j ad S.length ad1 (vh_n i) = ad1 (vh_n (i - S.length)) := by
        have h2 := vh_j_ge (ad := ad) (ad1 := ad1) (k := S.length) (i := i - S.length)
        rw [Nat.sub_add_cancel (by omega)] at h2
        exact h2
      rw [e1, vh_sh_e (n := cs.length) (fun j _ => vh_j_ge) (hc _ (List.mem_of_getElem? hx))]
theorem vh_wf_app2 {S cs : vhS} (hS : vh_wf S) (hc : vh_wf cs) : vh_wf (S ++ cs.map (vh_sh S.length)) := by
  intro d hd
  rw [List.length_append, List.length_map]
  rcases List.mem_append.mp hd with h | h
  · exact vh_okC_le (Nat.le_add_right _ _) (hS d h)
  · obtain ⟨x, hx, rfl⟩ := List.mem_map.mp h
    exact vh_sh_ok (hc x hx)
theorem vh_lm_eq {ad ad' : vgN → Nat} {n : Nat} (h : ∀ i, i < n → ad' (vh_n i) = ad (vh_n i)) {lv : vgL} (ho : ∀ q ∈ lv, vg_ok (vh_N n) q.2) : vg_lm ad' lv = vg_lm ad lv := by
  unfold vg_lm
  exact List.map_congr_left (fun q hq => by rw [vh_cv_eq h (ho q hq)])
/-- the machine goes on with new cells at the list's end -/
theorem vh_grow {cl : List vw_C} {nL : Nat} {D : va_G} {tys : List (ClassId × FieldType)} {n0 : Nat} {ad0 ad ad1 : vgN → Nat} {A : Nat → Prop} {Z : State → Prop} {pc : Nat} {lv : vgL} {t : vgT} {S cs : vhS} {k n q : Nat} {H1 : Heap} {locs : List Loc} {ls : Array Slot}
    (h : vh_X cl nL p l e R s m args below meth c D tys n0 ad0 A Z pc lv (.inr (vh_n S.length) :: t) (S ++ cs.map (vh_sh S.length), k, n)) (hag : ∀ i, i < n0 → ad (vh_n i) = ad0 (vh_n i)) (hl : lv_has ls nL (vg_lm ad lv)) (ho : ∀ q ∈ lv, vg_ok (vh_N S.length) q.2) (ht : ∀ v ∈ t, vg_ok (vh_N S.length) v) (hwf : n0 ≤ S.length ∧ vh_wf S) (hc : vh_wf cs) (hc0 : 0 < cs.length) (hq : ad1 (vh_n 0) = q)
    (hP : va_P D cl (vh_ws ad tys S ++ vh_ws ad1 tys cs) H1) (hD : va_D A (vh_ws ad tys S ++ vh_ws ad1 tys cs)) (hS : va_S A s.heap H1 locs) : W p l e R s m args below meth c H1 locs k n Z (F0 m pc ls (.ref q :: t.map (vg_cv ad))) := by
  have hj : ∀ i, i < S.length → vh_j ad S.length ad1 (vh_n i) = ad (vh_n i) := fun i hi => vh_j_lt hi
  have hlen : (S ++ cs.map (vh_sh S.length)).length = S.length + cs.length := by rw [List.length_append, List.length_map]
  have hle : S.length ≤ (S ++ cs.map (vh_sh S.length)).length := by rw [hlen]; omega
  have h2 := h (vh_j ad S.length ad1) H1 locs ls (fun i hi => (hj i (Nat.lt_of_lt_of_le hi hwf.1)).trans (hag i hi)) (by rw [vh_lm_eq hj ho]; exact hl) (fun z hz => vh_N_le hle (ho z hz)) (fun v hv => by
    rcases List.mem_cons.mp hv with rfl | hv
    · exact vh_N_in (by rw [hlen]; omega)
    · exact vh_N_le hle (ht v hv)) ⟨Nat.le_trans hwf.1 hle, vh_wf_app2 hwf.2 hc⟩ (by rw [vh_j_ws hwf.2 hc]; exact hP) (by rw [vh_j_ws hwf.2 hc]; exact hD) hS
  have e1 : (Sum.inr (vh_n S.length) :: t : vgT).map (vg_cv (vh_j ad S.length ad1)) = .ref q :: t.map (vg_cv ad) := by
    rw [List.map_cons, List.map_congr_left (fun v hv => vh_cv_eq hj (ht v hv))]
    have h3 := vh_j_ge (ad := ad) (ad1 := ad1) (k := S.length) (i := 0)
    rw [Nat.zero_add, hq] at h3
    show Value.ref _ :: _ = _
    rw [h3]
  rw [e1] at h2
  exact h2
/-- the machine goes on with a cell changed -/
theorem vh_goput {cl : List vw_C} {nL : Nat} {D : va_G} {tys : List (ClassId × FieldType)} {n0 : Nat} {ad0 ad : vgN → Nat} {A : Nat → Prop} {Z : State → Prop} {pc : Nat} {lv : vgL} {t : vgT} {S : vhS} {i : Nat} {ce : vhC} {σ2 : Nat × Nat} {H1 : Heap} {locs : List Loc} {ls : Array Slot}
    (h : vh_X cl nL p l e R s m args below meth c D tys n0 ad0 A Z pc lv t (vh_put S i ce, σ2)) (hag : ∀ i, i < n0 → ad (vh_n i) = ad0 (vh_n i)) (hl : lv_has ls nL (vg_lm ad lv)) (ho : ∀ q ∈ lv, vg_ok (vh_N S.length) q.2) (ht : ∀ v ∈ t, vg_ok (vh_N S.length) v) (hwf : n0 ≤ S.length ∧ vh_wf S) (hce : vh_okC S.length ce)
    (hP : va_P D cl (vh_ws ad tys (vh_put S i ce)) H1) (hD : va_D A (vh_ws ad tys (vh_put S i ce))) (hS : va_S A s.heap H1 locs) : W p l e R s m args below meth c H1 locs σ2.1 σ2.2 Z (F0 m pc ls (t.map (vg_cv ad))) := by
  have hlen : (vh_put S i ce).length = S.length := by rw [vh_put_eq, List.length_set]
  exact h ad H1 locs ls hag hl (fun y hy => by show vg_ok (vh_N (vh_put S i ce).length) _; rw [hlen]; exact ho y hy) (fun v hv => by show vg_ok (vh_N (vh_put S i ce).length) _; rw [hlen]; exact ht v hv) ⟨by show n0 ≤ (vh_put S i ce).length; rw [hlen]; exact hwf.1, by show vh_wf (vh_put S i ce); rw [vh_put_eq]; exact vh_wf_set hwf.2 hce⟩ hP hD hS
theorem vh_ty {D : va_G} {cl : List vw_C} {tys : List (ClassId × FieldType)} {t0 : Nat} {c0 cA : ClassId} {ty : FieldType} (hK : va_K D cl tys s) (ht : tys[t0]? = some (c0, ty)) (hK1 : va_K D cl (tys ++ [(cA, ty)]) s) : cA = c0 := by
  have h1 := (hK.2 t0 _ ht).2
  have h2 := (hK1.2 tys.length (cA, ty) (by rw [List.getElem?_append_right (Nat.le_refl _), Nat.sub_self]; rfl)).2
  unfold va_RA at h1 h2
  cases ty with
  | object C =>
    obtain ⟨_, _, _, _, _, a⟩ := h1
    obtain ⟨_, _, _, _, _, b⟩ := h2
    exact Option.some.inj (b.symm.trans a)
  | _ => exact Option.some.inj (Eq.trans (Eq.symm h2) h1)
end HG
section HT2
variable {tb : List Cond} {nw : vhW} {cl : List vw_C} {tyl : List FieldType} {cc : ByteArray} {nL : Nat} {own : String} {ret : Option FieldType} {d Rc Rs : Nat} {ini : Bool} {pc n : Nat}
theorem vh_len {S : vhS} {k : Nat} {x : vhC} : (vh_put S k x).length = S.length := by rw [vh_put_eq, List.length_set]
theorem ht_getfield {ci k ix : Nat} {C : String} {T : u_T} {N : Nat} (hd : decode cc pc = .ok (.getfield ix, 3)) (hc : cl[ci]? = some (C, T, N)) (hk : k < N) (hin : ∀ w ∈ u_ws C T N, w ∈ tb) (hw : Cond.fieldLink own ix (T k).1 (T k).2.1 (T k).2.2.1 ∈ tb) (hn : pc + 3 = n) : vh_Snd tb nw cl tyl cc nL own ret d Rc Rs ini pc (hi_get ci k n) := by
  subst hn
  refine ⟨hs_m1 fun K K' h lv st σ g => ?_, ?_⟩
  · split at g
    next m0 t =>
      split at g
      next q hq =>
        cases hb : Nat.beq q.1 ci with
        | false => rw [hb] at g; exact g.elim
        | true =>
          rw [hb] at g
          have g' : (match vh_at q.2 k with | some v => _ | none => False) := g
          show (match vh_at q.2 k with | some v => _ | none => False)
          split at g'
          next v hv => exact h _ _ _ _ g'
          next => exact g'.elim
      next => exact g
    next => exact g
  intro p l e R s m args below meth c D tys n0 ad0 A P Z C0 E0 lv st σ h ad H locs ls hag hl ho hs hwf hP hD hS
  unfold hi_get at h
  split at h
  next m0 t =>
    split at h
    next q hq =>
      cases hb : Nat.beq q.1 ci with
      | false => rw [hb] at h; exact h.elim
      | true =>
        rw [hb] at h
        have e : q.1 = ci := Nat.eq_of_beq_eq_true hb
        obtain ⟨i, hi, rfl⟩ := vh_N_of (show m0 ∈ vh_N σ.1.length from vg_okh hs)
        have h' : (match vh_at q.2 k with | some v => _ | none => False) := h
        split at h'
        next v hv =>
          rw [vh_at_eq] at hq hv
          have hq' : σ.1[i]? = some (.inl q) := hq
          have hws : (vh_ws ad tys σ.1)[i]? = some (ad (vh_n i), .inr (ci, q.2.map (vg_cv ad))) := by
            rw [vh_ws_at, hq', ← e]
            rfl
          have hvk : (q.2.map (vg_cv ad))[k]? = some (vg_cv ad v) := by rw [List.getElem?_map, hv]; rfl
          have hok : vg_ok (vh_N σ.1.length) v := hwf.2 _ (List.mem_of_getElem? hq') v (List.mem_of_getElem? hv)
          exact va_get (D := D) C0.1 C0.2.1 C0.2.2.2.2.1 hin C0.2.2.2.1 C0.2.2.2.2.2.1 hP i hws hc k hk (C0.2.2.2.2.1 _ hw) (fun _ z => z) hvk hd (h' ad H locs ls hag hl ho (vg_okc hok (vg_okt hs)) hwf hP hD hS)
        next => exact h'.elim
    next => exact h.elim
  next => exact h.elim
theorem ht_putI {ci k ix : Nat} {C : String} {T : u_T} {N : Nat} (ty0 : Nat → FieldType) (hd : decode cc pc = .ok (.putfield ix, 3)) (hc : cl[ci]? = some (C, T, N)) (hk : k < N) (hin : ∀ w ∈ u_ws C T N, w ∈ tb) (hty : ∀ k, k < N → parseFieldDescriptor (T k).2.2.1 = some (ty0 k)) (hnm : ∀ a, a < N → ∀ b, b < N → a ≠ b → (T a).2.1 ≠ (T b).2.1) (hfin : (T k).2.2.2 = false) (hti : ty0 k = .int)
    (hw : Cond.fieldLink own ix (T k).1 (T k).2.1 (T k).2.2.1 ∈ tb) (hn : pc + 3 = n) : vh_Snd tb nw cl tyl cc nL own ret d Rc Rs ini pc (hi_putI ci k n) := by
  subst hn
  refine ⟨hs_m1 fun K K' h lv st σ g => ?_, ?_⟩
  · split at g
    next x m0 t =>
      split at g
      next q hq =>
        cases hb : Nat.beq q.1 ci && Nat.blt k q.2.length with
        | false => rw [hb] at g; exact g.elim
        | true => rw [hb] at g; exact h _ _ _ _ g
      next => exact g
    next => exact g
  intro p l e R s m args below meth c D tys n0 ad0 A P Z C0 E0 lv st σ h ad H locs ls hag hl ho hs hwf hP hD hS
  unfold hi_putI at h
  split at h
  next x m0 t =>
    split at h
    next q hq =>
      cases hb : Nat.beq q.1 ci && Nat.blt k q.2.length with
      | false => rw [hb] at h; exact h.elim
      | true =>
        rw [hb] at h
        simp only [Bool.and_eq_true] at hb
        have e : q.1 = ci := Nat.eq_of_beq_eq_true hb.1
        have hkl : k < q.2.length := Nat.le_of_ble_eq_true hb.2
        obtain ⟨i, hi, rfl⟩ := vh_N_of (show m0 ∈ vh_N σ.1.length from vg_okh (vg_okt hs))
        rw [vh_at_eq] at hq
        have hq' : σ.1[i]? = some (.inl q) := hq
        have hws : (vh_ws ad tys σ.1)[i]? = some (ad (vh_n i), .inr (ci, q.2.map (vg_cv ad))) := by
          rw [vh_ws_at, hq', ← e]
          rfl
        have hokC : vh_okC σ.1.length (.inl (ci, q.2.set k (.inl (.int x)))) := by
          intro v hv
          rcases List.mem_or_eq_of_mem_set hv with z | z
          · exact hwf.2 _ (List.mem_of_getElem? hq') v z
          · rw [z]; trivial
        have hset : (vh_ws ad tys σ.1).set i (ad (vh_n i), .inr (ci, (q.2.map (vg_cv ad)).set k (.int x))) = vh_ws ad tys (vh_put σ.1 i (.inl (ci, vh_put q.2 k (.inl (.int x))))) := by
          rw [vh_put_eq, vh_put_eq, ← vh_ws_set]
          show _ = (vh_ws ad tys σ.1).set i (ad (vh_n i), .inr (ci, (q.2.set k (.inl (.int x))).map (vg_cv ad)))
          rw [List.map_set]
          rfl
        refine va_put (D := D) (A := A) C0.1 C0.2.1 C0.2.2.2.2.1 hin ty0 hty hnm C0.2.2.2.1 C0.2.2.2.2.2.1 hP hD hS i hws hc k hk (C0.2.2.2.2.1 _ hw) (fun _ z => z) hfin (ty := .int) (v := .int x) (by rw [hty k hk, hti]) rfl rfl (by rw [List.length_map]; exact hkl) hd (fun H1 locs1 hP1 hD1 hS1 => ?_)
        rw [hset] at hP1 hD1
        exact vh_goput (S := σ.1) (σ2 := σ.2) h hag hl ho (vg_okt (vg_okt hs)) hwf (by rw [vh_put_eq]; exact hokC) hP1 hD1 hS1
    next => exact h.elim
  next => exact h.elim
/-- a final field of references, in a constructor -/
theorem ht_putF {ci k ix : Nat} {C : String} {T : u_T} {N : Nat} (ty0 : Nat → FieldType) (hi2 : ini = true) (hd : decode cc pc = .ok (.putfield ix, 3)) (hc : cl[ci]? = some (C, T, N)) (hk : k < N) (hin : ∀ w ∈ u_ws C T N, w ∈ tb) (hty : ∀ k, k < N → parseFieldDescriptor (T k).2.2.1 = some (ty0 k)) (hnm : ∀ a, a < N → ∀ b, b < N → a ≠ b → (T a).2.1 ≠ (T b).2.1) (hfin : (T k).2.2.2 = true) (hdc : (T k).1 = own) (hti : ∀ a, fits (ty0 k) (.ref a) = true ∧ narrow (ty0 k) (.ref a) = .ref a)
    (hw : Cond.fieldLink own ix (T k).1 (T k).2.1 (T k).2.2.1 ∈ tb) (hn : pc + 3 = n) : vh_Snd tb nw cl tyl cc nL own ret d Rc Rs ini pc (hi_putR ci k n) := by
  subst hn
  refine ⟨hs_m1 fun K K' h lv st σ g => ?_, ?_⟩
  · split at g
    next z m0 t =>
      split at g
      next q hq =>
        cases hb : Nat.beq q.1 ci && Nat.blt k q.2.length with
        | false => rw [hb] at g; exact g.elim
        | true => rw [hb] at g; exact h _ _ _ _ g
      next => exact g
    next => exact g
  intro p l e R s m args below meth c D tys n0 ad0 A P Z C0 E0 lv st σ h ad H locs ls hag hl ho hs hwf hP hD hS
  unfold hi_putR at h
  split at h
  next z m0 t =>
    split at h
    next q hq =>
      cases hb : Nat.beq q.1 ci && Nat.blt k q.2.length with
      | false => rw [hb] at h; exact h.elim
      | true =>
        rw [hb] at h
        simp only [Bool.and_eq_true] at hb
        have e : q.1 = ci := Nat.eq_of_beq_eq_true hb.1
        have hkl : k < q.2.length := Nat.le_of_ble_eq_true hb.2
        have hz : vg_ok (vh_N σ.1.length) (.inr z) := vg_okh hs
        obtain ⟨i, hi, rfl⟩ := vh_N_of (show m0 ∈ vh_N σ.1.length from vg_okh (vg_okt hs))
        rw [vh_at_eq] at hq
        have hq' : σ.1[i]? = some (.inl q) := hq
        have hws : (vh_ws ad tys σ.1)[i]? = some (ad (vh_n i), .inr (ci, q.2.map (vg_cv ad))) := by
          rw [vh_ws_at, hq', ← e]
          rfl
        have hokC : vh_okC σ.1.length (.inl (ci, q.2.set k (.inr z))) := by
          intro v hv
          rcases List.mem_or_eq_of_mem_set hv with y | y
          · exact hwf.2 _ (List.mem_of_getElem? hq') v y
          · rw [y]; exact hz
        have hset : (vh_ws ad tys σ.1).set i (ad (vh_n i), .inr (ci, (q.2.map (vg_cv ad)).set k (.ref (ad z)))) = vh_ws ad tys (vh_put σ.1 i (.inl (ci, vh_put q.2 k (.inr z)))) := by
          rw [vh_put_eq, vh_put_eq, ← vh_ws_set]
          show _ = (vh_ws ad tys σ.1).set i (ad (vh_n i), .inr (ci, (q.2.set k (.inr z)).map (vg_cv ad)))
          rw [List.map_set]
          rfl
        refine va_putF (D := D) (A := A) C0.1 C0.2.1 C0.2.2.2.2.1 hin ty0 hty hnm C0.2.2.2.1 C0.2.2.2.2.2.1 hP hD hS i hws hc k hk (C0.2.2.2.2.1 _ hw) (fun _ z => z) hfin (C0.2.2.2.2.2.2.2.2.2.2.2.2.1 hi2) hdc (ty := ty0 k) (v := .ref (ad z)) (hty k hk) (hti _).2 (hti _).1 (by rw [List.length_map]; exact hkl) hd (fun H1 locs1 hP1 hD1 hS1 => ?_)
        rw [hset] at hP1 hD1
        exact vh_goput (S := σ.1) (σ2 := σ.2) h hag hl ho (vg_okt (vg_okt hs)) hwf (by rw [vh_put_eq]; exact hokC) hP1 hD1 hS1
    next => exact h.elim
  next => exact h.elim
theorem ht_newa {t0 : Nat} {atype : ArrayType} {ty : FieldType} (hty : newarray.typeOf atype = ty) (hcell : ∀ (cA : ClassId) (N : Nat), vp_cell cA (N, .inl (fun _ => 0)) = arrV cA N (fun _ => defaultValue ty)) (hcb : componentBytes ty ≤ 8) (ht : tyl[t0]? = some ty) (hw : Cond.arrayClass (newarray.typeOf atype) ∈ tb) (hd : decode cc pc = .ok (.newarray atype, 2)) (hn : pc + 2 = n) : vh_Snd tb nw cl tyl cc nL own ret d Rc Rs ini pc (hi_newa t0 Rc Rs n) := by
  subst hn
  refine ⟨hs_m1 fun K K' h lv st σ g => ?_, ?_⟩
  · split at g
    next len t => exact ⟨g.1, h _ _ _ _ g.2⟩
    next => exact g
  intro p l e R s m args below meth c D tys n0 ad0 A P Z C0 E0 lv st σ h ad H locs ls hag hl ho hs hwf hP hD hS
  unfold hi_newa at h
  split at h
  next len t =>
    obtain ⟨⟨h1, h2, h3, h4⟩, hk⟩ := h
    have hRR := C0.2.2.2.2.2.2.2.2.2.2.2.1
    have hK := C0.2.2.2.2.2.1
    have hbytes : len.toNatClampNeg * componentBytes ty ≤ 536870912 := Nat.le_trans (Nat.mul_le_mul h2 hcb) (by decide)
    refine va_newa (D := D) (A := A) (ty := ty) (a0 := (len.toNatClampNeg, .inl (fun _ => 0))) C0.1 C0.2.1 (atype := atype) (C0.2.2.2.2.1 _ hw) hty hK hP hD hS C0.2.2.2.2.2.2.2.2.2.2.1 (fun cA => hcell cA _) h1 rfl hbytes (Nat.le_trans h3 hRR.1) (Nat.le_trans h4 hRR.2) hd (fun q cA H1 hK1 hP1 hD1 hS1 => ?_)
    have hcA : cA = vg_ty tys t0 := vh_ty hK (vg_tys C0.2.2.2.2.2.2.1 ht) hK1
    subst hcA
    exact vh_grow (cs := [.inr (t0, len.toNatClampNeg, .inl (fun _ => 0))]) (ad1 := fun _ => q) hk hag hl ho (vg_okt hs) hwf (fun x hx => by rw [List.mem_singleton.mp hx]; trivial) (Nat.zero_lt_one) rfl hP1 hD1 hS1
  next => exact h.elim
theorem ht_newq {t0 ix : Nat} {C : String} (ht : tyl[t0]? = some (.object C)) (hw : Cond.classLink own ix C ∈ tb) (hC : C ∈ nw.2.1) (hd : decode cc pc = .ok (.anewarray ix, 3)) (hn : pc + 3 = n) : vh_Snd tb nw cl tyl cc nL own ret d Rc Rs ini pc (hi_newq t0 Rc Rs n) := by
  subst hn
  refine ⟨hs_m1 fun K K' h lv st σ g => ?_, ?_⟩
  · split at g
    next len t => exact ⟨g.1, h _ _ _ _ g.2⟩
    next => exact g
  intro p l e R s m args below meth c D tys n0 ad0 A P Z C0 E0 lv st σ h ad H locs ls hag hl ho hs hwf hP hD hS
  unfold hi_newq at h
  split at h
  next len t =>
    obtain ⟨⟨h1, h2, h3, h4⟩, hk⟩ := h
    have hRR := C0.2.2.2.2.2.2.2.2.2.2.2.1
    have hK := C0.2.2.2.2.2.1
    have hnx := C0.2.2.2.2.2.2.2.2.2.2.2.2.2
    have hbytes : len.toNatClampNeg * 4 ≤ 536870912 := Nat.le_trans (Nat.mul_le_mul h2 (Nat.le_refl 4)) (by decide)
    refine va_newq (D := D) (A := A) C0.1 C0.2.1 C0.2.2.2.1 (C0.2.2.2.2.1 _ hw) (hnx.2.1 C hC) hK hP hD hS C0.2.2.2.2.2.2.2.2.2.2.1 h1 rfl hbytes (Nat.le_trans h3 hRR.1) (Nat.le_trans h4 hRR.2) hd (fun q cA H1 hK1 hP1 hD1 hS1 => ?_)
    have hcA : cA = vg_ty tys t0 := vh_ty hK (vg_tys C0.2.2.2.2.2.2.1 ht) hK1
    subst hcA
    exact vh_grow (cs := [.inr (t0, len.toNatClampNeg, .inr (.inr (fun _ => none)))]) (ad1 := fun _ => q) hk hag hl ho (vg_okt hs) hwf (fun x hx => by rw [List.mem_singleton.mp hx]; exact fun i j z => by cases z) (Nat.zero_lt_one) rfl hP1 hD1 hS1
  next => exact h.elim
theorem ht_iast {t0 : Nat} (hd : decode cc pc = .ok (.iastore, 1)) (ht : tyl[t0]? = some .int) (hn : pc + 1 = n) : vh_Snd tb nw cl tyl cc nL own ret d Rc Rs ini pc (hi_iast t0 n) := by
  subst hn
  refine ⟨hs_m1 fun K K' h lv st σ g => ?_, ?_⟩
  · split at g
    next x i m0 t =>
      split at g
      next t1 len f hq =>
        cases hb : Nat.beq t1 t0 with
        | false => rw [hb] at g; exact g.elim
        | true => rw [hb] at g; exact ⟨g.1, h _ _ _ _ g.2⟩
      next => exact g
    next => exact g
  intro p l e R s m args below meth c D tys n0 ad0 A P Z C0 E0 lv st σ h ad H locs ls hag hl ho hs hwf hP hD hS
  unfold hi_iast at h
  split at h
  next x i m0 t =>
    split at h
    next t1 len f hq =>
      cases hb : Nat.beq t1 t0 with
      | false => rw [hb] at h; exact h.elim
      | true =>
        rw [hb] at h
        have e : t1 = t0 := Nat.eq_of_beq_eq_true hb
        subst e
        obtain ⟨j, hj, rfl⟩ := vh_N_of (show m0 ∈ vh_N σ.1.length from vg_okh (vg_okt (vg_okt hs)))
        rw [vh_at_eq] at hq
        have hq' : σ.1[j]? = some (.inr (t1, len, .inl f)) := hq
        have hws : (vh_ws ad tys σ.1)[j]? = some (ad (vh_n j), .inl (vg_ty tys t1, len, .inl f)) := by
          rw [vh_ws_at, hq']
          rfl
        have hset : (vh_ws ad tys σ.1).set j (ad (vh_n j), .inl (vg_ty tys t1, len, .inl (upd f i.toNatClampNeg x))) = vh_ws ad tys (vh_put σ.1 j (.inr (t1, len, .inl (upd f i.toNatClampNeg x)))) := by
          rw [vh_put_eq, ← vh_ws_set]
          rfl
        refine va_iast (D := D) (A := A) C0.1 C0.2.1 C0.2.2.2.2.2.1 hP hD hS j t1 hws (vg_tys C0.2.2.2.2.2.2.1 ht) h.1 hd (fun H1 locs1 hP1 hD1 hS1 => ?_)
        rw [hset] at hP1 hD1
        exact vh_goput (S := σ.1) (σ2 := σ.2) h.2 hag hl ho (vg_okt (vg_okt (vg_okt hs))) hwf (ce := .inr (t1, len, .inl (upd f i.toNatClampNeg x))) trivial hP1 hD1 hS1
    next => exact h.elim
  next => exact h.elim
theorem ht_aast {t0 ci : Nat} {C : String} {T : u_T} {N : Nat} (hd : decode cc pc = .ok (.aastore, 1)) (ht : tyl[t0]? = some (.object C)) (hc : cl[ci]? = some (C, T, N)) (hn : pc + 1 = n) : vh_Snd tb nw cl tyl cc nL own ret d Rc Rs ini pc (hi_aast t0 ci n) := by
  subst hn
  refine ⟨hs_m1 fun K K' h lv st σ g => ?_, ?_⟩
  · split at g
    next v i m0 t =>
      split at g
      next t1 len f hq =>
        cases hb : Nat.beq t1 t0 with
        | false => rw [hb] at g; exact g.elim
        | true => rw [hb] at g; exact ⟨g.1, h _ _ _ _ g.2⟩
      next => exact g
    next => exact g
  intro p l e R s m args below meth c D tys n0 ad0 A P Z C0 E0 lv st σ h ad H locs ls hag hl ho hs hwf hP hD hS
  unfold hi_aast at h
  split at h
  next v i m0 t =>
    split at h
    next t1 len f hq =>
      cases hb : Nat.beq t1 t0 with
      | false => rw [hb] at h; exact h.elim
      | true =>
        rw [hb] at h
        have e : t1 = t0 := Nat.eq_of_beq_eq_true hb
        subst e
        obtain ⟨⟨hin, fs, hfs⟩, hk⟩ := h
        obtain ⟨z, hz, rfl⟩ := vh_N_of (show v ∈ vh_N σ.1.length from vg_okh hs)
        obtain ⟨j, hj, rfl⟩ := vh_N_of (show m0 ∈ vh_N σ.1.length from vg_okh (vg_okt (vg_okt hs)))
        rw [vh_at_eq] at hq hfs
        have hq' : σ.1[j]? = some (.inr (t1, len, .inr (.inr f))) := hq
        have hfs' : σ.1[z]? = some (.inl (ci, fs)) := hfs
        have hws : (vh_ws ad tys σ.1)[j]? = some (ad (vh_n j), .inl (vg_ty tys t1, len, .inr (.inr (.inr (.inr (fun i => (f i).map (fun j => ad (vh_n j)))))))) := by
          rw [vh_ws_at, hq']
          rfl
        have hwv : (vh_ws ad tys σ.1)[z]? = some (ad (vh_n z), .inr (ci, fs.map (vg_cv ad))) := by
          rw [vh_ws_at, hfs']
          rfl
        have hokC : vh_okC σ.1.length (.inr (t1, len, .inr (.inr (va_up f i.toNatClampNeg (some z))))) := by
          intro a b hab
          have hab' : va_up f i.toNatClampNeg (some z) a = some b := hab
          unfold va_up at hab'
          split at hab'
          · cases hab'; exact hz
          · exact hwf.2 _ (List.mem_of_getElem? hq') a b hab'
        have hset : (vh_ws ad tys σ.1).set j (ad (vh_n j), .inl (vg_ty tys t1, len, .inr (.inr (.inr (.inr (va_up (fun i => (f i).map (fun j => ad (vh_n j))) i.toNatClampNeg (some (ad (vh_n z))))))))) = vh_ws ad tys (vh_put σ.1 j (.inr (t1, len, .inr (.inr (va_up f i.toNatClampNeg (some z)))))) := by
          rw [vh_put_eq, ← vh_ws_set]
          have e9 : va_up (fun i => (f i).map (fun j => ad (vh_n j))) i.toNatClampNeg (some (ad (vh_n z))) = (fun a => (va_up f i.toNatClampNeg (some z) a).map (fun j => ad (vh_n j))) := by
            funext a
            unfold va_up
            split
            · rfl
            · rfl
          rw [e9]
          rfl
        refine va_astq (D := D) (A := A) C0.1 C0.2.1 C0.2.2.2.2.2.1 hP hD hS j t1 z ci hws (vg_tys C0.2.2.2.2.2.2.1 ht) hwv hc hin hd (fun H1 locs1 hP1 hD1 hS1 => ?_)
        rw [hset] at hP1 hD1
        exact vh_goput (S := σ.1) (σ2 := σ.2) hk hag hl ho (vg_okt (vg_okt (vg_okt hs))) hwf hokC hP1 hD1 hS1
    next => exact h.elim
  next => exact h.elim
theorem ht_oinit {ix : Nat} (hd : decode cc pc = .ok (.invokespecial ix, 3)) (h1 : Cond.methodLink own ix Lib.objectInit ∈ tb) (h2 : Cond.instanceMethod Lib.objectInit ∈ tb) (h3 : Cond.code Lib.objectInit ⟨#[0xb1]⟩ 1 none ∈ tb) (hdd : 1 ≤ d) (hn : pc + 3 = n) : vh_Snd tb nw cl tyl cc nL own ret d Rc Rs ini pc (hi_oinit n) := by
  subst hn
  refine ⟨hs_m1 fun K K' h lv st σ g => ?_, ?_⟩
  · split at g
    next m0 t =>
      cases hb : Nat.ble (vg_wd t) 8 with
      | false => rw [hb] at g; exact g.elim
      | true => rw [hb] at g; exact h _ _ _ _ g
    next => exact g
  intro p l e R s m args below meth c D tys n0 ad0 A P Z C0 E0 lv st σ h ad H locs ls hag hl ho hs hwf hP hD hS
  unfold hi_oinit at h
  split at h
  next m0 t =>
    cases hb : Nat.ble (vg_wd t) 8 with
    | false => rw [hb] at h; exact h.elim
    | true =>
      rw [hb] at h
      have hwd : vg_wd t ≤ 8 := Nat.le_of_ble_eq_true hb
      have hR := C0.2.2.2.2.2.2.2.2.2.1
      have hts := C0.2.2.2.2.1
      refine W.objInit C0.1 C0.2.1 C0.2.2.2.1 (hts _ h1) (hts _ h2) (hts _ h3) rfl (by rw [C0.2.2.1]; exact hl.1) rfl hd (Nat.le_trans hdd hR.1) ?_ ?_
      · show 2 * 0 + ((t.map (vg_cv ad)).map fun v => v.category).sum + 12 ≤ R.locals
        rw [vg_wd_sum]
        omega
      · exact h ad H locs ls hag hl ho (vg_okt hs) hwf hP hD hS
  next => exact h.elim
end HT2
end
section
/-! new objects by constructors without arguments, in the machine vh -/
section HN
variable {tb : List Cond} {nw : vhW} {cl : List vw_C} {tyl : List FieldType} {cc : ByteArray} {nL : Nat} {own : String} {ret : Option FieldType} {d Rc Rs : Nat} {ini : Bool} {pc n : Nat}
theorem ht_newc {ci ix ic N : Nat} {C : String} {T : u_T} (ty : Nat → FieldType) {fs : List Value} {y : MethodName} {bytes : ByteArray} {mL d' mc ms : Nat} {cs : vhS} (hI : vh_Ini tb nw cl tyl y bytes mL d' mc ms ci fs cs) (hc0 : 0 < cs.length)
    (hd0 : decode cc pc = .ok (.new ix, 3)) (hd3 : decode cc (pc + 3) = .ok (.dup, 1)) (hd4 : decode cc (pc + 4) = .ok (.invokespecial ic, 3)) (hc : cl[ci]? = some (C, T, N)) (hin : ∀ w ∈ u_ws C T N, w ∈ tb) (hty0 : ∀ k, k < N → parseFieldDescriptor (T k).2.2.1 = some (ty k))
    (hk0 : Cond.classLink own ix C ∈ tb) (hinst : Cond.instantiable C N ∈ tb) (hini : Cond.initialized C ∈ tb) (hfs : ∀ j, j < N → defaultValue (ty j) = vp_V fs j) (hG : tb.all goodWord = true) (hcw : Cond.code y bytes mL none ∈ tb) (hyC : y.cls = C) (hl2 : Cond.methodLink own ic y ∈ tb) (hi : Cond.instanceMethod y ∈ tb) (hyn : y.name = "<init>")
    (hy : y.cls ≠ "java/lang/invoke/MethodHandle" ∧ y.cls ≠ "java/lang/invoke/VarHandle" ∧ (parseMethodDescriptor y.desc).map (fun d => d.parameters.length) = some 0) (hR : d' + 1 ≤ d ∧ mL ≤ 13) (hn : pc + 7 = n) : vh_Snd tb nw cl tyl cc nL own ret d Rc Rs ini pc (hi_newc Rc Rs N mc ms cs n) := by
  subst hn
  refine ⟨hs_m1 fun K K' h lv st σ g => ?_, ?_⟩
  · cases hb : Nat.ble (vg_wd st) 6 with
    | false => rw [hb] at g; exact g.elim
    | true => rw [hb] at g; exact ⟨g.1, h _ _ _ _ g.2⟩
  intro p l e R s m args below meth c D tys n0 ad0 A P Z C0 E0 lv st σ h ad H locs ls hag hl ho hs hwf hP hD hS
  unfold hi_newc at h
  cases hb : Nat.ble (vg_wd st) 6 with
  | false => rw [hb] at h; exact h.elim
  | true =>
    rw [hb] at h
    have hwd : vg_wd st ≤ 6 := Nat.le_of_ble_eq_true hb
    obtain ⟨⟨h1, h2⟩, hk⟩ := h
    obtain ⟨hx, hcb, hml, hown, hts, hK, hty, hr, hlocks, hRR, hA, hRc, hini2, hnx⟩ := C0
    refine va_new (ci := ci) (fs := fs) (C := C) (T := T) (N := N) hx hcb hts hin ty hty0 hown (hts _ hk0) (hts _ hinst) (hts _ hini) hK hP hD hS hA hc hfs (by omega) (by omega) hd0 (fun q H1 hP1 hD1 hS1 => ?_)
    refine lv_dup hx hcb hd3 rfl ?_
    have hL : (vh_ws ad tys σ.1).length = σ.1.length := by unfold vh_ws; rw [List.length_mapIdx]
    have hat : (vh_ws ad tys σ.1 ++ [(q, (Sum.inr (ci, fs) : va_E))])[σ.1.length]? = some (q, .inr (ci, fs)) := by
      rw [List.getElem?_append_right (by omega), hL, Nat.sub_self]
      rfl
    have hPc : va_P D cl [(q, .inr (ci, fs))] H1 := by
      intro k x hkx
      have h9 : k < 1 := (List.getElem?_eq_some_iff.mp hkx).1
      have h8 : k = 0 := by omega
      subst h8
      cases hkx
      exact hP1 _ _ hat
    have hold : ∀ (k : Nat) (x : Nat × va_E), (vh_ws ad tys σ.1)[k]? = some x → x.1 < H1.size ∧ ¬ va_A [(q, (Sum.inr (ci, fs) : va_E))] H1.size x.1 := by
      intro k x hkx
      have hkl : k < σ.1.length := by rw [← hL]; exact (List.getElem?_eq_some_iff.mp hkx).1
      have hka : (vh_ws ad tys σ.1 ++ [(q, (Sum.inr (ci, fs) : va_E))])[k]? = some x := by
        rw [List.getElem?_append_left (by rw [hL]; exact hkl)]
        exact hkx
      have hlt := (hP1 k x hka).lt
      refine ⟨hlt, fun z => ?_⟩
      rcases z with ⟨k2, e2, z⟩ | z
      · have h9 : k2 < 1 := (List.getElem?_eq_some_iff.mp z).1
        have h8 : k2 = 0 := by omega
        subst h8
        have h7 : q = x.1 := congrArg Prod.fst (Option.some.inj z)
        have := hD1.1 k σ.1.length x _ hka hat h7.symm
        omega
      · omega
    have hFree : ∀ z, va_A [(q, (Sum.inr (ci, fs) : va_E))] H1.size z → A z := by
      intro z hz
      rcases hz with ⟨k2, e2, hz⟩ | hz
      · have h9 : k2 < 1 := (List.getElem?_eq_some_iff.mp hz).1
        have h8 : k2 = 0 := by omega
        subst h8
        have h7 : q = z := congrArg Prod.fst (Option.some.inj hz)
        rw [← h7]
        exact hD1.2 _ _ hat
      · exact hA z (Nat.le_trans hS1.1 hz)
    have hg : ∀ w ∈ tb, goodWord w = true := fun w h => List.all_eq_true.mp hG w h
    have cw : CallB R s args own ic y bytes mL none (.code y bytes mL none :: tb) { frames := d', cells := mc, slots := ms, locals := 32 * d' } mc ms 0 := by
      refine callB_of 0 hts (fun w hw => ?_) rfl rfl rfl (hts _ (by rw [hyC]; exact hini)) (hts _ hl2) hy ⟨Nat.le_trans hR.1 hRR.1, ?_⟩
      · rcases List.mem_cons.mp hw with rfl | hw
        · exact ⟨hcw, good_of_word (hg _ hcw)⟩
        · exact ⟨hw, good_of_word (hg _ hw)⟩
      · show 8 + (mL + 11) + 32 * d' ≤ R.locals
        omega
    have hr2 := va_runI (As := []) (rest := .ref q :: st.map (vg_cv ad)) (locs := locs) (cells := σ.2.1 + 1) (slots := σ.2.2 + N) (below := below) (meth := meth) (e := e) (g := F0 m (pc + 4) ls (.ref q :: .ref q :: st.map (vg_cv ad))) ⟨hx, hcb, hml, hown, hts⟩ (hI.2 l D tys q H1.size hty) ⟨cw, hyn, hts _ hi⟩ ⟨fun a U g mk z => by
        obtain ⟨q0, q1, qP, qK, qN⟩ := z
        exact ⟨q0, q1, qP, va_K.moved (u := U) (U := U.calling g mk a) (Vm.Alike.refl U.vm) qK, vh_nx.blind qN⟩, fun U hU hW => ⟨rfl, by rw [hU], by rw [hU]; exact hPc, va_K.moved hW.alike hK, vh_nx.warm hW hnx⟩⟩ rfl rfl hl.1 rfl (lv_room (by
        show 1 + ((st.map (vg_cv ad)).map fun v => v.category).sum ≤ 8
        rw [vg_wd_sum]
        omega)) hd4 ⟨by omega, by omega⟩
    intro T9 hT X
    obtain ⟨v, st₀, t, T', L, h0, X', hLf, e1, e2, ⟨⟨hv, ad1, hP2, hD2, had1⟩, hF⟩, stp⟩ := hr2 T9 hT X
    cases hv
    obtain ⟨hz, hkp⟩ := hF
    rw [h0] at hz hkp
    have hS2 : va_S A s.heap T'.heap (locs ++ L) := ⟨Nat.le_trans hS1.1 (by rw [e1]; exact hz), fun q h1 h2 => by rw [e1, hkp q (Nat.lt_of_lt_of_le h1 hS1.1) (fun z => h2 (hFree q z))]; exact hS1.2.1 q h1 h2, fun q hq => by
      rcases List.mem_append.mp hq with h | h
      · exact hS1.2.2 q h
      · exact hFree _ (hLf q h)⟩
    have hPn : va_P D cl (vh_ws ad tys σ.1 ++ vh_ws ad1 tys cs) T'.heap := by
      refine va_P.app (fun k x hkx => ?_) (by rw [e1]; exact hP2)
      obtain ⟨g1, g2⟩ := hold k x hkx
      have hka : (vh_ws ad tys σ.1 ++ [(q, (Sum.inr (ci, fs) : va_E))])[k]? = some x := by
        rw [List.getElem?_append_left (List.getElem?_eq_some_iff.mp hkx).1]
        exact hkx
      exact (hP1 k x hka).kept (by rw [e1]; exact hkp x.1 g1 g2)
    have hDn : va_D A (vh_ws ad tys σ.1 ++ vh_ws ad1 tys cs) := va_D.app hD (hD2.weaken (fun k x _ hx => hFree x.1 hx)) (fun i j x y hx' hy' hxy => (hold i x hx').2 (by rw [hxy]; exact hD2.2 j y hy'))
    obtain ⟨t2, a1, b1⟩ := vh_grow hk hag hl ho hs hwf hI.1 hc0 had1 hPn hDn hS2 T' rfl X'
    exact ⟨t2, stp t2 a1, b1⟩
theorem ht_newcN {ci ix ic N : Nat} {C : String} {T : u_T} (ty : Nat → FieldType) {fs : List Value} {y : MethodName} {bytes : ByteArray} {mL d' mc ms : Nat} {cs : vhS} {host : String} (hI : vh_Ini tb nw cl tyl y bytes mL d' mc ms ci fs cs) (hc0 : 0 < cs.length)
    (hd0 : decode cc pc = .ok (.new ix, 3)) (hd3 : decode cc (pc + 3) = .ok (.dup, 1)) (hd4 : decode cc (pc + 4) = .ok (.invokespecial ic, 3)) (hc : cl[ci]? = some (C, T, N)) (hin : ∀ w ∈ u_ws C T N, w ∈ tb) (hty0 : ∀ k, k < N → parseFieldDescriptor (T k).2.2.1 = some (ty k))
    (hk0 : Cond.classLink own ix C ∈ tb) (hinst : Cond.instantiable C N ∈ tb) (hini : Cond.initialized C ∈ tb) (hfs : ∀ j, j < N → defaultValue (ty j) = vp_V fs j) (hG : tb.all goodWord = true) (hcw : Cond.code y bytes mL none ∈ tb) (hyC : y.cls = C) (hl2 : (own, ic, y, host) ∈ nw.1) (hi : Cond.instanceMethod y ∈ tb) (hyn : y.name = "<init>")
    (hy : y.cls ≠ "java/lang/invoke/MethodHandle" ∧ y.cls ≠ "java/lang/invoke/VarHandle" ∧ (parseMethodDescriptor y.desc).map (fun d => d.parameters.length) = some 0) (hR : d' + 1 ≤ d ∧ mL ≤ 13) (hn : pc + 7 = n) : vh_Snd tb nw cl tyl cc nL own ret d Rc Rs ini pc (hi_newc Rc Rs N mc ms cs n) := by
  subst hn
  refine ⟨hs_m1 fun K K' h lv st σ g => ?_, ?_⟩
  · cases hb : Nat.ble (vg_wd st) 6 with
    | false => rw [hb] at g; exact g.elim
    | true => rw [hb] at g; exact ⟨g.1, h _ _ _ _ g.2⟩
  intro p l e R s m args below meth c D tys n0 ad0 A P Z C0 E0 lv st σ h ad H locs ls hag hl ho hs hwf hP hD hS
  unfold hi_newc at h
  cases hb : Nat.ble (vg_wd st) 6 with
  | false => rw [hb] at h; exact h.elim
  | true =>
    rw [hb] at h
    have hwd : vg_wd st ≤ 6 := Nat.le_of_ble_eq_true hb
    obtain ⟨⟨h1, h2⟩, hk⟩ := h
    obtain ⟨hx, hcb, hml, hown, hts, hK, hty, hr, hlocks, hRR, hA, hRc, hini2, hnx⟩ := C0
    refine va_new (ci := ci) (fs := fs) (C := C) (T := T) (N := N) hx hcb hts hin ty hty0 hown (hts _ hk0) (hts _ hinst) (hts _ hini) hK hP hD hS hA hc hfs (by omega) (by omega) hd0 (fun q H1 hP1 hD1 hS1 => ?_)
    refine lv_dup hx hcb hd3 rfl ?_
    have hL : (vh_ws ad tys σ.1).length = σ.1.length := by unfold vh_ws; rw [List.length_mapIdx]
    have hat : (vh_ws ad tys σ.1 ++ [(q, (Sum.inr (ci, fs) : va_E))])[σ.1.length]? = some (q, .inr (ci, fs)) := by
      rw [List.getElem?_append_right (by omega), hL, Nat.sub_self]
      rfl
    have hPc : va_P D cl [(q, .inr (ci, fs))] H1 := by
      intro k x hkx
      have h9 : k < 1 := (List.getElem?_eq_some_iff.mp hkx).1
      have h8 : k = 0 := by omega
      subst h8
      cases hkx
      exact hP1 _ _ hat
    have hold : ∀ (k : Nat) (x : Nat × va_E), (vh_ws ad tys σ.1)[k]? = some x → x.1 < H1.size ∧ ¬ va_A [(q, (Sum.inr (ci, fs) : va_E))] H1.size x.1 := by
      intro k x hkx
      have hkl : k < σ.1.length := by rw [← hL]; exact (List.getElem?_eq_some_iff.mp hkx).1
      have hka : (vh_ws ad tys σ.1 ++ [(q, (Sum.inr (ci, fs) : va_E))])[k]? = some x := by
        rw [List.getElem?_append_left (by rw [hL]; exact hkl)]
        exact hkx
      have hlt := (hP1 k x hka).lt
      refine ⟨hlt, fun z => ?_⟩
      rcases z with ⟨k2, e2, z⟩ | z
      · have h9 : k2 < 1 := (List.getElem?_eq_some_iff.mp z).1
        have h8 : k2 = 0 := by omega
        subst h8
        have h7 : q = x.1 := congrArg Prod.fst (Option.some.inj z)
        have := hD1.1 k σ.1.length x _ hka hat h7.symm
        omega
      · omega
    have hFree : ∀ z, va_A [(q, (Sum.inr (ci, fs) : va_E))] H1.size z → A z := by
      intro z hz
      rcases hz with ⟨k2, e2, hz⟩ | hz
      · have h9 : k2 < 1 := (List.getElem?_eq_some_iff.mp hz).1
        have h8 : k2 = 0 := by omega
        subst h8
        have h7 : q = z := congrArg Prod.fst (Option.some.inj hz)
        rw [← h7]
        exact hD1.2 _ _ hat
      · exact hA z (Nat.le_trans hS1.1 hz)
    have hg : ∀ w ∈ tb, goodWord w = true := fun w h => List.all_eq_true.mp hG w h
    have cw : va_CN R s args own ic y host bytes mL none (.code y bytes mL none :: tb) { frames := d', cells := mc, slots := ms, locals := 32 * d' } mc ms 0 := by
      refine va_cnB 0 hts (fun w hw => ?_) rfl rfl rfl (hnx.1 _ hl2) (hts _ (by rw [hyC]; exact hini)) hy ⟨Nat.le_trans hR.1 hRR.1, ?_⟩
      · rcases List.mem_cons.mp hw with rfl | hw
        · exact ⟨hcw, good_of_word (hg _ hcw)⟩
        · exact ⟨hw, good_of_word (hg _ hw)⟩
      · show 8 + (mL + 11) + 32 * d' ≤ R.locals
        omega
    have hr2 := va_runIN (As := []) (rest := .ref q :: st.map (vg_cv ad)) (locs := locs) (cells := σ.2.1 + 1) (slots := σ.2.2 + N) (below := below) (meth := meth) (e := e) (g := F0 m (pc + 4) ls (.ref q :: .ref q :: st.map (vg_cv ad))) ⟨hx, hcb, hml, hown, hts⟩ (hI.2 l D tys q H1.size hty) ⟨cw, hyn, hts _ hi⟩ ⟨fun a U g mk z => by
        obtain ⟨q0, q1, qP, qK, qN⟩ := z
        exact ⟨q0, q1, qP, va_K.moved (u := U) (U := U.calling g mk a) (Vm.Alike.refl U.vm) qK, vh_nx.blind qN⟩, fun U hU hW => ⟨rfl, by rw [hU], by rw [hU]; exact hPc, va_K.moved hW.alike hK, vh_nx.warm hW hnx⟩⟩ rfl rfl hl.1 rfl (lv_room (by
        show 1 + ((st.map (vg_cv ad)).map fun v => v.category).sum ≤ 8
        rw [vg_wd_sum]
        omega)) hd4 ⟨by omega, by omega⟩
    intro T9 hT X
    obtain ⟨v, st₀, t, T', L, h0, X', hLf, e1, e2, ⟨⟨hv, ad1, hP2, hD2, had1⟩, hF⟩, stp⟩ := hr2 T9 hT X
    cases hv
    obtain ⟨hz, hkp⟩ := hF
    rw [h0] at hz hkp
    have hS2 : va_S A s.heap T'.heap (locs ++ L) := ⟨Nat.le_trans hS1.1 (by rw [e1]; exact hz), fun q h1 h2 => by rw [e1, hkp q (Nat.lt_of_lt_of_le h1 hS1.1) (fun z => h2 (hFree q z))]; exact hS1.2.1 q h1 h2, fun q hq => by
      rcases List.mem_append.mp hq with h | h
      · exact hS1.2.2 q h
      · exact hFree _ (hLf q h)⟩
    have hPn : va_P D cl (vh_ws ad tys σ.1 ++ vh_ws ad1 tys cs) T'.heap := by
      refine va_P.app (fun k x hkx => ?_) (by rw [e1]; exact hP2)
      obtain ⟨g1, g2⟩ := hold k x hkx
      have hka : (vh_ws ad tys σ.1 ++ [(q, (Sum.inr (ci, fs) : va_E))])[k]? = some x := by
        rw [List.getElem?_append_left (List.getElem?_eq_some_iff.mp hkx).1]
        exact hkx
      exact (hP1 k x hka).kept (by rw [e1]; exact hkp x.1 g1 g2)
    have hDn : va_D A (vh_ws ad tys σ.1 ++ vh_ws ad1 tys cs) := va_D.app hD (hD2.weaken (fun k x _ hx => hFree x.1 hx)) (fun i j x y hx' hy' hxy => (hold i x hx').2 (by rw [hxy]; exact hD2.2 j y hy'))
    obtain ⟨t2, a1, b1⟩ := vh_grow hk hag hl ho hs hwf hI.1 hc0 had1 hPn hDn hS2 T' rfl X'
    exact ⟨t2, stp t2 a1, b1⟩
end HN
end
section
-- words of the tables, and what stands at each place of the methods' code (laid by program)
theorem u_0 : Cond.methodLink RX3 1 Lib.objectInit ∈ ww_tb := by decide +kernel
theorem u_1 : Cond.instanceMethod Lib.objectInit ∈ ww_tb := by decide +kernel
theorem u_2 : Cond.code Lib.objectInit ⟨#[0xb1]⟩ 1 none ∈ ww_tb := by decide +kernel
theorem u_3 : Cond.methodLink RX4 3 Lib.objectInit ∈ ww_tb := by decide +kernel
theorem u_4 : Cond.fieldLink RX4 9 (TX4 1).1 (TX4 1).2.1 (TX4 1).2.2.1 ∈ ww_tb := by decide +kernel
theorem u_5 : Cond.fieldLink RX4 15 (TX4 6).1 (TX4 6).2.1 (TX4 6).2.2.1 ∈ ww_tb := by decide +kernel
theorem u_6 : Cond.methodLink RX2 3 Lib.objectInit ∈ ww_tb := by decide +kernel
theorem u_7 : Cond.arrayClass (newarray.typeOf .int) ∈ ww_tb := by decide +kernel
theorem u_8 : Cond.fieldLink RX2 9 (TX2 0).1 (TX2 0).2.1 (TX2 0).2.2.1 ∈ ww_tb := by decide +kernel
theorem u_9 : Cond.fieldLink RX2 15 (TX2 1).1 (TX2 1).2.1 (TX2 1).2.2.1 ∈ ww_tb := by decide +kernel
theorem u_10 : Cond.arrayClass (newarray.typeOf .boolean) ∈ ww_tb := by decide +kernel
theorem u_11 : Cond.fieldLink RX2 18 (TX2 2).1 (TX2 2).2.1 (TX2 2).2.2.1 ∈ ww_tb := by decide +kernel
theorem u_12 : Cond.methodLink RX0 3 Lib.objectInit ∈ ww_tb := by decide +kernel
theorem u_13 : Cond.fieldLink RX0 9 (TX0 3).1 (TX0 3).2.1 (TX0 3).2.2.1 ∈ ww_tb := by decide +kernel
theorem u_14 : Cond.fieldLink RX0 15 (TX0 6).1 (TX0 6).2.1 (TX0 6).2.2.1 ∈ ww_tb := by decide +kernel
theorem u_15 : Cond.fieldLink RX0 18 (TX0 8).1 (TX0 8).2.1 (TX0 8).2.2.1 ∈ ww_tb := by decide +kernel
theorem u_16 : Cond.fieldLink RX0 22 (TX0 9).1 (TX0 9).2.1 (TX0 9).2.2.1 ∈ ww_tb := by decide +kernel
theorem u_17 : Cond.fieldLink RX0 25 (TX0 10).1 (TX0 10).2.1 (TX0 10).2.2.1 ∈ ww_tb := by decide +kernel
theorem u_18 : Cond.fieldLink RX0 28 (TX0 11).1 (TX0 11).2.1 (TX0 11).2.2.1 ∈ ww_tb := by decide +kernel
theorem u_19 : Cond.fieldLink RX0 31 (TX0 12).1 (TX0 12).2.1 (TX0 12).2.2.1 ∈ ww_tb := by decide +kernel
theorem dX3_init_0 : decode cX3_init 0 = .ok (.aload_n 0, 1) := by decide +kernel
theorem dX3_init_1 : decode cX3_init 1 = .ok (.invokespecial 1, 3) := by decide +kernel
theorem dX3_init_4 : decode cX3_init 4 = .ok (.return_, 1) := by decide +kernel
theorem dX4_init_0 : decode cX4_init 0 = .ok (.aload_n 0, 1) := by decide +kernel
theorem dX4_init_1 : decode cX4_init 1 = .ok (.invokespecial 3, 3) := by decide +kernel
theorem dX4_init_4 : decode cX4_init 4 = .ok (.aload_n 0, 1) := by decide +kernel
theorem dX4_init_5 : decode cX4_init 5 = .ok (.iconst (-1), 1) := by decide +kernel
theorem dX4_init_6 : decode cX4_init 6 = .ok (.putfield 9, 3) := by decide +kernel
theorem dX4_init_9 : decode cX4_init 9 = .ok (.aload_n 0, 1) := by decide +kernel
theorem dX4_init_10 : decode cX4_init 10 = .ok (.iconst (-1), 1) := by decide +kernel
theorem dX4_init_11 : decode cX4_init 11 = .ok (.putfield 15, 3) := by decide +kernel
theorem dX4_init_14 : decode cX4_init 14 = .ok (.return_, 1) := by decide +kernel
theorem dX2_init_0 : decode cX2_init 0 = .ok (.aload_n 0, 1) := by decide +kernel
theorem dX2_init_1 : decode cX2_init 1 = .ok (.invokespecial 3, 3) := by decide +kernel
theorem dX2_init_4 : decode cX2_init 4 = .ok (.aload_n 0, 1) := by decide +kernel
theorem dX2_init_5 : decode cX2_init 5 = .ok (.iconst 5, 1) := by decide +kernel
theorem dX2_init_6 : decode cX2_init 6 = .ok (.newarray .int, 2) := by decide +kernel
theorem dX2_init_8 : decode cX2_init 8 = .ok (.putfield 9, 3) := by decide +kernel
theorem dX2_init_11 : decode cX2_init 11 = .ok (.aload_n 0, 1) := by decide +kernel
theorem dX2_init_12 : decode cX2_init 12 = .ok (.iconst 5, 1) := by decide +kernel
theorem dX2_init_13 : decode cX2_init 13 = .ok (.newarray .int, 2) := by decide +kernel
theorem dX2_init_15 : decode cX2_init 15 = .ok (.putfield 15, 3) := by decide +kernel
theorem dX2_init_18 : decode cX2_init 18 = .ok (.aload_n 0, 1) := by decide +kernel
theorem dX2_init_19 : decode cX2_init 19 = .ok (.iconst 5, 1) := by decide +kernel
theorem dX2_init_20 : decode cX2_init 20 = .ok (.newarray .boolean, 2) := by decide +kernel
theorem dX2_init_22 : decode cX2_init 22 = .ok (.putfield 18, 3) := by decide +kernel
theorem dX2_init_25 : decode cX2_init 25 = .ok (.return_, 1) := by decide +kernel
theorem dX0_init_0 : decode cX0_init 0 = .ok (.aload_n 0, 1) := by decide +kernel
theorem dX0_init_1 : decode cX0_init 1 = .ok (.invokespecial 3, 3) := by decide +kernel
theorem dX0_init_4 : decode cX0_init 4 = .ok (.aload_n 0, 1) := by decide +kernel
theorem dX0_init_5 : decode cX0_init 5 = .ok (.iconst 5, 1) := by decide +kernel
theorem dX0_init_6 : decode cX0_init 6 = .ok (.putfield 9, 3) := by decide +kernel
theorem dX0_init_9 : decode cX0_init 9 = .ok (.aload_n 0, 1) := by decide +kernel
theorem dX0_init_10 : decode cX0_init 10 = .ok (.iconst (-1), 1) := by decide +kernel
theorem dX0_init_11 : decode cX0_init 11 = .ok (.putfield 15, 3) := by decide +kernel
theorem dX0_init_14 : decode cX0_init 14 = .ok (.aload_n 0, 1) := by decide +kernel
theorem dX0_init_15 : decode cX0_init 15 = .ok (.bipush 12, 2) := by decide +kernel
theorem dX0_init_17 : decode cX0_init 17 = .ok (.newarray .int, 2) := by decide +kernel
theorem dX0_init_19 : decode cX0_init 19 = .ok (.putfield 18, 3) := by decide +kernel
theorem dX0_init_22 : decode cX0_init 22 = .ok (.aload_n 0, 1) := by decide +kernel
theorem dX0_init_23 : decode cX0_init 23 = .ok (.bipush 12, 2) := by decide +kernel
theorem dX0_init_25 : decode cX0_init 25 = .ok (.newarray .int, 2) := by decide +kernel
theorem dX0_init_27 : decode cX0_init 27 = .ok (.putfield 22, 3) := by decide +kernel
theorem dX0_init_30 : decode cX0_init 30 = .ok (.aload_n 0, 1) := by decide +kernel
theorem dX0_init_31 : decode cX0_init 31 = .ok (.bipush 12, 2) := by decide +kernel
theorem dX0_init_33 : decode cX0_init 33 = .ok (.newarray .int, 2) := by decide +kernel
theorem dX0_init_35 : decode cX0_init 35 = .ok (.putfield 25, 3) := by decide +kernel
theorem dX0_init_38 : decode cX0_init 38 = .ok (.aload_n 0, 1) := by decide +kernel
theorem dX0_init_39 : decode cX0_init 39 = .ok (.bipush 12, 2) := by decide +kernel
theorem dX0_init_41 : decode cX0_init 41 = .ok (.newarray .int, 2) := by decide +kernel
theorem dX0_init_43 : decode cX0_init 43 = .ok (.putfield 28, 3) := by decide +kernel
theorem dX0_init_46 : decode cX0_init 46 = .ok (.aload_n 0, 1) := by decide +kernel
theorem dX0_init_47 : decode cX0_init 47 = .ok (.bipush 12, 2) := by decide +kernel
theorem dX0_init_49 : decode cX0_init 49 = .ok (.newarray .int, 2) := by decide +kernel
theorem dX0_init_51 : decode cX0_init 51 = .ok (.putfield 31, 3) := by decide +kernel
theorem dX0_init_54 : decode cX0_init 54 = .ok (.iconst 0, 1) := by decide +kernel
theorem dX0_init_55 : decode cX0_init 55 = .ok (.istore_n 1, 1) := by decide +kernel
theorem dX0_init_56 : decode cX0_init 56 = .ok (.iload_n 1, 1) := by decide +kernel
theorem dX0_init_57 : decode cX0_init 57 = .ok (.bipush 12, 2) := by decide +kernel
theorem dX0_init_59 : decode cX0_init 59 = .ok (.if_icmp .ge 37, 3) := by decide +kernel
theorem dX0_init_62 : decode cX0_init 62 = .ok (.aload_n 0, 1) := by decide +kernel
theorem dX0_init_63 : decode cX0_init 63 = .ok (.getfield 22, 3) := by decide +kernel
theorem dX0_init_66 : decode cX0_init 66 = .ok (.iload_n 1, 1) := by decide +kernel
theorem dX0_init_67 : decode cX0_init 67 = .ok (.iconst (-1), 1) := by decide +kernel
theorem dX0_init_68 : decode cX0_init 68 = .ok (.iastore, 1) := by decide +kernel
theorem dX0_init_69 : decode cX0_init 69 = .ok (.aload_n 0, 1) := by decide +kernel
theorem dX0_init_70 : decode cX0_init 70 = .ok (.getfield 25, 3) := by decide +kernel
theorem dX0_init_73 : decode cX0_init 73 = .ok (.iload_n 1, 1) := by decide +kernel
theorem dX0_init_74 : decode cX0_init 74 = .ok (.iconst (-1), 1) := by decide +kernel
theorem dX0_init_75 : decode cX0_init 75 = .ok (.iastore, 1) := by decide +kernel
theorem dX0_init_76 : decode cX0_init 76 = .ok (.aload_n 0, 1) := by decide +kernel
theorem dX0_init_77 : decode cX0_init 77 = .ok (.getfield 28, 3) := by decide +kernel
theorem dX0_init_80 : decode cX0_init 80 = .ok (.iload_n 1, 1) := by decide +kernel
theorem dX0_init_81 : decode cX0_init 81 = .ok (.iconst (-1), 1) := by decide +kernel
theorem dX0_init_82 : decode cX0_init 82 = .ok (.iastore, 1) := by decide +kernel
theorem dX0_init_83 : decode cX0_init 83 = .ok (.aload_n 0, 1) := by decide +kernel
theorem dX0_init_84 : decode cX0_init 84 = .ok (.getfield 31, 3) := by decide +kernel
theorem dX0_init_87 : decode cX0_init 87 = .ok (.iload_n 1, 1) := by decide +kernel
theorem dX0_init_88 : decode cX0_init 88 = .ok (.iconst (-1), 1) := by decide +kernel
theorem dX0_init_89 : decode cX0_init 89 = .ok (.iastore, 1) := by decide +kernel
theorem dX0_init_90 : decode cX0_init 90 = .ok (.iinc 1 1, 3) := by decide +kernel
theorem dX0_init_93 : decode cX0_init 93 = .ok (.goto (-37), 3) := by decide +kernel
theorem dX0_init_96 : decode cX0_init 96 = .ok (.return_, 1) := by decide +kernel
/-! the constructors of the class: which cells they leave -/
def wh_nx : vhW := (ww_nw ++ [(RX1, 38, yX2_init, "WarnWave"), (RX1, 54, yX3_init, "WarnWave"), (RX1, 55, yX4_init, "WarnWave")], [RX0, RX3, RX4], true)
/-- counting up from 0 -/
def wi : Nat → Int32
  | 0 => 0
  | k + 1 => wi k + 1
theorem wi_nat : ∀ k, k < 17 → (wi k).toNatClampNeg = k := by decide +kernel
theorem wi_lt8 : ∀ k, k < 8 → ¬ (8 : Int32) ≤ wi k := by decide +kernel
theorem wi_lt3 : ∀ k, k < 3 → ¬ (3 : Int32) ≤ wi k := by decide +kernel
theorem wi_lt12 : ∀ k, k < 12 → ¬ (12 : Int32) ≤ wi k := by decide +kernel
theorem wi_lt16 : ∀ k, k < 16 → ¬ (16 : Int32) ≤ wi k := by decide +kernel
theorem wi_ge : (8 : Int32) ≤ wi 8 ∧ (3 : Int32) ≤ wi 3 ∧ (12 : Int32) ≤ wi 12 ∧ (16 : Int32) ≤ wi 16 := by decide +kernel
theorem wi_in {k n : Nat} (hk : k < n) (hn : n < 17) : vp_in (wi k) n := by
  rintro (h | h)
  · have : ∀ k, k < 17 → ¬ wi k < 0 := by decide +kernel
    exact this k (by omega) h
  · rw [wi_nat k (by omega)] at h
    omega
/-- 'NONE' written to the first k places -/
def wh_f : Nat → Nat → Int32
  | 0 => fun _ => 0
  | k + 1 => upd (wh_f k) (wi k).toNatClampNeg (-1)
/-- the places b, b + st .. written to the first k places of a row -/
def wl_f (b st : Nat) : Nat → Nat → Option Nat
  | 0 => fun _ => none
  | k + 1 => va_up (wl_f b st k) (wi k).toNatClampNeg (some (b + st * k))
def wc_z (t n : Nat) : vhC := .inr (t, n, .inl (fun _ => 0))
def vi_ (x : Int32) : vgV := .inl (.int x)
/-! Shelter, Warning -/
def fs_X3 : List Value := [.int 0, .int 0]
def cs_X3 : vhS := [.inl (3, [vi_ 0, vi_ 0])]
def fs_X4 : List Value := [.int 0, .int 0, .int 0, .int 0, .int 0, .int 0, .int 0, .int 0]
def cs_X4 : vhS := [.inl (4, [vi_ 0, vi_ (-1), vi_ 0, vi_ 0, vi_ 0, vi_ 0, vi_ (-1), vi_ 0])]
theorem vh_okI {n : Nat} : ∀ {l : List vgV}, l.all (fun v => match v with | .inl _ => true | .inr z => decide (z ∈ vh_N n)) = true → ∀ v ∈ l, vg_ok (vh_N n) v := by
  intro l h v hv
  have h2 := List.all_eq_true.mp h v hv
  cases v with
  | inl v => trivial
  | inr z =>
    show z ∈ vh_N n
    exact of_decide_eq_true h2
theorem wf_X3 : vh_wf cs_X3 := by
  intro c hc
  rw [List.mem_singleton.mp hc]
  exact vh_okI (by decide +kernel)
theorem wf_X4 : vh_wf cs_X4 := by
  intro c hc
  rw [List.mem_singleton.mp hc]
  exact vh_okI (by decide +kernel)
def k_X3_init : List (Nat × vhF) := [(0, hi_aload 0 1), (1, hi_oinit 4), (4, hi_retV)]
set_option maxRecDepth 20000 in
theorem s_X3_init : ∀ q ∈ k_X3_init, vh_Snd ww_tb wh_nx ww_cl ww_tyl cX3_init 1 RX3 none 1 0 0 true q.1 q.2 := by
  refine vg_cons (ht_aload_n dX3_init_0 rfl rfl) ?_
  refine vg_cons (ht_oinit dX3_init_1 u_0 u_1 u_2 (by decide) rfl) ?_
  refine vg_cons (ht_return dX3_init_4 rfl) ?_
  exact fun _ h => absurd h List.not_mem_nil
theorem m_X3_init : vh_Code k_X3_init := fun q h => (s_X3_init q h).1

theorem go_X3_init : vh_Go k_X3_init (fun r σ => r = none ∧ σ.1 = cs_X3 ∧ σ.2.1 ≤ 0 ∧ σ.2.2 ≤ 0) 0 [(0, .inr (vh_n 0))] [] ([.inl (3, fs_X3.map .inl)], 0, 0) := by
  refine vh_run (cuts := []) m_X3_init 10 ?_
  exact ⟨rfl, rfl, Nat.le_refl _, Nat.le_refl _⟩
theorem I_X3_init : vh_Ini ww_tb wh_nx ww_cl ww_tyl yX3_init cX3_init 1 1 0 0 3 fs_X3 cs_X3 := vh_ini wf_X3 (by decide +kernel) rfl rfl (by decide) s_X3_init go_X3_init
def k_X4_init : List (Nat × vhF) := [(0, hi_aload 0 1), (1, hi_oinit 4), (4, hi_aload 0 5), (5, hi_icst (-1) 6), (6, hi_putI 4 1 9), (9, hi_aload 0 10), (10, hi_icst (-1) 11), (11, hi_putI 4 6 14), (14, hi_retV)]
set_option maxRecDepth 20000 in
theorem s_X4_init : ∀ q ∈ k_X4_init, vh_Snd ww_tb wh_nx ww_cl ww_tyl cX4_init 1 RX4 none 1 0 0 true q.1 q.2 := by
  refine vg_cons (ht_aload_n dX4_init_0 rfl rfl) ?_
  refine vg_cons (ht_oinit dX4_init_1 u_3 u_1 u_2 (by decide) rfl) ?_
  refine vg_cons (ht_aload_n dX4_init_4 rfl rfl) ?_
  refine vg_cons (ht_iconst dX4_init_5 rfl rfl) ?_
  refine vg_cons (ht_putI (T := TX4) tyX4 dX4_init_6 rfl (by decide) ww_inX4 tyX4_ok nmX4 rfl rfl u_4 rfl) ?_
  refine vg_cons (ht_aload_n dX4_init_9 rfl rfl) ?_
  refine vg_cons (ht_iconst dX4_init_10 rfl rfl) ?_
  refine vg_cons (ht_putI (T := TX4) tyX4 dX4_init_11 rfl (by decide) ww_inX4 tyX4_ok nmX4 rfl rfl u_5 rfl) ?_
  refine vg_cons (ht_return dX4_init_14 rfl) ?_
  exact fun _ h => absurd h List.not_mem_nil
theorem m_X4_init : vh_Code k_X4_init := fun q h => (s_X4_init q h).1

theorem go_X4_init : vh_Go k_X4_init (fun r σ => r = none ∧ σ.1 = cs_X4 ∧ σ.2.1 ≤ 0 ∧ σ.2.2 ≤ 0) 0 [(0, .inr (vh_n 0))] [] ([.inl (4, fs_X4.map .inl)], 0, 0) := by
  refine vh_run (cuts := []) m_X4_init 20 ?_
  exact ⟨rfl, rfl, Nat.le_refl _, Nat.le_refl _⟩
theorem I_X4_init : vh_Ini ww_tb wh_nx ww_cl ww_tyl yX4_init cX4_init 1 1 0 0 4 fs_X4 cs_X4 := vh_ini wf_X4 (by decide +kernel) rfl rfl (by decide) s_X4_init go_X4_init
/-! Senders -/
def fs_X2 : List Value := [.null, .null, .null, .int 0]
def cs_X2 : vhS := [.inl (2, [.inr (vh_n 1), .inr (vh_n 2), .inr (vh_n 3), vi_ 0]), wc_z 0 5, wc_z 0 5, wc_z 1 5]
theorem wf_X2 : vh_wf cs_X2 := by
  intro c hc
  rcases List.mem_cons.mp hc with rfl | hc
  · exact vh_okI (by decide +kernel)
  rcases List.mem_cons.mp hc with rfl | hc
  · trivial
  rcases List.mem_cons.mp hc with rfl | hc
  · trivial
  rw [List.mem_singleton.mp hc]
  trivial
def k_X2_init : List (Nat × vhF) := [(0, hi_aload 0 1), (1, hi_oinit 4), (4, hi_aload 0 5), (5, hi_icst (5) 6), (6, hi_newa 0 3 15 8), (8, hi_putR 2 0 11), (11, hi_aload 0 12), (12, hi_icst (5) 13), (13, hi_newa 0 3 15 15), (15, hi_putR 2 1 18), (18, hi_aload 0 19), (19, hi_icst (5) 20), (20, hi_newa 1 3 15 22), (22, hi_putR 2 2 25), (25, hi_retV)]
set_option maxRecDepth 20000 in
theorem s_X2_init : ∀ q ∈ k_X2_init, vh_Snd ww_tb wh_nx ww_cl ww_tyl cX2_init 1 RX2 none 1 3 15 true q.1 q.2 := by
  refine vg_cons (ht_aload_n dX2_init_0 rfl rfl) ?_
  refine vg_cons (ht_oinit dX2_init_1 u_6 u_1 u_2 (by decide) rfl) ?_
  refine vg_cons (ht_aload_n dX2_init_4 rfl rfl) ?_
  refine vg_cons (ht_iconst dX2_init_5 rfl rfl) ?_
  refine vg_cons (ht_newa (atype := .int) rfl (fun _ _ => rfl) (by decide) rfl u_7 dX2_init_6 rfl) ?_
  refine vg_cons (ht_putF (T := TX2) tyX2 rfl dX2_init_8 rfl (by decide) ww_inX2 tyX2_ok nmX2 rfl rfl (fun _ => ⟨rfl, rfl⟩) u_8 rfl) ?_
  refine vg_cons (ht_aload_n dX2_init_11 rfl rfl) ?_
  refine vg_cons (ht_iconst dX2_init_12 rfl rfl) ?_
  refine vg_cons (ht_newa (atype := .int) rfl (fun _ _ => rfl) (by decide) rfl u_7 dX2_init_13 rfl) ?_
  refine vg_cons (ht_putF (T := TX2) tyX2 rfl dX2_init_15 rfl (by decide) ww_inX2 tyX2_ok nmX2 rfl rfl (fun _ => ⟨rfl, rfl⟩) u_9 rfl) ?_
  refine vg_cons (ht_aload_n dX2_init_18 rfl rfl) ?_
  refine vg_cons (ht_iconst dX2_init_19 rfl rfl) ?_
  refine vg_cons (ht_newa (atype := .boolean) rfl (fun _ _ => rfl) (by decide) rfl u_10 dX2_init_20 rfl) ?_
  refine vg_cons (ht_putF (T := TX2) tyX2 rfl dX2_init_22 rfl (by decide) ww_inX2 tyX2_ok nmX2 rfl rfl (fun _ => ⟨rfl, rfl⟩) u_11 rfl) ?_
  refine vg_cons (ht_return dX2_init_25 rfl) ?_
  exact fun _ h => absurd h List.not_mem_nil
theorem m_X2_init : vh_Code k_X2_init := fun q h => (s_X2_init q h).1

theorem wi_5 : ¬ (5 : Int32) < 0 ∧ (5 : Int32).toNatClampNeg ≤ 1000 := by decide +kernel
theorem go_X2_init : vh_Go k_X2_init (fun r σ => r = none ∧ σ.1 = cs_X2 ∧ σ.2.1 ≤ 3 ∧ σ.2.2 ≤ 15) 0 [(0, .inr (vh_n 0))] [] ([.inl (2, fs_X2.map .inl)], 0, 0) := by
  refine vh_run (cuts := []) m_X2_init 30 ?_
  refine And.intro ⟨by decide, by decide, by decide, by decide⟩ (And.intro ⟨by decide, by decide, by decide, by decide⟩ (And.intro ⟨by decide, by decide, by decide, by decide⟩ ?_))
  exact ⟨rfl, rfl, by decide, by decide⟩
theorem I_X2_init : vh_Ini ww_tb wh_nx ww_cl ww_tyl yX2_init cX2_init 1 1 3 15 2 fs_X2 cs_X2 := vh_ini wf_X2 (by decide +kernel) rfl rfl (by decide) s_X2_init go_X2_init
/-! Group -/
def fs_X0 : List Value := [.int 0, .int 0, .int 0, .int 0, .int 0, .int 0, .int 0, .int 0, .null, .null, .null, .null, .null]
def wg_S (k : Nat) : vhS := [.inl (5, [vi_ 0, vi_ 0, vi_ 0, vi_ 5, vi_ 0, vi_ 0, vi_ (-1), vi_ 0, .inr (vh_n 1), .inr (vh_n 2), .inr (vh_n 3), .inr (vh_n 4), .inr (vh_n 5)]), wc_z 0 12, .inr (0, 12, .inl (wh_f k)), .inr (0, 12, .inl (wh_f k)), .inr (0, 12, .inl (wh_f k)), .inr (0, 12, .inl (wh_f k))]
def cs_X0 : vhS := wg_S 12
theorem wf_X0 : vh_wf cs_X0 := by
  intro c hc
  rcases List.mem_cons.mp hc with rfl | hc
  · exact vh_okI (by decide +kernel)
  rcases List.mem_cons.mp hc with rfl | hc
  · trivial
  rcases List.mem_cons.mp hc with rfl | hc
  · trivial
  rcases List.mem_cons.mp hc with rfl | hc
  · trivial
  rcases List.mem_cons.mp hc with rfl | hc
  · trivial
  rw [List.mem_singleton.mp hc]
  trivial
def k_X0_init : List (Nat × vhF) := [(0, hi_aload 0 1), (1, hi_oinit 4), (4, hi_aload 0 5), (5, hi_icst (5) 6), (6, hi_putI 5 3 9), (9, hi_aload 0 10), (10, hi_icst (-1) 11), (11, hi_putI 5 6 14), (14, hi_aload 0 15), (15, hi_icst (12) 17), (17, hi_newa 0 5 60 19), (19, hi_putR 5 8 22), (22, hi_aload 0 23), (23, hi_icst (12) 25), (25, hi_newa 0 5 60 27), (27, hi_putR 5 9 30), (30, hi_aload 0 31), (31, hi_icst (12) 33), (33, hi_newa 0 5 60 35), (35, hi_putR 5 10 38), (38, hi_aload 0 39), (39, hi_icst (12) 41), (41, hi_newa 0 5 60 43), (43, hi_putR 5 11 46), (46, hi_aload 0 47), (47, hi_icst (12) 49), (49, hi_newa 0 5 60 51), (51, hi_putR 5 12 54), (54, hi_icst (0) 55), (55, hi_istore 1 56), (56, hi_iload 1 57), (57, hi_icst (12) 59), (59, hi_cmp (fun x y => y ≤ x) 96 62), (62, hi_aload 0 63), (63, hi_get 5 9 66), (66, hi_iload 1 67), (67, hi_icst (-1) 68), (68, hi_iast 0 69), (69, hi_aload 0 70), (70, hi_get 5 10 73), (73, hi_iload 1 74), (74, hi_icst (-1) 75), (75, hi_iast 0 76), (76, hi_aload 0 77), (77, hi_get 5 11 80), (80, hi_iload 1 81), (81, hi_icst (-1) 82), (82, hi_iast 0 83), (83, hi_aload 0 84), (84, hi_get 5 12 87), (87, hi_iload 1 88), (88, hi_icst (-1) 89), (89, hi_iast 0 90), (90, hi_iinc 1 (1) 93), (93, hi_goto 56), (96, hi_retV)]
set_option maxRecDepth 20000 in
theorem s_X0_init : ∀ q ∈ k_X0_init, vh_Snd ww_tb wh_nx ww_cl ww_tyl cX0_init 2 RX0 none 1 5 60 true q.1 q.2 := by
  refine vg_cons (ht_aload_n dX0_init_0 rfl rfl) ?_
  refine vg_cons (ht_oinit dX0_init_1 u_12 u_1 u_2 (by decide) rfl) ?_
  refine vg_cons (ht_aload_n dX0_init_4 rfl rfl) ?_
  refine vg_cons (ht_iconst dX0_init_5 rfl rfl) ?_
  refine vg_cons (ht_putI (T := TX0) tyX0 dX0_init_6 rfl (by decide) ww_inX0 tyX0_ok nmX0 rfl rfl u_13 rfl) ?_
  refine vg_cons (ht_aload_n dX0_init_9 rfl rfl) ?_
  refine vg_cons (ht_iconst dX0_init_10 rfl rfl) ?_
  refine vg_cons (ht_putI (T := TX0) tyX0 dX0_init_11 rfl (by decide) ww_inX0 tyX0_ok nmX0 rfl rfl u_14 rfl) ?_
  refine vg_cons (ht_aload_n dX0_init_14 rfl rfl) ?_
  refine vg_cons (ht_bipush dX0_init_15 (by decide) rfl) ?_
  refine vg_cons (ht_newa (atype := .int) rfl (fun _ _ => rfl) (by decide) rfl u_7 dX0_init_17 rfl) ?_
  refine vg_cons (ht_putF (T := TX0) tyX0 rfl dX0_init_19 rfl (by decide) ww_inX0 tyX0_ok nmX0 rfl rfl (fun _ => ⟨rfl, rfl⟩) u_15 rfl) ?_
  refine vg_cons (ht_aload_n dX0_init_22 rfl rfl) ?_
  refine vg_cons (ht_bipush dX0_init_23 (by decide) rfl) ?_
  refine vg_cons (ht_newa (atype := .int) rfl (fun _ _ => rfl) (by decide) rfl u_7 dX0_init_25 rfl) ?_
  refine vg_cons (ht_putF (T := TX0) tyX0 rfl dX0_init_27 rfl (by decide) ww_inX0 tyX0_ok nmX0 rfl rfl (fun _ => ⟨rfl, rfl⟩) u_16 rfl) ?_
  refine vg_cons (ht_aload_n dX0_init_30 rfl rfl) ?_
  refine vg_cons (ht_bipush dX0_init_31 (by decide) rfl) ?_
  refine vg_cons (ht_newa (atype := .int) rfl (fun _ _ => rfl) (by decide) rfl u_7 dX0_init_33 rfl) ?_
  refine vg_cons (ht_putF (T := TX0) tyX0 rfl dX0_init_35 rfl (by decide) ww_inX0 tyX0_ok nmX0 rfl rfl (fun _ => ⟨rfl, rfl⟩) u_17 rfl) ?_
  refine vg_cons (ht_aload_n dX0_init_38 rfl rfl) ?_
  refine vg_cons (ht_bipush dX0_init_39 (by decide) rfl) ?_
  refine vg_cons (ht_newa (atype := .int) rfl (fun _ _ => rfl) (by decide) rfl u_7 dX0_init_41 rfl) ?_
  refine vg_cons (ht_putF (T := TX0) tyX0 rfl dX0_init_43 rfl (by decide) ww_inX0 tyX0_ok nmX0 rfl rfl (fun _ => ⟨rfl, rfl⟩) u_18 rfl) ?_
  refine vg_cons (ht_aload_n dX0_init_46 rfl rfl) ?_
  refine vg_cons (ht_bipush dX0_init_47 (by decide) rfl) ?_
  refine vg_cons (ht_newa (atype := .int) rfl (fun _ _ => rfl) (by decide) rfl u_7 dX0_init_49 rfl) ?_
  refine vg_cons (ht_putF (T := TX0) tyX0 rfl dX0_init_51 rfl (by decide) ww_inX0 tyX0_ok nmX0 rfl rfl (fun _ => ⟨rfl, rfl⟩) u_19 rfl) ?_
  refine vg_cons (ht_iconst dX0_init_54 rfl rfl) ?_
  refine vg_cons (ht_istore_n dX0_init_55 rfl (by decide) rfl) ?_
  refine vg_cons (ht_iload_n dX0_init_56 rfl rfl) ?_
  refine vg_cons (ht_bipush dX0_init_57 (by decide) rfl) ?_
  refine vg_cons (ht_cmp_ge dX0_init_59 (by decide) rfl) ?_
  refine vg_cons (ht_aload_n dX0_init_62 rfl rfl) ?_
  refine vg_cons (ht_getfield (T := TX0) dX0_init_63 rfl (by decide) ww_inX0 u_16 rfl) ?_
  refine vg_cons (ht_iload_n dX0_init_66 rfl rfl) ?_
  refine vg_cons (ht_iconst dX0_init_67 rfl rfl) ?_
  refine vg_cons (ht_iast dX0_init_68 rfl rfl) ?_
  refine vg_cons (ht_aload_n dX0_init_69 rfl rfl) ?_
  refine vg_cons (ht_getfield (T := TX0) dX0_init_70 rfl (by decide) ww_inX0 u_17 rfl) ?_
  refine vg_cons (ht_iload_n dX0_init_73 rfl rfl) ?_
  refine vg_cons (ht_iconst dX0_init_74 rfl rfl) ?_
  refine vg_cons (ht_iast dX0_init_75 rfl rfl) ?_
  refine vg_cons (ht_aload_n dX0_init_76 rfl rfl) ?_
  refine vg_cons (ht_getfield (T := TX0) dX0_init_77 rfl (by decide) ww_inX0 u_18 rfl) ?_
  refine vg_cons (ht_iload_n dX0_init_80 rfl rfl) ?_
  refine vg_cons (ht_iconst dX0_init_81 rfl rfl) ?_
  refine vg_cons (ht_iast dX0_init_82 rfl rfl) ?_
  refine vg_cons (ht_aload_n dX0_init_83 rfl rfl) ?_
  refine vg_cons (ht_getfield (T := TX0) dX0_init_84 rfl (by decide) ww_inX0 u_19 rfl) ?_
  refine vg_cons (ht_iload_n dX0_init_87 rfl rfl) ?_
  refine vg_cons (ht_iconst dX0_init_88 rfl rfl) ?_
  refine vg_cons (ht_iast dX0_init_89 rfl rfl) ?_
  refine vg_cons (ht_iinc dX0_init_90 rfl rfl) ?_
  refine vg_cons (ht_goto dX0_init_93 (by decide)) ?_
  refine vg_cons (ht_return dX0_init_96 rfl) ?_
  exact fun _ h => absurd h List.not_mem_nil
theorem m_X0_init : vh_Code k_X0_init := fun q h => (s_X0_init q h).1

abbrev wg_P : vhO := fun r σ => r = none ∧ σ.1 = cs_X0 ∧ σ.2.1 ≤ 5 ∧ σ.2.2 ≤ 60
theorem wg_loop : ∀ n k, n + k = 12 → vh_Go k_X0_init wg_P 56 [(0, .inr (vh_n 0)), (1, .inl (.int (wi k)))] [] (wg_S k, 5, 60)
  | 0, k, h => by
    have hk : k = 12 := by omega
    subst hk
    refine vh_run (cuts := [(56, [0, 1])]) m_X0_init 6 ?_
    exact And.intro (fun _ => ⟨rfl, rfl, Nat.le_refl _, Nat.le_refl _⟩) (fun hc => absurd wi_ge.2.2.1 hc)
  | n + 1, k, h => by
    have hv : vp_in (wi k) 12 := wi_in (by omega) (by decide)
    refine vh_run (cuts := [(56, [0, 1])]) m_X0_init 40 ?_
    refine And.intro (fun hc => absurd hc (wi_lt12 k (by omega))) (fun _ => And.intro hv (And.intro hv (And.intro hv (And.intro hv ?_))))
    exact wg_loop n (k + 1) (by omega)
theorem go_X0_init : vh_Go k_X0_init wg_P 0 [(0, .inr (vh_n 0))] [] ([.inl (5, fs_X0.map .inl)], 0, 0) := by
  refine vh_run (cuts := [(56, [0, 1])]) m_X0_init 60 ?_
  refine And.intro ⟨by decide, by decide, by decide, by decide⟩ (And.intro ⟨by decide, by decide, by decide, by decide⟩ (And.intro ⟨by decide, by decide, by decide, by decide⟩ (And.intro ⟨by decide, by decide, by decide, by decide⟩ (And.intro ⟨by decide, by decide, by decide, by decide⟩ ?_))))
  exact wg_loop 12 0 rfl
theorem I_X0_init : vh_Ini ww_tb wh_nx ww_cl ww_tyl yX0_init cX0_init 2 1 5 60 5 fs_X0 cs_X0 := vh_ini wf_X0 (by decide +kernel) rfl rfl (by decide) s_X0_init go_X0_init
end
section
-- words of the tables, and what stands at each place of the methods' code (laid by program)
theorem u_20 : Cond.methodLink RX1 3 Lib.objectInit ∈ ww_tb := by decide +kernel
theorem u_21 : Cond.fieldLink RX1 9 (TX1 1).1 (TX1 1).2.1 (TX1 1).2.2.1 ∈ ww_tb := by decide +kernel
theorem u_22 : Cond.fieldLink RX1 15 (TX1 2).1 (TX1 2).2.1 (TX1 2).2.2.1 ∈ ww_tb := by decide +kernel
theorem u_23 : Cond.classLink RX1 18 RX0 ∈ ww_tb := by decide +kernel
theorem u_24 : Cond.fieldLink RX1 20 (TX1 7).1 (TX1 7).2.1 (TX1 7).2.2.1 ∈ ww_tb := by decide +kernel
theorem u_25 : Cond.classLink RX1 24 RX3 ∈ ww_tb := by decide +kernel
theorem u_26 : Cond.fieldLink RX1 26 (TX1 8).1 (TX1 8).2.1 (TX1 8).2.2.1 ∈ ww_tb := by decide +kernel
theorem u_27 : Cond.classLink RX1 30 RX4 ∈ ww_tb := by decide +kernel
theorem u_28 : Cond.fieldLink RX1 32 (TX1 9).1 (TX1 9).2.1 (TX1 9).2.2.1 ∈ ww_tb := by decide +kernel
theorem u_29 : Cond.classLink RX1 36 RX2 ∈ ww_tb := by decide +kernel
theorem u_30 : Cond.instantiable RX2 4 ∈ ww_tb := by decide +kernel
theorem u_31 : Cond.initialized RX2 ∈ ww_tb := by decide +kernel
theorem u_32 : Cond.code yX2_init cX2_init 1 none ∈ ww_tb := by decide +kernel
theorem u_33 : Cond.instanceMethod yX2_init ∈ ww_tb := by decide +kernel
theorem u_34 : Cond.fieldLink RX1 39 (TX1 10).1 (TX1 10).2.1 (TX1 10).2.2.1 ∈ ww_tb := by decide +kernel
theorem u_35 : Cond.fieldLink RX1 43 (TX1 11).1 (TX1 11).2.1 (TX1 11).2.2.1 ∈ ww_tb := by decide +kernel
theorem u_36 : Cond.fieldLink RX1 46 (TX1 12).1 (TX1 12).2.1 (TX1 12).2.2.1 ∈ ww_tb := by decide +kernel
theorem u_37 : Cond.fieldLink RX1 50 (TX1 13).1 (TX1 13).2.1 (TX1 13).2.2.1 ∈ ww_tb := by decide +kernel
theorem u_38 : Cond.methodLink RX1 53 yX0_init ∈ ww_tb := by decide +kernel
theorem u_39 : Cond.instantiable RX0 13 ∈ ww_tb := by decide +kernel
theorem u_40 : Cond.initialized RX0 ∈ ww_tb := by decide +kernel
theorem u_41 : Cond.code yX0_init cX0_init 2 none ∈ ww_tb := by decide +kernel
theorem u_42 : Cond.instanceMethod yX0_init ∈ ww_tb := by decide +kernel
theorem u_43 : Cond.instantiable RX3 2 ∈ ww_tb := by decide +kernel
theorem u_44 : Cond.initialized RX3 ∈ ww_tb := by decide +kernel
theorem u_45 : Cond.code yX3_init cX3_init 1 none ∈ ww_tb := by decide +kernel
theorem u_46 : Cond.instanceMethod yX3_init ∈ ww_tb := by decide +kernel
theorem u_47 : Cond.instantiable RX4 8 ∈ ww_tb := by decide +kernel
theorem u_48 : Cond.initialized RX4 ∈ ww_tb := by decide +kernel
theorem u_49 : Cond.code yX4_init cX4_init 1 none ∈ ww_tb := by decide +kernel
theorem u_50 : Cond.instanceMethod yX4_init ∈ ww_tb := by decide +kernel
theorem u_51 : Cond.methodLink RX5 1 Lib.objectInit ∈ ww_tb := by decide +kernel
theorem u_52 : Cond.methodLink RX5 9 yX1_init ∈ ww_tb := by decide +kernel
theorem u_53 : Cond.classLink RX5 7 RX1 ∈ ww_tb := by decide +kernel
theorem u_54 : Cond.instantiable RX1 14 ∈ ww_tb := by decide +kernel
theorem u_55 : Cond.initialized RX1 ∈ ww_tb := by decide +kernel
theorem u_56 : Cond.code yX1_init cX1_init 2 none ∈ ww_tb := by decide +kernel
theorem u_57 : Cond.instanceMethod yX1_init ∈ ww_tb := by decide +kernel
theorem u_58 : Cond.fieldLink RX5 10 (TX5 0).1 (TX5 0).2.1 (TX5 0).2.2.1 ∈ ww_tb := by decide +kernel
theorem u_59 : Cond.fieldLink RX5 16 (TX5 1).1 (TX5 1).2.1 (TX5 1).2.2.1 ∈ ww_tb := by decide +kernel
theorem dX1_init_0 : decode cX1_init 0 = .ok (.aload_n 0, 1) := by decide +kernel
theorem dX1_init_1 : decode cX1_init 1 = .ok (.invokespecial 3, 3) := by decide +kernel
theorem dX1_init_4 : decode cX1_init 4 = .ok (.aload_n 0, 1) := by decide +kernel
theorem dX1_init_5 : decode cX1_init 5 = .ok (.iconst 1, 1) := by decide +kernel
theorem dX1_init_6 : decode cX1_init 6 = .ok (.putfield 9, 3) := by decide +kernel
theorem dX1_init_9 : decode cX1_init 9 = .ok (.aload_n 0, 1) := by decide +kernel
theorem dX1_init_10 : decode cX1_init 10 = .ok (.iconst 3, 1) := by decide +kernel
theorem dX1_init_11 : decode cX1_init 11 = .ok (.putfield 15, 3) := by decide +kernel
theorem dX1_init_14 : decode cX1_init 14 = .ok (.aload_n 0, 1) := by decide +kernel
theorem dX1_init_15 : decode cX1_init 15 = .ok (.bipush 8, 2) := by decide +kernel
theorem dX1_init_17 : decode cX1_init 17 = .ok (.anewarray 18, 3) := by decide +kernel
theorem dX1_init_20 : decode cX1_init 20 = .ok (.putfield 20, 3) := by decide +kernel
theorem dX1_init_23 : decode cX1_init 23 = .ok (.aload_n 0, 1) := by decide +kernel
theorem dX1_init_24 : decode cX1_init 24 = .ok (.iconst 3, 1) := by decide +kernel
theorem dX1_init_25 : decode cX1_init 25 = .ok (.anewarray 24, 3) := by decide +kernel
theorem dX1_init_28 : decode cX1_init 28 = .ok (.putfield 26, 3) := by decide +kernel
theorem dX1_init_31 : decode cX1_init 31 = .ok (.aload_n 0, 1) := by decide +kernel
theorem dX1_init_32 : decode cX1_init 32 = .ok (.bipush 12, 2) := by decide +kernel
theorem dX1_init_34 : decode cX1_init 34 = .ok (.anewarray 30, 3) := by decide +kernel
theorem dX1_init_37 : decode cX1_init 37 = .ok (.putfield 32, 3) := by decide +kernel
theorem dX1_init_40 : decode cX1_init 40 = .ok (.aload_n 0, 1) := by decide +kernel
theorem dX1_init_41 : decode cX1_init 41 = .ok (.new 36, 3) := by decide +kernel
theorem dX1_init_44 : decode cX1_init 44 = .ok (.dup, 1) := by decide +kernel
theorem dX1_init_45 : decode cX1_init 45 = .ok (.invokespecial 38, 3) := by decide +kernel
theorem dX1_init_48 : decode cX1_init 48 = .ok (.putfield 39, 3) := by decide +kernel
theorem dX1_init_51 : decode cX1_init 51 = .ok (.aload_n 0, 1) := by decide +kernel
theorem dX1_init_52 : decode cX1_init 52 = .ok (.new 36, 3) := by decide +kernel
theorem dX1_init_55 : decode cX1_init 55 = .ok (.dup, 1) := by decide +kernel
theorem dX1_init_56 : decode cX1_init 56 = .ok (.invokespecial 38, 3) := by decide +kernel
theorem dX1_init_59 : decode cX1_init 59 = .ok (.putfield 43, 3) := by decide +kernel
theorem dX1_init_62 : decode cX1_init 62 = .ok (.aload_n 0, 1) := by decide +kernel
theorem dX1_init_63 : decode cX1_init 63 = .ok (.bipush 16, 2) := by decide +kernel
theorem dX1_init_65 : decode cX1_init 65 = .ok (.newarray .int, 2) := by decide +kernel
theorem dX1_init_67 : decode cX1_init 67 = .ok (.putfield 46, 3) := by decide +kernel
theorem dX1_init_70 : decode cX1_init 70 = .ok (.aload_n 0, 1) := by decide +kernel
theorem dX1_init_71 : decode cX1_init 71 = .ok (.bipush 12, 2) := by decide +kernel
theorem dX1_init_73 : decode cX1_init 73 = .ok (.newarray .int, 2) := by decide +kernel
theorem dX1_init_75 : decode cX1_init 75 = .ok (.putfield 50, 3) := by decide +kernel
theorem dX1_init_78 : decode cX1_init 78 = .ok (.iconst 0, 1) := by decide +kernel
theorem dX1_init_79 : decode cX1_init 79 = .ok (.istore_n 1, 1) := by decide +kernel
theorem dX1_init_80 : decode cX1_init 80 = .ok (.iload_n 1, 1) := by decide +kernel
theorem dX1_init_81 : decode cX1_init 81 = .ok (.bipush 8, 2) := by decide +kernel
theorem dX1_init_83 : decode cX1_init 83 = .ok (.if_icmp .ge 22, 3) := by decide +kernel
theorem dX1_init_86 : decode cX1_init 86 = .ok (.aload_n 0, 1) := by decide +kernel
theorem dX1_init_87 : decode cX1_init 87 = .ok (.getfield 20, 3) := by decide +kernel
theorem dX1_init_90 : decode cX1_init 90 = .ok (.iload_n 1, 1) := by decide +kernel
theorem dX1_init_91 : decode cX1_init 91 = .ok (.new 18, 3) := by decide +kernel
theorem dX1_init_94 : decode cX1_init 94 = .ok (.dup, 1) := by decide +kernel
theorem dX1_init_95 : decode cX1_init 95 = .ok (.invokespecial 53, 3) := by decide +kernel
theorem dX1_init_98 : decode cX1_init 98 = .ok (.aastore, 1) := by decide +kernel
theorem dX1_init_99 : decode cX1_init 99 = .ok (.iinc 1 1, 3) := by decide +kernel
theorem dX1_init_102 : decode cX1_init 102 = .ok (.goto (-22), 3) := by decide +kernel
theorem dX1_init_105 : decode cX1_init 105 = .ok (.iconst 0, 1) := by decide +kernel
theorem dX1_init_106 : decode cX1_init 106 = .ok (.istore_n 1, 1) := by decide +kernel
theorem dX1_init_107 : decode cX1_init 107 = .ok (.iload_n 1, 1) := by decide +kernel
theorem dX1_init_108 : decode cX1_init 108 = .ok (.iconst 3, 1) := by decide +kernel
theorem dX1_init_109 : decode cX1_init 109 = .ok (.if_icmp .ge 22, 3) := by decide +kernel
theorem dX1_init_112 : decode cX1_init 112 = .ok (.aload_n 0, 1) := by decide +kernel
theorem dX1_init_113 : decode cX1_init 113 = .ok (.getfield 26, 3) := by decide +kernel
theorem dX1_init_116 : decode cX1_init 116 = .ok (.iload_n 1, 1) := by decide +kernel
theorem dX1_init_117 : decode cX1_init 117 = .ok (.new 24, 3) := by decide +kernel
theorem dX1_init_120 : decode cX1_init 120 = .ok (.dup, 1) := by decide +kernel
theorem dX1_init_121 : decode cX1_init 121 = .ok (.invokespecial 54, 3) := by decide +kernel
theorem dX1_init_124 : decode cX1_init 124 = .ok (.aastore, 1) := by decide +kernel
theorem dX1_init_125 : decode cX1_init 125 = .ok (.iinc 1 1, 3) := by decide +kernel
theorem dX1_init_128 : decode cX1_init 128 = .ok (.goto (-21), 3) := by decide +kernel
theorem dX1_init_131 : decode cX1_init 131 = .ok (.iconst 0, 1) := by decide +kernel
theorem dX1_init_132 : decode cX1_init 132 = .ok (.istore_n 1, 1) := by decide +kernel
theorem dX1_init_133 : decode cX1_init 133 = .ok (.iload_n 1, 1) := by decide +kernel
theorem dX1_init_134 : decode cX1_init 134 = .ok (.bipush 12, 2) := by decide +kernel
theorem dX1_init_136 : decode cX1_init 136 = .ok (.if_icmp .ge 22, 3) := by decide +kernel
theorem dX1_init_139 : decode cX1_init 139 = .ok (.aload_n 0, 1) := by decide +kernel
theorem dX1_init_140 : decode cX1_init 140 = .ok (.getfield 32, 3) := by decide +kernel
theorem dX1_init_143 : decode cX1_init 143 = .ok (.iload_n 1, 1) := by decide +kernel
theorem dX1_init_144 : decode cX1_init 144 = .ok (.new 30, 3) := by decide +kernel
theorem dX1_init_147 : decode cX1_init 147 = .ok (.dup, 1) := by decide +kernel
theorem dX1_init_148 : decode cX1_init 148 = .ok (.invokespecial 55, 3) := by decide +kernel
theorem dX1_init_151 : decode cX1_init 151 = .ok (.aastore, 1) := by decide +kernel
theorem dX1_init_152 : decode cX1_init 152 = .ok (.iinc 1 1, 3) := by decide +kernel
theorem dX1_init_155 : decode cX1_init 155 = .ok (.goto (-22), 3) := by decide +kernel
theorem dX1_init_158 : decode cX1_init 158 = .ok (.iconst 0, 1) := by decide +kernel
theorem dX1_init_159 : decode cX1_init 159 = .ok (.istore_n 1, 1) := by decide +kernel
theorem dX1_init_160 : decode cX1_init 160 = .ok (.iload_n 1, 1) := by decide +kernel
theorem dX1_init_161 : decode cX1_init 161 = .ok (.bipush 16, 2) := by decide +kernel
theorem dX1_init_163 : decode cX1_init 163 = .ok (.if_icmp .ge 16, 3) := by decide +kernel
theorem dX1_init_166 : decode cX1_init 166 = .ok (.aload_n 0, 1) := by decide +kernel
theorem dX1_init_167 : decode cX1_init 167 = .ok (.getfield 46, 3) := by decide +kernel
theorem dX1_init_170 : decode cX1_init 170 = .ok (.iload_n 1, 1) := by decide +kernel
theorem dX1_init_171 : decode cX1_init 171 = .ok (.iconst (-1), 1) := by decide +kernel
theorem dX1_init_172 : decode cX1_init 172 = .ok (.iastore, 1) := by decide +kernel
theorem dX1_init_173 : decode cX1_init 173 = .ok (.iinc 1 1, 3) := by decide +kernel
theorem dX1_init_176 : decode cX1_init 176 = .ok (.goto (-16), 3) := by decide +kernel
theorem dX1_init_179 : decode cX1_init 179 = .ok (.return_, 1) := by decide +kernel
theorem dX5_init_0 : decode cX5_init 0 = .ok (.aload_n 0, 1) := by decide +kernel
theorem dX5_init_1 : decode cX5_init 1 = .ok (.invokespecial 1, 3) := by decide +kernel
theorem dX5_init_4 : decode cX5_init 4 = .ok (.aload_n 0, 1) := by decide +kernel
theorem dX5_init_5 : decode cX5_init 5 = .ok (.new 7, 3) := by decide +kernel
theorem dX5_init_8 : decode cX5_init 8 = .ok (.dup, 1) := by decide +kernel
theorem dX5_init_9 : decode cX5_init 9 = .ok (.invokespecial 9, 3) := by decide +kernel
theorem dX5_init_12 : decode cX5_init 12 = .ok (.putfield 10, 3) := by decide +kernel
theorem dX5_init_15 : decode cX5_init 15 = .ok (.aload_n 0, 1) := by decide +kernel
theorem dX5_init_16 : decode cX5_init 16 = .ok (.new 7, 3) := by decide +kernel
theorem dX5_init_19 : decode cX5_init 19 = .ok (.dup, 1) := by decide +kernel
theorem dX5_init_20 : decode cX5_init 20 = .ok (.invokespecial 9, 3) := by decide +kernel
theorem dX5_init_23 : decode cX5_init 23 = .ok (.putfield 16, 3) := by decide +kernel
theorem dX5_init_26 : decode cX5_init 26 = .ok (.return_, 1) := by decide +kernel
/-! Land -/
def fs_X1 : List Value := [.int 0, .int 0, .int 0, .int 0, .int 0, .int 0, .int 0, .null, .null, .null, .null, .null, .null, .null]
def wl_B (fg fs fw : Nat → Option Nat) (fd : Nat → Int32) : vhS := [.inl (1, [vi_ 0, vi_ 1, vi_ 3, vi_ 0, vi_ 0, vi_ 0, vi_ 0, .inr (vh_n 1), .inr (vh_n 2), .inr (vh_n 3), .inr (vh_n 4), .inr (vh_n 8), .inr (vh_n 12), .inr (vh_n 13)]),
  .inr (2, 8, .inr (.inr fg)), .inr (3, 3, .inr (.inr fs)), .inr (4, 12, .inr (.inr fw)),
  .inl (2, [.inr (vh_n 5), .inr (vh_n 6), .inr (vh_n 7), vi_ 0]), wc_z 0 5, wc_z 0 5, wc_z 1 5,
  .inl (2, [.inr (vh_n 9), .inr (vh_n 10), .inr (vh_n 11), vi_ 0]), wc_z 0 5, wc_z 0 5, wc_z 1 5,
  .inr (0, 16, .inl fd), wc_z 0 12]
def wl_G : Nat → vhS
  | 0 => []
  | k + 1 => wl_G k ++ cs_X0.map (vh_sh (14 + 6 * k))
def wl_H : Nat → vhS
  | 0 => wl_G 8
  | k + 1 => wl_H k ++ cs_X3.map (vh_sh (62 + 1 * k))
def wl_W : Nat → vhS
  | 0 => wl_H 3
  | k + 1 => wl_W k ++ cs_X4.map (vh_sh (65 + 1 * k))
theorem wl_Gl : ∀ k, (wl_G k).length = 6 * k
  | 0 => rfl
  | k + 1 => by
    show (wl_G k ++ cs_X0.map (vh_sh (14 + 6 * k))).length = _
    rw [List.length_append, wl_Gl k, List.length_map]
    rfl
theorem wl_Hl : ∀ k, (wl_H k).length = 48 + 1 * k
  | 0 => wl_Gl 8
  | k + 1 => by
    show (wl_H k ++ cs_X3.map (vh_sh (62 + 1 * k))).length = _
    rw [List.length_append, wl_Hl k, List.length_map]
    show 48 + 1 * k + 1 = _
    omega
theorem wl_Wl : ∀ k, (wl_W k).length = 51 + 1 * k
  | 0 => wl_Hl 3
  | k + 1 => by
    show (wl_W k ++ cs_X4.map (vh_sh (65 + 1 * k))).length = _
    rw [List.length_append, wl_Wl k, List.length_map]
    show 51 + 1 * k + 1 = _
    omega
def wl_g (k : Nat) : Nat → Option Nat := wl_f 14 6 k
def wl_h (k : Nat) : Nat → Option Nat := wl_f 62 1 k
def wl_w (k : Nat) : Nat → Option Nat := wl_f 65 1 k
def cs_X1 : vhS := wl_B (wl_g 8) (wl_h 3) (wl_w 12) (wh_f 16) ++ wl_W 12
theorem wl_BL {fg fs fw : Nat → Option Nat} {fd : Nat → Int32} {T : vhS} {n : Nat} (h : T.length = n) : (wl_B fg fs fw fd ++ T).length = 14 + n := by
  rw [List.length_append, h]
  rfl
theorem wl_at {X Y : vhS} {n : Nat} (h : X.length = n) : vh_at (X ++ Y) n = vh_at Y 0 := by
  rw [vh_at_eq, vh_at_eq, List.getElem?_append_right (by omega), h, Nat.sub_self]
theorem wl_fb (b st m : Nat) : ∀ k, k ≤ m → ∀ i j, wl_f b st k i = some j → j < b + st * m + 1
  | 0, _, i, j, h => by cases h
  | k + 1, hk, i, j, h => by
    have h' : va_up (wl_f b st k) (wi k).toNatClampNeg (some (b + st * k)) i = some j := h
    unfold va_up at h'
    split at h'
    · cases h'
      have : st * k ≤ st * m := Nat.mul_le_mul_left _ (by omega)
      omega
    · exact wl_fb b st m k (by omega) i j h'
theorem wl_ok {n k b : Nat} {cs : vhS} (hc : vh_wf cs) (hb : b + cs.length ≤ n) : ∀ c ∈ cs.map (vh_sh b), vh_okC n c := by
  intro c h
  obtain ⟨x, hx, rfl⟩ := List.mem_map.mp h
  exact vh_okC_le hb (vh_sh_ok (hc x hx))
theorem wl_Gok : ∀ k, k ≤ 8 → ∀ c ∈ wl_G k, vh_okC 77 c
  | 0, _, c, h => by cases h
  | k + 1, hk, c, h => by
    rcases List.mem_append.mp (show c ∈ wl_G k ++ cs_X0.map (vh_sh (14 + 6 * k)) from h) with h | h
    · exact wl_Gok k (by omega) c h
    · exact wl_ok (k := 0) wf_X0 (by show 14 + 6 * k + 6 ≤ 77; omega) c h
theorem wl_Hok : ∀ k, k ≤ 3 → ∀ c ∈ wl_H k, vh_okC 77 c
  | 0, _, c, h => wl_Gok 8 (Nat.le_refl _) c h
  | k + 1, hk, c, h => by
    rcases List.mem_append.mp (show c ∈ wl_H k ++ cs_X3.map (vh_sh (62 + 1 * k)) from h) with h | h
    · exact wl_Hok k (by omega) c h
    · exact wl_ok (k := 0) wf_X3 (by show 62 + 1 * k + 1 ≤ 77; omega) c h
theorem wl_Wok : ∀ k, k ≤ 12 → ∀ c ∈ wl_W k, vh_okC 77 c
  | 0, _, c, h => wl_Hok 3 (Nat.le_refl _) c h
  | k + 1, hk, c, h => by
    rcases List.mem_append.mp (show c ∈ wl_W k ++ cs_X4.map (vh_sh (65 + 1 * k)) from h) with h | h
    · exact wl_Wok k (by omega) c h
    · exact wl_ok (k := 0) wf_X4 (by show 65 + 1 * k + 1 ≤ 77; omega) c h
theorem wl_Bok {n : Nat} (hn : 77 ≤ n) : ∀ c ∈ wl_B (wl_g 8) (wl_h 3) (wl_w 12) (wh_f 16), vh_okC n c := by
  intro c h
  refine vh_okC_le hn ?_
  rcases List.mem_cons.mp h with rfl | h
  · exact vh_okI (by decide +kernel)
  rcases List.mem_cons.mp h with rfl | h
  · intro i j hij
    have h2 := wl_fb 14 6 8 8 (Nat.le_refl _) i j hij
    omega
  rcases List.mem_cons.mp h with rfl | h
  · intro i j hij
    have h2 := wl_fb 62 1 3 3 (Nat.le_refl _) i j hij
    omega
  rcases List.mem_cons.mp h with rfl | h
  · intro i j hij
    have h2 : j < 65 + 1 * 12 + 1 := wl_fb 65 1 12 12 (Nat.le_refl _) i j hij
    have h3 : ∀ k, k ≤ 12 → ∀ i j, wl_f 65 1 k i = some j → j < 65 + k := by
      intro k
      induction k with
      | zero => intro _ i j h; cases h
      | succ k ih =>
        intro hk i j h
        have h' : va_up (wl_f 65 1 k) (wi k).toNatClampNeg (some (65 + 1 * k)) i = some j := h
        unfold va_up at h'
        split at h'
        · cases h'; omega
        · have := ih (by omega) i j h'; omega
    have h4 := h3 12 (Nat.le_refl _) i j hij
    omega
  rcases List.mem_cons.mp h with rfl | h
  · exact vh_okI (by decide +kernel)
  iterate 3
    rcases List.mem_cons.mp h with rfl | h
    · trivial
  rcases List.mem_cons.mp h with rfl | h
  · exact vh_okI (by decide +kernel)
  iterate 4
    rcases List.mem_cons.mp h with rfl | h
    · trivial
  rw [List.mem_singleton.mp h]
  trivial
theorem wl_len : cs_X1.length = 77 := by
  unfold cs_X1
  rw [wl_BL (wl_Wl 12)]
theorem wf_X1 : vh_wf cs_X1 := by
  intro c hc
  rw [wl_len]
  rcases List.mem_append.mp (show c ∈ wl_B (wl_g 8) (wl_h 3) (wl_w 12) (wh_f 16) ++ wl_W 12 from hc) with h | h
  · exact wl_Bok (Nat.le_refl _) c h
  · exact wl_Wok 12 (Nat.le_refl _) c h
def k_X1_init : List (Nat × vhF) := [(0, hi_aload 0 1), (1, hi_oinit 4), (4, hi_aload 0 5), (5, hi_icst (1) 6), (6, hi_putI 1 1 9), (9, hi_aload 0 10), (10, hi_icst (3) 11), (11, hi_putI 1 2 14), (14, hi_aload 0 15), (15, hi_icst (8) 17), (17, hi_newq 2 76 775 20), (20, hi_putR 1 7 23), (23, hi_aload 0 24), (24, hi_icst (3) 25), (25, hi_newq 3 76 775 28), (28, hi_putR 1 8 31), (31, hi_aload 0 32), (32, hi_icst (12) 34), (34, hi_newq 4 76 775 37), (37, hi_putR 1 9 40), (40, hi_aload 0 41), (41, hi_newc 76 775 4 3 15 cs_X2 48), (48, hi_putR 1 10 51), (51, hi_aload 0 52), (52, hi_newc 76 775 4 3 15 cs_X2 59), (59, hi_putR 1 11 62), (62, hi_aload 0 63), (63, hi_icst (16) 65), (65, hi_newa 0 76 775 67), (67, hi_putR 1 12 70), (70, hi_aload 0 71), (71, hi_icst (12) 73), (73, hi_newa 0 76 775 75), (75, hi_putR 1 13 78), (78, hi_icst (0) 79), (79, hi_istore 1 80), (80, hi_iload 1 81), (81, hi_icst (8) 83), (83, hi_cmp (fun x y => y ≤ x) 105 86), (86, hi_aload 0 87), (87, hi_get 1 7 90), (90, hi_iload 1 91), (91, hi_newc 76 775 13 5 60 cs_X0 98), (98, hi_aast 2 5 99), (99, hi_iinc 1 (1) 102), (102, hi_goto 80), (105, hi_icst (0) 106), (106, hi_istore 1 107), (107, hi_iload 1 108), (108, hi_icst (3) 109), (109, hi_cmp (fun x y => y ≤ x) 131 112), (112, hi_aload 0 113), (113, hi_get 1 8 116), (116, hi_iload 1 117), (117, hi_newc 76 775 2 0 0 cs_X3 124), (124, hi_aast 3 3 125), (125, hi_iinc 1 (1) 128), (128, hi_goto 107), (131, hi_icst (0) 132), (132, hi_istore 1 133), (133, hi_iload 1 134), (134, hi_icst (12) 136), (136, hi_cmp (fun x y => y ≤ x) 158 139), (139, hi_aload 0 140), (140, hi_get 1 9 143), (143, hi_iload 1 144), (144, hi_newc 76 775 8 0 0 cs_X4 151), (151, hi_aast 4 4 152), (152, hi_iinc 1 (1) 155), (155, hi_goto 133), (158, hi_icst (0) 159), (159, hi_istore 1 160), (160, hi_iload 1 161), (161, hi_icst (16) 163), (163, hi_cmp (fun x y => y ≤ x) 179 166), (166, hi_aload 0 167), (167, hi_get 1 12 170), (170, hi_iload 1 171), (171, hi_icst (-1) 172), (172, hi_iast 0 173), (173, hi_iinc 1 (1) 176), (176, hi_goto 160), (179, hi_retV)]
set_option maxRecDepth 20000 in
theorem s_X1_init : ∀ q ∈ k_X1_init, vh_Snd ww_tb wh_nx ww_cl ww_tyl cX1_init 2 RX1 none 2 76 775 true q.1 q.2 := by
  refine vg_cons (ht_aload_n dX1_init_0 rfl rfl) ?_
  refine vg_cons (ht_oinit dX1_init_1 u_20 u_1 u_2 (by decide) rfl) ?_
  refine vg_cons (ht_aload_n dX1_init_4 rfl rfl) ?_
  refine vg_cons (ht_iconst dX1_init_5 rfl rfl) ?_
  refine vg_cons (ht_putI (T := TX1) tyX1 dX1_init_6 rfl (by decide) ww_inX1 tyX1_ok nmX1 rfl rfl u_21 rfl) ?_
  refine vg_cons (ht_aload_n dX1_init_9 rfl rfl) ?_
  refine vg_cons (ht_iconst dX1_init_10 rfl rfl) ?_
  refine vg_cons (ht_putI (T := TX1) tyX1 dX1_init_11 rfl (by decide) ww_inX1 tyX1_ok nmX1 rfl rfl u_22 rfl) ?_
  refine vg_cons (ht_aload_n dX1_init_14 rfl rfl) ?_
  refine vg_cons (ht_bipush dX1_init_15 (by decide) rfl) ?_
  refine vg_cons (ht_newq (C := RX0) rfl u_23 (by decide +kernel) dX1_init_17 rfl) ?_
  refine vg_cons (ht_putF (T := TX1) tyX1 rfl dX1_init_20 rfl (by decide) ww_inX1 tyX1_ok nmX1 rfl rfl (fun _ => ⟨rfl, rfl⟩) u_24 rfl) ?_
  refine vg_cons (ht_aload_n dX1_init_23 rfl rfl) ?_
  refine vg_cons (ht_iconst dX1_init_24 rfl rfl) ?_
  refine vg_cons (ht_newq (C := RX3) rfl u_25 (by decide +kernel) dX1_init_25 rfl) ?_
  refine vg_cons (ht_putF (T := TX1) tyX1 rfl dX1_init_28 rfl (by decide) ww_inX1 tyX1_ok nmX1 rfl rfl (fun _ => ⟨rfl, rfl⟩) u_26 rfl) ?_
  refine vg_cons (ht_aload_n dX1_init_31 rfl rfl) ?_
  refine vg_cons (ht_bipush dX1_init_32 (by decide) rfl) ?_
  refine vg_cons (ht_newq (C := RX4) rfl u_27 (by decide +kernel) dX1_init_34 rfl) ?_
  refine vg_cons (ht_putF (T := TX1) tyX1 rfl dX1_init_37 rfl (by decide) ww_inX1 tyX1_ok nmX1 rfl rfl (fun _ => ⟨rfl, rfl⟩) u_28 rfl) ?_
  refine vg_cons (ht_aload_n dX1_init_40 rfl rfl) ?_
  refine vg_cons (ht_newcN (host := "WarnWave") (ci := 2) (T := TX2) (N := 4) tyX2 I_X2_init (by decide +kernel) dX1_init_41 dX1_init_44 dX1_init_45 rfl ww_inX2 tyX2_ok u_29 u_30 u_31 (by intro j hj; match j, hj with | 0, _ => exact rfl | 1, _ => exact rfl | 2, _ => exact rfl | 3, _ => exact rfl) ww_good u_32 rfl (by decide +kernel) u_33 rfl (by decide +kernel) (by decide) rfl) ?_
  refine vg_cons (ht_putF (T := TX1) tyX1 rfl dX1_init_48 rfl (by decide) ww_inX1 tyX1_ok nmX1 rfl rfl (fun _ => ⟨rfl, rfl⟩) u_34 rfl) ?_
  refine vg_cons (ht_aload_n dX1_init_51 rfl rfl) ?_
  refine vg_cons (ht_newcN (host := "WarnWave") (ci := 2) (T := TX2) (N := 4) tyX2 I_X2_init (by decide +kernel) dX1_init_52 dX1_init_55 dX1_init_56 rfl ww_inX2 tyX2_ok u_29 u_30 u_31 (by intro j hj; match j, hj with | 0, _ => exact rfl | 1, _ => exact rfl | 2, _ => exact rfl | 3, _ => exact rfl) ww_good u_32 rfl (by decide +kernel) u_33 rfl (by decide +kernel) (by decide) rfl) ?_
  refine vg_cons (ht_putF (T := TX1) tyX1 rfl dX1_init_59 rfl (by decide) ww_inX1 tyX1_ok nmX1 rfl rfl (fun _ => ⟨rfl, rfl⟩) u_35 rfl) ?_
  refine vg_cons (ht_aload_n dX1_init_62 rfl rfl) ?_
  refine vg_cons (ht_bipush dX1_init_63 (by decide) rfl) ?_
  refine vg_cons (ht_newa (atype := .int) rfl (fun _ _ => rfl) (by decide) rfl u_7 dX1_init_65 rfl) ?_
  refine vg_cons (ht_putF (T := TX1) tyX1 rfl dX1_init_67 rfl (by decide) ww_inX1 tyX1_ok nmX1 rfl rfl (fun _ => ⟨rfl, rfl⟩) u_36 rfl) ?_
  refine vg_cons (ht_aload_n dX1_init_70 rfl rfl) ?_
  refine vg_cons (ht_bipush dX1_init_71 (by decide) rfl) ?_
  refine vg_cons (ht_newa (atype := .int) rfl (fun _ _ => rfl) (by decide) rfl u_7 dX1_init_73 rfl) ?_
  refine vg_cons (ht_putF (T := TX1) tyX1 rfl dX1_init_75 rfl (by decide) ww_inX1 tyX1_ok nmX1 rfl rfl (fun _ => ⟨rfl, rfl⟩) u_37 rfl) ?_
  refine vg_cons (ht_iconst dX1_init_78 rfl rfl) ?_
  refine vg_cons (ht_istore_n dX1_init_79 rfl (by decide) rfl) ?_
  refine vg_cons (ht_iload_n dX1_init_80 rfl rfl) ?_
  refine vg_cons (ht_bipush dX1_init_81 (by decide) rfl) ?_
  refine vg_cons (ht_cmp_ge dX1_init_83 (by decide) rfl) ?_
  refine vg_cons (ht_aload_n dX1_init_86 rfl rfl) ?_
  refine vg_cons (ht_getfield (T := TX1) dX1_init_87 rfl (by decide) ww_inX1 u_24 rfl) ?_
  refine vg_cons (ht_iload_n dX1_init_90 rfl rfl) ?_
  refine vg_cons (ht_newc (ci := 5) (T := TX0) (N := 13) tyX0 I_X0_init (by decide +kernel) dX1_init_91 dX1_init_94 dX1_init_95 rfl ww_inX0 tyX0_ok u_23 u_39 u_40 (by intro j hj; match j, hj with | 0, _ => exact rfl | 1, _ => exact rfl | 2, _ => exact rfl | 3, _ => exact rfl | 4, _ => exact rfl | 5, _ => exact rfl | 6, _ => exact rfl | 7, _ => exact rfl | 8, _ => exact rfl | 9, _ => exact rfl | 10, _ => exact rfl | 11, _ => exact rfl | 12, _ => exact rfl) ww_good u_41 rfl u_38 u_42 rfl (by decide +kernel) (by decide) rfl) ?_
  refine vg_cons (ht_aast (C := RX0) (T := TX0) (N := 13) dX1_init_98 rfl rfl rfl) ?_
  refine vg_cons (ht_iinc dX1_init_99 rfl rfl) ?_
  refine vg_cons (ht_goto dX1_init_102 (by decide)) ?_
  refine vg_cons (ht_iconst dX1_init_105 rfl rfl) ?_
  refine vg_cons (ht_istore_n dX1_init_106 rfl (by decide) rfl) ?_
  refine vg_cons (ht_iload_n dX1_init_107 rfl rfl) ?_
  refine vg_cons (ht_iconst dX1_init_108 rfl rfl) ?_
  refine vg_cons (ht_cmp_ge dX1_init_109 (by decide) rfl) ?_
  refine vg_cons (ht_aload_n dX1_init_112 rfl rfl) ?_
  refine vg_cons (ht_getfield (T := TX1) dX1_init_113 rfl (by decide) ww_inX1 u_26 rfl) ?_
  refine vg_cons (ht_iload_n dX1_init_116 rfl rfl) ?_
  refine vg_cons (ht_newcN (host := "WarnWave") (ci := 3) (T := TX3) (N := 2) tyX3 I_X3_init (by decide +kernel) dX1_init_117 dX1_init_120 dX1_init_121 rfl ww_inX3 tyX3_ok u_25 u_43 u_44 (by intro j hj; match j, hj with | 0, _ => exact rfl | 1, _ => exact rfl) ww_good u_45 rfl (by decide +kernel) u_46 rfl (by decide +kernel) (by decide) rfl) ?_
  refine vg_cons (ht_aast (C := RX3) (T := TX3) (N := 2) dX1_init_124 rfl rfl rfl) ?_
  refine vg_cons (ht_iinc dX1_init_125 rfl rfl) ?_
  refine vg_cons (ht_goto dX1_init_128 (by decide)) ?_
  refine vg_cons (ht_iconst dX1_init_131 rfl rfl) ?_
  refine vg_cons (ht_istore_n dX1_init_132 rfl (by decide) rfl) ?_
  refine vg_cons (ht_iload_n dX1_init_133 rfl rfl) ?_
  refine vg_cons (ht_bipush dX1_init_134 (by decide) rfl) ?_
  refine vg_cons (ht_cmp_ge dX1_init_136 (by decide) rfl) ?_
  refine vg_cons (ht_aload_n dX1_init_139 rfl rfl) ?_
  refine vg_cons (ht_getfield (T := TX1) dX1_init_140 rfl (by decide) ww_inX1 u_28 rfl) ?_
  refine vg_cons (ht_iload_n dX1_init_143 rfl rfl) ?_
  refine vg_cons (ht_newcN (host := "WarnWave") (ci := 4) (T := TX4) (N := 8) tyX4 I_X4_init (by decide +kernel) dX1_init_144 dX1_init_147 dX1_init_148 rfl ww_inX4 tyX4_ok u_27 u_47 u_48 (by intro j hj; match j, hj with | 0, _ => exact rfl | 1, _ => exact rfl | 2, _ => exact rfl | 3, _ => exact rfl | 4, _ => exact rfl | 5, _ => exact rfl | 6, _ => exact rfl | 7, _ => exact rfl) ww_good u_49 rfl (by decide +kernel) u_50 rfl (by decide +kernel) (by decide) rfl) ?_
  refine vg_cons (ht_aast (C := RX4) (T := TX4) (N := 8) dX1_init_151 rfl rfl rfl) ?_
  refine vg_cons (ht_iinc dX1_init_152 rfl rfl) ?_
  refine vg_cons (ht_goto dX1_init_155 (by decide)) ?_
  refine vg_cons (ht_iconst dX1_init_158 rfl rfl) ?_
  refine vg_cons (ht_istore_n dX1_init_159 rfl (by decide) rfl) ?_
  refine vg_cons (ht_iload_n dX1_init_160 rfl rfl) ?_
  refine vg_cons (ht_bipush dX1_init_161 (by decide) rfl) ?_
  refine vg_cons (ht_cmp_ge dX1_init_163 (by decide) rfl) ?_
  refine vg_cons (ht_aload_n dX1_init_166 rfl rfl) ?_
  refine vg_cons (ht_getfield (T := TX1) dX1_init_167 rfl (by decide) ww_inX1 u_36 rfl) ?_
  refine vg_cons (ht_iload_n dX1_init_170 rfl rfl) ?_
  refine vg_cons (ht_iconst dX1_init_171 rfl rfl) ?_
  refine vg_cons (ht_iast dX1_init_172 rfl rfl) ?_
  refine vg_cons (ht_iinc dX1_init_173 rfl rfl) ?_
  refine vg_cons (ht_goto dX1_init_176 (by decide)) ?_
  refine vg_cons (ht_return dX1_init_179 rfl) ?_
  exact fun _ h => absurd h List.not_mem_nil
theorem m_X1_init : vh_Code k_X1_init := fun q h => (s_X1_init q h).1

abbrev wl_P : vhO := fun r σ => r = none ∧ σ.1 = cs_X1 ∧ σ.2.1 ≤ 76 ∧ σ.2.2 ≤ 775
theorem wl_loop4 : ∀ n k, n + k = 16 → vh_Go k_X1_init wl_P 160 [(0, .inr (vh_n 0)), (1, .inl (.int (wi k)))] [] (wl_B (wl_g 8) (wl_h 3) (wl_w 12) (wh_f k) ++ wl_W 12, 76, 775)
  | 0, k, h => by
    have hk : k = 16 := by omega
    subst hk
    refine vh_run (cuts := [(160, [0, 1])]) m_X1_init 6 ?_
    exact And.intro (fun _ => ⟨rfl, rfl, Nat.le_refl _, Nat.le_refl _⟩) (fun hc => absurd wi_ge.2.2.2 hc)
  | n + 1, k, h => by
    refine vh_run (cuts := [(160, [0, 1])]) m_X1_init 40 ?_
    refine And.intro (fun hc => absurd hc (wi_lt16 k (by omega))) (fun _ => And.intro (wi_in (by omega) (by decide)) ?_)
    exact wl_loop4 n (k + 1) (by omega)
theorem wl_loop3 : ∀ n k, n + k = 12 → vh_Go k_X1_init wl_P 133 [(0, .inr (vh_n 0)), (1, .inl (.int (wi k)))] [] (wl_B (wl_g 8) (wl_h 3) (wl_w k) (wh_f 0) ++ wl_W k, 64 + 1 * k, 679 + 8 * k)
  | 0, k, h => by
    have hk : k = 12 := by omega
    subst hk
    refine vh_run (cuts := [(160, [0, 1])]) m_X1_init 6 ?_
    exact And.intro (fun _ => wl_loop4 16 0 rfl) (fun hc => absurd wi_ge.2.2.1 hc)
  | n + 1, k, h => by
    refine vh_run (cuts := [(151, [0, 1])]) m_X1_init 12 ?_
    refine And.intro (fun hc => absurd hc (wi_lt12 k (by omega))) (fun _ => ?_)
    have hlen : (wl_B (wl_g 8) (wl_h 3) (wl_w k) (wh_f 0) ++ wl_W k).length = 65 + 1 * k := (wl_BL (wl_Wl k)).trans (by omega)
    refine And.intro ⟨by show 64 + 1 * k + 1 + 0 ≤ 76; omega, by show 679 + 8 * k + 8 + 0 ≤ 775; omega⟩ ?_
    dsimp only
    rw [hlen]
    refine vh_run (cuts := [(133, [0, 1])]) m_X1_init 12 ?_
    refine And.intro ⟨wi_in (by omega) (by decide), ⟨_, (wl_at hlen).trans rfl⟩⟩ ?_
    exact wl_loop3 n (k + 1) (by omega)
theorem wl_loop2 : ∀ n k, n + k = 3 → vh_Go k_X1_init wl_P 107 [(0, .inr (vh_n 0)), (1, .inl (.int (wi k)))] [] (wl_B (wl_g 8) (wl_h k) (wl_w 0) (wh_f 0) ++ wl_H k, 61 + 1 * k, 673 + 2 * k)
  | 0, k, h => by
    have hk : k = 3 := by omega
    subst hk
    refine vh_run (cuts := [(133, [0, 1])]) m_X1_init 6 ?_
    exact And.intro (fun _ => wl_loop3 12 0 rfl) (fun hc => absurd wi_ge.2.1 hc)
  | n + 1, k, h => by
    refine vh_run (cuts := [(124, [0, 1])]) m_X1_init 12 ?_
    refine And.intro (fun hc => absurd hc (wi_lt3 k (by omega))) (fun _ => ?_)
    have hlen : (wl_B (wl_g 8) (wl_h k) (wl_w 0) (wh_f 0) ++ wl_H k).length = 62 + 1 * k := (wl_BL (wl_Hl k)).trans (by omega)
    refine And.intro ⟨by show 61 + 1 * k + 1 + 0 ≤ 76; omega, by show 673 + 2 * k + 2 + 0 ≤ 775; omega⟩ ?_
    dsimp only
    rw [hlen]
    refine vh_run (cuts := [(107, [0, 1])]) m_X1_init 12 ?_
    refine And.intro ⟨wi_in (by omega) (by decide), ⟨_, (wl_at hlen).trans rfl⟩⟩ ?_
    exact wl_loop2 n (k + 1) (by omega)
theorem wl_loop1 : ∀ n k, n + k = 8 → vh_Go k_X1_init wl_P 80 [(0, .inr (vh_n 0)), (1, .inl (.int (wi k)))] [] (wl_B (wl_g k) (wl_h 0) (wl_w 0) (wh_f 0) ++ wl_G k, 13 + 6 * k, 89 + 73 * k)
  | 0, k, h => by
    have hk : k = 8 := by omega
    subst hk
    refine vh_run (cuts := [(107, [0, 1])]) m_X1_init 6 ?_
    exact And.intro (fun _ => wl_loop2 3 0 rfl) (fun hc => absurd wi_ge.1 hc)
  | n + 1, k, h => by
    refine vh_run (cuts := [(98, [0, 1])]) m_X1_init 12 ?_
    refine And.intro (fun hc => absurd hc (wi_lt8 k (by omega))) (fun _ => ?_)
    have hlen : (wl_B (wl_g k) (wl_h 0) (wl_w 0) (wh_f 0) ++ wl_G k).length = 14 + 6 * k := (wl_BL (wl_Gl k)).trans (by omega)
    refine And.intro ⟨by show 13 + 6 * k + 1 + 5 ≤ 76; omega, by show 89 + 73 * k + 13 + 60 ≤ 775; omega⟩ ?_
    dsimp only
    rw [hlen]
    refine vh_run (cuts := [(80, [0, 1])]) m_X1_init 12 ?_
    refine And.intro ⟨wi_in (by omega) (by decide), ⟨_, (wl_at hlen).trans rfl⟩⟩ ?_
    exact wl_loop1 n (k + 1) (by omega)
def wl_O (a b c d : vgV) : vhC := .inl (1, [vi_ 0, vi_ 1, vi_ 3, vi_ 0, vi_ 0, vi_ 0, vi_ 0, .inr (vh_n 1), .inr (vh_n 2), .inr (vh_n 3), a, b, c, d])
def wl_A : vhS := [.inr (2, 8, .inr (.inr (fun _ => none))), .inr (3, 3, .inr (.inr (fun _ => none))), .inr (4, 12, .inr (.inr (fun _ => none)))]
def wl_D (k : Nat) : vhS := [.inl (2, [.inr (vh_n (k + 1)), .inr (vh_n (k + 2)), .inr (vh_n (k + 3)), vi_ 0]), wc_z 0 5, wc_z 0 5, wc_z 1 5]
theorem go_X1_d : vh_Go k_X1_init wl_P 62 [(0, .inr (vh_n 0))] [] (wl_O (.inr (vh_n 4)) (.inr (vh_n 8)) (.inl .null) (.inl .null) :: (wl_A ++ (wl_D 4 ++ wl_D 8)), 11, 61) := by
  refine vh_run (cuts := [(80, [0, 1])]) m_X1_init 20 ?_
  refine And.intro ⟨by decide, by decide, by decide, by decide⟩ (And.intro ⟨by decide, by decide, by decide, by decide⟩ ?_)
  exact wl_loop1 8 0 rfl
theorem go_X1_c : vh_Go k_X1_init wl_P 51 [(0, .inr (vh_n 0))] [] (wl_O (.inr (vh_n 4)) (.inl .null) (.inl .null) (.inl .null) :: (wl_A ++ wl_D 4), 7, 42) := by
  refine vh_run (cuts := [(62, [0])]) m_X1_init 10 ?_
  refine And.intro ⟨by decide, by decide⟩ ?_
  exact go_X1_d
theorem go_X1_b : vh_Go k_X1_init wl_P 40 [(0, .inr (vh_n 0))] [] (wl_O (.inl .null) (.inl .null) (.inl .null) (.inl .null) :: wl_A, 3, 23) := by
  refine vh_run (cuts := [(51, [0])]) m_X1_init 10 ?_
  refine And.intro ⟨by decide, by decide⟩ ?_
  exact go_X1_c
theorem go_X1_init : vh_Go k_X1_init wl_P 0 [(0, .inr (vh_n 0))] [] ([.inl (1, fs_X1.map .inl)], 0, 0) := by
  refine vh_run (cuts := [(40, [0])]) m_X1_init 30 ?_
  refine And.intro ⟨by decide, by decide, by decide, by decide⟩ (And.intro ⟨by decide, by decide, by decide, by decide⟩ (And.intro ⟨by decide, by decide, by decide, by decide⟩ ?_))
  exact go_X1_b
theorem I_X1_init : vh_Ini ww_tb wh_nx ww_cl ww_tyl yX1_init cX1_init 2 2 76 775 1 fs_X1 cs_X1 := vh_ini wf_X1 (by decide +kernel) rfl rfl (by decide) s_X1_init go_X1_init
/-! WarnWave -/
def fs_X5 : List Value := [.null, .null]
def cs_X5 : vhS := [.inl (0, [.inr (vh_n 1), .inr (vh_n 78)])] ++ cs_X1.map (vh_sh 1) ++ cs_X1.map (vh_sh 78)
theorem wx_len : cs_X5.length = 155 := by
  unfold cs_X5
  rw [List.length_append, List.length_append, List.length_map, List.length_map, wl_len]
  rfl
theorem wf_X5 : vh_wf cs_X5 := by
  intro c hc
  rw [wx_len]
  rcases List.mem_append.mp (show c ∈ ([.inl (0, [.inr (vh_n 1), .inr (vh_n 78)])] ++ cs_X1.map (vh_sh 1)) ++ cs_X1.map (vh_sh 78) from hc) with h | h
  · rcases List.mem_append.mp h with h | h
    · rw [List.mem_singleton.mp h]
      exact vh_okI (by decide +kernel)
    · exact wl_ok (k := 0) wf_X1 (by rw [wl_len]; decide) c h
  · exact wl_ok (k := 0) wf_X1 (by rw [wl_len]; decide) c h
def k_X5_init : List (Nat × vhF) := [(0, hi_aload 0 1), (1, hi_oinit 4), (4, hi_aload 0 5), (5, hi_newc 154 1578 14 76 775 cs_X1 12), (12, hi_putR 0 0 15), (15, hi_aload 0 16), (16, hi_newc 154 1578 14 76 775 cs_X1 23), (23, hi_putR 0 1 26), (26, hi_retV)]
set_option maxRecDepth 20000 in
theorem s_X5_init : ∀ q ∈ k_X5_init, vh_Snd ww_tb wh_nx ww_cl ww_tyl cX5_init 1 RX5 none 3 154 1578 true q.1 q.2 := by
  refine vg_cons (ht_aload_n dX5_init_0 rfl rfl) ?_
  refine vg_cons (ht_oinit dX5_init_1 u_51 u_1 u_2 (by decide) rfl) ?_
  refine vg_cons (ht_aload_n dX5_init_4 rfl rfl) ?_
  refine vg_cons (ht_newc (ci := 1) (T := TX1) (N := 14) tyX1 I_X1_init (by decide +kernel) dX5_init_5 dX5_init_8 dX5_init_9 rfl ww_inX1 tyX1_ok u_53 u_54 u_55 (by intro j hj; match j, hj with | 0, _ => exact rfl | 1, _ => exact rfl | 2, _ => exact rfl | 3, _ => exact rfl | 4, _ => exact rfl | 5, _ => exact rfl | 6, _ => exact rfl | 7, _ => exact rfl | 8, _ => exact rfl | 9, _ => exact rfl | 10, _ => exact rfl | 11, _ => exact rfl | 12, _ => exact rfl | 13, _ => exact rfl) ww_good u_56 rfl u_52 u_57 rfl (by decide +kernel) (by decide) rfl) ?_
  refine vg_cons (ht_putF (T := TX5) tyX5 rfl dX5_init_12 rfl (by decide) ww_inX5 tyX5_ok nmX5 rfl rfl (fun _ => ⟨rfl, rfl⟩) u_58 rfl) ?_
  refine vg_cons (ht_aload_n dX5_init_15 rfl rfl) ?_
  refine vg_cons (ht_newc (ci := 1) (T := TX1) (N := 14) tyX1 I_X1_init (by decide +kernel) dX5_init_16 dX5_init_19 dX5_init_20 rfl ww_inX1 tyX1_ok u_53 u_54 u_55 (by intro j hj; match j, hj with | 0, _ => exact rfl | 1, _ => exact rfl | 2, _ => exact rfl | 3, _ => exact rfl | 4, _ => exact rfl | 5, _ => exact rfl | 6, _ => exact rfl | 7, _ => exact rfl | 8, _ => exact rfl | 9, _ => exact rfl | 10, _ => exact rfl | 11, _ => exact rfl | 12, _ => exact rfl | 13, _ => exact rfl) ww_good u_56 rfl u_52 u_57 rfl (by decide +kernel) (by decide) rfl) ?_
  refine vg_cons (ht_putF (T := TX5) tyX5 rfl dX5_init_23 rfl (by decide) ww_inX5 tyX5_ok nmX5 rfl rfl (fun _ => ⟨rfl, rfl⟩) u_59 rfl) ?_
  refine vg_cons (ht_return dX5_init_26 rfl) ?_
  exact fun _ h => absurd h List.not_mem_nil
theorem m_X5_init : vh_Code k_X5_init := fun q h => (s_X5_init q h).1

abbrev wx_P : vhO := fun r σ => r = none ∧ σ.1 = cs_X5 ∧ σ.2.1 ≤ 154 ∧ σ.2.2 ≤ 1578
theorem wx_l2 : ([Sum.inl (0, [.inr (vh_n 1), .inl .null])] ++ cs_X1.map (vh_sh 1) : vhS).length = 78 := by
  rw [List.length_append, List.length_map, wl_len]
  rfl
theorem go_X5_b : vh_Go k_X5_init wx_P 15 [(0, .inr (vh_n 0))] [] ([Sum.inl (0, [.inr (vh_n 1), .inl .null])] ++ cs_X1.map (vh_sh 1), 77, 789) := by
  refine vh_run (cuts := [(23, [0])]) m_X5_init 4 ?_
  refine And.intro ⟨by decide, by decide⟩ ?_
  dsimp only
  rw [wx_l2]
  refine vh_run (cuts := []) m_X5_init 4 ?_
  exact ⟨rfl, rfl, Nat.le_refl _, Nat.le_refl _⟩
theorem go_X5_init : vh_Go k_X5_init wx_P 0 [(0, .inr (vh_n 0))] [] ([.inl (0, fs_X5.map .inl)], 0, 0) := by
  refine vh_run (cuts := [(15, [0])]) m_X5_init 10 ?_
  refine And.intro ⟨by decide, by decide⟩ ?_
  exact go_X5_b
theorem I_X5_init : vh_Ini ww_tb wh_nx ww_cl ww_tyl yX5_init cX5_init 1 3 154 1578 0 fs_X5 cs_X5 := vh_ini wf_X5 (by decide +kernel) rfl rfl (by decide) s_X5_init go_X5_init
end
