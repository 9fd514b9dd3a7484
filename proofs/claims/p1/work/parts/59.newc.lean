-- words of the tables, and what stands at each place of the methods' code (laid by program)
/-! 'new C()' in the machine of names: its cells get the names nmL -/
theorem vq_AOA.warmA {ty : FieldType} {s U : State} (hW : s.WarmedH U.vm) (h : vq_AOA ty s) : vq_AOA ty U := vq_AOA.moved hW.alike h
def vm_jn (nmL : List vgN) (pos : vgN → Nat) (cs : vhS) (σ : vgS) : vgS := fun n => if n ∈ nmL then vh_σ pos cs n else σ n
theorem vm_jn_in {nmL : List vgN} {pos : vgN → Nat} {cs : vhS} {σ : vgS} {n : vgN} (h : n ∈ nmL) : vm_jn nmL pos cs σ n = vh_σ pos cs n := if_pos h
theorem vm_jn_out {nmL : List vgN} {pos : vgN → Nat} {cs : vhS} {σ : vgS} {n : vgN} (h : ¬ n ∈ nmL) : vm_jn nmL pos cs σ n = σ n := if_neg h
theorem vg_ws_len {shp : vgN → vgH} {nm : List vgN} {ad : vgN → Nat} {tys : List (ClassId × FieldType)} {σ : vgS} : (vg_ws shp nm ad tys σ).length = nm.length := by unfold vg_ws; rw [List.length_map]
theorem vg_ws_addr {shp : vgN → vgH} {nm : List vgN} {ad : vgN → Nat} {tys : List (ClassId × FieldType)} {σ : vgS} : (vg_ws shp nm ad tys σ).map (fun q => q.1) = nm.map ad := by
  unfold vg_ws
  rw [List.map_map]
  rfl
/-- two worlds with names side by side -/
theorem vm_two {D : va_G} {cl : List vw_C} {shp : vgN → vgH} {nm nmL : List vgN} {tys : List (ClassId × FieldType)} {ad adL ad' : vgN → Nat} {σ σL σ' : vgS} {H : Heap} (hcl : vg_closed shp nm) (hclL : vg_closed shp nmL)
    (ha : ∀ n ∈ nm, ad' n = ad n) (haL : ∀ n ∈ nmL, ad' n = adL n) (hσ : ∀ n ∈ nm, σ' n = σ n) (hσL : ∀ n ∈ nmL, σ' n = σL n) (hP : va_P D cl (vg_ws shp nm ad tys σ) H) (hPL : va_P D cl (vg_ws shp nmL adL tys σL) H) : va_P D cl (vg_ws shp (nm ++ nmL) ad' tys σ') H := by
  have e : vg_ws shp (nm ++ nmL) ad' tys σ' = vg_ws shp nm ad' tys σ' ++ vg_ws shp nmL ad' tys σ' := by unfold vg_ws; rw [List.map_append]
  rw [e]
  exact va_P.app (fun k x hk => vm_ws_at hcl ha hσ hP k x hk) (vm_ws_at hclL haL hσL hPL)
theorem vm_closed2 {shp : vgN → vgH} {nm nmL : List vgN} (hcl : vg_closed shp nm) (hclL : vg_closed shp nmL) : vg_closed shp (nm ++ nmL) := by
  intro n hn
  rcases List.mem_append.mp hn with hn | hn
  · have := hcl n hn
    rcases hq : shp n with z | z | z
    · rw [hq] at this
      exact fun w hw => List.mem_append_left _ (this w hw)
    · trivial
    · rw [hq] at this
      exact fun i hi => List.mem_append_left _ (this i hi)
  · have := hclL n hn
    rcases hq : shp n with z | z | z
    · rw [hq] at this
      exact fun w hw => List.mem_append_right _ (this w hw)
    · trivial
    · rw [hq] at this
      exact fun i hi => List.mem_append_right _ (this i hi)
theorem vm_okl {nm nmL : List vgN} : ∀ {v : vgV}, vg_ok nm v → vg_ok (nm ++ nmL) v
  | .inl _, _ => trivial
  | .inr z, h => List.mem_append_left _ (show z ∈ nm from h)
section VNC
variable {p : Program} {l : Launch} {e : Env} {R : Room} {s : State} {m : MethodId} {args : Array Value} {below : List Frame} {meth : Method} {c : Code}
variable {tb : List Cond} {nw : List (String × Nat × MethodName × String)} {shp : vgN → vgH} {nm : List vgN} {cl : List vw_C} {tyl : List FieldType} {cc : ByteArray} {nL : Nat} {own : String} {ret : Option FieldType} {d pc : Nat}
variable {D : va_G} {tys : List (ClassId × FieldType)} {ad : vgN → Nat} {A : Nat → Prop} {Z : State → Prop} {ck cn : Nat}
set_option maxHeartbeats 1000000 in
theorem vm_newc {ci ix ic N : Nat} {C : String} {T : u_T} (ty : Nat → FieldType) {fs : List Value} {y : MethodName} {bytes : ByteArray} {mL d' mc ms : Nat} {cs : vhS} {nx : vhW} {nmL : List vgN} {pos : vgN → Nat} {root : vgN} {lv : vgL} {t : vgT} {σ : vgS}
    (C0 : vm_C tb nw shp nm cl tyl cc nL own ret d p R s m args meth c D tys ad A) (hnx : vh_nx nx s) (hI : vh_Ini tb nx cl tyl y bytes mL d' mc ms ci fs cs) (hB : vh_allB shp nmL pos cs = true) (hnd : va_nd (nmL.map pos) = true) (hroot : root ∈ nmL) (hpr : pos root = 0) (hf : ∀ n ∈ nm, n ∉ nmL) (hclL : vg_closed shp nmL)
    (hd0 : decode cc pc = .ok (.new ix, 3)) (hd3 : decode cc (pc + 3) = .ok (.dup, 1)) (hd4 : decode cc (pc + 4) = .ok (.invokespecial ic, 3)) (hc : cl[ci]? = some (C, T, N)) (hin : ∀ w ∈ u_ws C T N, w ∈ tb) (hty0 : ∀ k, k < N → parseFieldDescriptor (T k).2.2.1 = some (ty k))
    (hk0 : Cond.classLink own ix C ∈ tb) (hinst : Cond.instantiable C N ∈ tb) (hini : Cond.initialized C ∈ tb) (hfs : ∀ j, j < N → defaultValue (ty j) = vp_V fs j) (hG : tb.all goodWord = true) (hcw : Cond.code y bytes mL none ∈ tb) (hyC : y.cls = C) (hl2 : Cond.methodLink own ic y ∈ tb) (hi : Cond.instanceMethod y ∈ tb) (hyn : y.name = "<init>")
    (hy : y.cls ≠ "java/lang/invoke/MethodHandle" ∧ y.cls ≠ "java/lang/invoke/VarHandle" ∧ (parseMethodDescriptor y.desc).map (fun d => d.parameters.length) = some 0) (hR : d' + 1 ≤ d ∧ mL ≤ 13) (hwd : vg_wd t ≤ 6) (hcc : ck + 1 + mc ≤ R.cells) (hcs : cn + N + ms ≤ R.slots)
    (k : ∀ ad' : vgN → Nat, vm_C tb nw shp (nm ++ nmL) cl tyl cc nL own ret d p R s m args meth c D tys ad' A → (∀ n ∈ nm, ad' n = ad n) → vm_X shp (nm ++ nmL) cl nL p l e R s m args below meth c D tys ad' A (ck + 1 + mc) (cn + N + ms) Z (pc + 7) lv (.inr root :: t) (vm_jn nmL pos cs σ)) :
    vm_X shp nm cl nL p l e R s m args below meth c D tys ad A ck cn Z pc lv t σ := by
  intro H locs ls hl ho hs hP hS
  obtain ⟨hx, hcb, hml, hown, hts, hK, hty, hr, hlocks, hRR, hA, hDA, hclo, hnw⟩ := C0
  have hD := hDA σ
  refine va_new (ci := ci) (fs := fs) (C := C) (T := T) (N := N) hx hcb hts hin ty hty0 hown (hts _ hk0) (hts _ hinst) (hts _ hini) hK hP hD hS hA hc hfs (by omega) (by omega) hd0 (fun q H1 hP1 hD1 hS1 => ?_)
  refine lv_dup hx hcb hd3 rfl ?_
  have hL : (vg_ws shp nm ad tys σ).length = nm.length := vg_ws_len
  have hat : (vg_ws shp nm ad tys σ ++ [(q, (Sum.inr (ci, fs) : va_E))])[nm.length]? = some (q, .inr (ci, fs)) := by
    rw [List.getElem?_append_right (by omega), hL, Nat.sub_self]
    rfl
  have hPc : va_P D cl [(q, .inr (ci, fs))] H1 := by
    intro k x hkx
    have h9 : k < 1 := (List.getElem?_eq_some_iff.mp hkx).1
    have h8 : k = 0 := by omega
    subst h8
    cases hkx
    exact hP1 _ _ hat
  have hold : ∀ (k : Nat) (x : Nat × va_E), (vg_ws shp nm ad tys σ)[k]? = some x → x.1 < H1.size ∧ ¬ va_A [(q, (Sum.inr (ci, fs) : va_E))] H1.size x.1 := by
    intro k x hkx
    have hkl : k < nm.length := by rw [← hL]; exact (List.getElem?_eq_some_iff.mp hkx).1
    have hka : (vg_ws shp nm ad tys σ ++ [(q, (Sum.inr (ci, fs) : va_E))])[k]? = some x := by
      rw [List.getElem?_append_left (by rw [hL]; exact hkl)]
      exact hkx
    have hlt := (hP1 k x hka).lt
    refine ⟨hlt, fun z => ?_⟩
    rcases z with ⟨k2, e2, z⟩ | z
    · have h9 : k2 < 1 := (List.getElem?_eq_some_iff.mp z).1
      have h8 : k2 = 0 := by omega
      subst h8
      have h7 : q = x.1 := congrArg Prod.fst (Option.some.inj z)
      have := hD1.1 k nm.length x _ hka hat h7.symm
      omega
    · omega
  have hFree : ∀ z, va_A [(q, (Sum.inr (ci, fs) : va_E))] H1.size z → A z := by
    intro z hz
    rcases hz with ⟨k2, e2, hz⟩ | hz
    · have h9 : k2 < 1 := (List.getElem?_eq_some_iff.mp hz).1
      have h8 : k2 = 0 := by omega
      subst h8
      have h7 : q = z := congrArg Prod.fst (Option.some.inj hz)
      rw [← h7]
      exact hD1.2 _ _ hat
    · exact hA z (Nat.le_trans hS1.1 hz)
  have hg : ∀ w ∈ tb, goodWord w = true := fun w h => List.all_eq_true.mp hG w h
  have cw : CallB R s args own ic y bytes mL none (.code y bytes mL none :: tb) { frames := d', cells := mc, slots := ms, locals := 32 * d' } mc ms 0 := by
    refine callB_of 0 hts (fun w hw => ?_) rfl rfl rfl (hts _ (by rw [hyC]; exact hini)) (hts _ hl2) hy ⟨Nat.le_trans hR.1 hRR.1, ?_⟩
    · rcases List.mem_cons.mp hw with rfl | hw
      · exact ⟨hcw, good_of_word (hg _ hcw)⟩
      · exact ⟨hw, good_of_word (hg _ hw)⟩
    · show 8 + (mL + 11) + 32 * d' ≤ R.locals
      omega
  have hr2 := va_runI (As := []) (rest := .ref q :: t.map (vg_cv ad)) (locs := locs) (cells := ck + 1) (slots := cn + N) (below := below) (meth := meth) (e := e) (g := F0 m (pc + 4) ls (.ref q :: .ref q :: t.map (vg_cv ad))) ⟨hx, hcb, hml, hown, hts⟩ (hI.2 l D tys q H1.size hty) ⟨cw, hyn, hts _ hi⟩ ⟨fun a U g mk z => by
      obtain ⟨q0, q1, qP, qK, qN⟩ := z
      exact ⟨q0, q1, qP, va_K.moved (u := U) (U := U.calling g mk a) (Vm.Alike.refl U.vm) qK, vh_nx.blind qN⟩, fun U hU hW => ⟨rfl, by rw [hU], by rw [hU]; exact hPc, va_K.moved hW.alike hK, vh_nx.warm hW hnx⟩⟩ rfl rfl hl.1 rfl (lv_room (by
      show 1 + ((t.map (vg_cv ad)).map fun v => v.category).sum ≤ 8
      rw [vg_wd_sum]
      omega)) hd4 ⟨by omega, by omega⟩
  intro T9 hT X
  obtain ⟨v, st₀, t9, T', L, h0, X', hLf, e1, e2, ⟨⟨hv, ad1, hP2, hD2, had1⟩, hF⟩, stp⟩ := hr2 T9 hT X
  cases hv
  obtain ⟨hz, hkp⟩ := hF
  rw [h0] at hz hkp
  have hS2 : va_S A s.heap T'.heap (locs ++ L) := ⟨Nat.le_trans hS1.1 (by rw [e1]; exact hz), fun q h1 h2 => by rw [e1, hkp q (Nat.lt_of_lt_of_le h1 hS1.1) (fun z => h2 (hFree q z))]; exact hS1.2.1 q h1 h2, fun q hq => by
    rcases List.mem_append.mp hq with h | h
    · exact hS1.2.2 q h
    · exact hFree _ (hLf q h)⟩
  have hPo : va_P D cl (vg_ws shp nm ad tys σ) T'.heap := fun k x hkx => by
    obtain ⟨g1, g2⟩ := hold k x hkx
    have hka : (vg_ws shp nm ad tys σ ++ [(q, (Sum.inr (ci, fs) : va_E))])[k]? = some x := by
      rw [List.getElem?_append_left (List.getElem?_eq_some_iff.mp hkx).1]
      exact hkx
    exact (hP1 k x hka).kept (by rw [e1]; exact hkp x.1 g1 g2)
  have hV := vh_vg (shp := shp) (nm := nmL) (pos := pos) hB hnd (show va_P D cl (vh_ws ad1 tys cs) T'.heap by rw [e1]; exact hP2) hD2
  have hAD : ∀ (i j : Nat) (x y : Nat × va_E), (vg_ws shp nm ad tys σ)[i]? = some x → (vg_ws shp nmL (fun z => ad1 (vh_n (pos z))) tys (vh_σ pos cs))[j]? = some y → x.1 = y.1 → False := fun i j x y hx' hy' hxy => (hold i x hx').2 (by rw [hxy]; exact hV.2.2 j y hy')
  have hag : ∀ n ∈ nm, (fun n => if n ∈ nmL then ad1 (vh_n (pos n)) else ad n) n = ad n := fun n hn => if_neg (hf n hn)
  have hagL : ∀ n ∈ nmL, (fun n => if n ∈ nmL then ad1 (vh_n (pos n)) else ad n) n = (fun z => ad1 (vh_n (pos z))) n := fun n hn => if_pos hn
  have hDn : ∀ σ', va_D A (vg_ws shp (nm ++ nmL) (fun n => if n ∈ nmL then ad1 (vh_n (pos n)) else ad n) tys σ') := by
    intro σ'
    have h1 : va_D A (vg_ws shp nm ad tys σ ++ vg_ws shp nmL (fun z => ad1 (vh_n (pos z))) tys (vh_σ pos cs)) := va_D.app hD (hV.2.weaken (fun k x _ hx => hFree x.1 hx)) hAD
    refine vh_addr h1 ?_
    rw [vg_ws_addr, List.map_append, List.map_append, vg_ws_addr, vg_ws_addr]
    congr 1
    · exact List.map_congr_left hag
    · exact List.map_congr_left hagL
  have hag2 : ∀ z : vgV, vg_ok nm z → vg_cv (fun n => if n ∈ nmL then ad1 (vh_n (pos n)) else ad n) z = vg_cv ad z := fun z hz => vm_cv_eq hag hz
  have hP9 : va_P D cl (vg_ws shp (nm ++ nmL) (fun n => if n ∈ nmL then ad1 (vh_n (pos n)) else ad n) tys (vm_jn nmL pos cs σ)) T'.heap := vm_two hclo hclL hag hagL (fun n hn => vm_jn_out (hf n hn)) (fun n hn => vm_jn_in hn) hPo hV.1
  have hkk := k (fun n => if n ∈ nmL then ad1 (vh_n (pos n)) else ad n) ⟨hx, hcb, hml, hown, hts, hK, hty, hr, hlocks, hRR, hA, hDn, vm_closed2 hclo hclL, hnw⟩ hag T'.heap (locs ++ L) ls (by rw [vm_lm_eq hag ho]; exact hl) (fun z hz => vm_okl (ho z hz)) (fun v hv => by
    rcases List.mem_cons.mp hv with rfl | hv
    · exact List.mem_append_right _ hroot
    · exact vm_okl (hs v hv)) hP9 hS2
  have e3 : (Sum.inr root :: t : vgT).map (vg_cv (fun n => if n ∈ nmL then ad1 (vh_n (pos n)) else ad n)) = .ref q :: t.map (vg_cv ad) := by
    rw [List.map_cons, List.map_congr_left (fun v hv => hag2 v (hs v hv))]
    show Value.ref (if root ∈ nmL then ad1 (vh_n (pos root)) else ad root) :: _ = _
    rw [if_pos hroot, hpr, had1]
  rw [e3] at hkk
  obtain ⟨t2, a1, b1⟩ := hkk T' rfl X'
  exact ⟨t2, stp t2 a1, b1⟩
theorem vm_E_up2 {tbx : List Cond} {strs : List (String × Nat × String)} {P : vgO} {nmL : List vgN} {ad' : vgN → Nat} (hcl : vg_closed shp nm) (ha : ∀ n ∈ nm, ad' n = ad n) (E0 : vm_E false tb tbx strs shp nm cl cc own ret p l e R s m args below meth c D tys ad A P ck cn Z) : vm_E false tb tbx strs shp (nm ++ nmL) cl cc own ret p l e R s m args below meth c D tys ad' A P ck cn Z := by
  refine ⟨E0.1, ?_, fun h => Bool.noConfusion h⟩
  intro r σ pc ls H locs hp hP hS hk
  have h1 := E0.2.1 r σ pc ls H locs hp (vm_ws_at (ad := ad') (σ := σ) hcl (fun n hn => (ha n hn).symm) (fun _ _ => rfl) (fun i x hi => hP i x (by
    unfold vg_ws at hi ⊢
    rw [List.map_append, List.getElem?_append_left (List.getElem?_eq_some_iff.mp hi).1]
    exact hi))) hS hk
  have e : r.map (vg_cv ad') = r.map (vg_cv ad) := by
    cases r with
    | none => rfl
    | some v =>
      cases v with
      | inl v => rfl
      | inr z => exact hk.elim
  rw [e]
  exact h1
end VNC
