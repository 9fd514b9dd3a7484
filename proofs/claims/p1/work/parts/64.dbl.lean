-- words of the tables, and what stands at each place of the methods' code (laid by program)
theorem dX7_meanDelay_0 : decode cX7_meanDelay 0 = .ok (.aload_n 0, 1) := by decide +kernel
theorem dX7_meanDelay_1 : decode cX7_meanDelay 1 = .ok (.iconst 0, 1) := by decide +kernel
theorem dX7_meanDelay_2 : decode cX7_meanDelay 2 = .ok (.putfield 20, 3) := by decide +kernel
theorem dX7_meanDelay_5 : decode cX7_meanDelay 5 = .ok (.aload_n 0, 1) := by decide +kernel
theorem dX7_meanDelay_6 : decode cX7_meanDelay 6 = .ok (.iload_n 1, 1) := by decide +kernel
theorem dX7_meanDelay_7 : decode cX7_meanDelay 7 = .ok (.invokevirtual 114, 3) := by decide +kernel
theorem dX7_meanDelay_10 : decode cX7_meanDelay 10 = .ok (.ifCond .ne 10, 3) := by decide +kernel
theorem dX7_meanDelay_13 : decode cX7_meanDelay 13 = .ok (.aload_n 0, 1) := by decide +kernel
theorem dX7_meanDelay_14 : decode cX7_meanDelay 14 = .ok (.iconst 1, 1) := by decide +kernel
theorem dX7_meanDelay_15 : decode cX7_meanDelay 15 = .ok (.invokevirtual 43, 3) := by decide +kernel
theorem dX7_meanDelay_18 : decode cX7_meanDelay 18 = .ok (.i2d, 1) := by decide +kernel
theorem dX7_meanDelay_19 : decode cX7_meanDelay 19 = .ok (.dreturn, 1) := by decide +kernel
theorem dX7_meanDelay_20 : decode cX7_meanDelay 20 = .ok (.iconst 0, 1) := by decide +kernel
theorem dX7_meanDelay_21 : decode cX7_meanDelay 21 = .ok (.istore_n 2, 1) := by decide +kernel
theorem dX7_meanDelay_22 : decode cX7_meanDelay 22 = .ok (.iconst 0, 1) := by decide +kernel
theorem dX7_meanDelay_23 : decode cX7_meanDelay 23 = .ok (.istore_n 3, 1) := by decide +kernel
theorem dX7_meanDelay_24 : decode cX7_meanDelay 24 = .ok (.iconst 0, 1) := by decide +kernel
theorem dX7_meanDelay_25 : decode cX7_meanDelay 25 = .ok (.istore 4, 2) := by decide +kernel
theorem dX7_meanDelay_27 : decode cX7_meanDelay 27 = .ok (.iload 4, 2) := by decide +kernel
theorem dX7_meanDelay_29 : decode cX7_meanDelay 29 = .ok (.aload_n 0, 1) := by decide +kernel
theorem dX7_meanDelay_30 : decode cX7_meanDelay 30 = .ok (.getfield 10, 3) := by decide +kernel
theorem dX7_meanDelay_33 : decode cX7_meanDelay 33 = .ok (.getfield 33, 3) := by decide +kernel
theorem dX7_meanDelay_36 : decode cX7_meanDelay 36 = .ok (.if_icmp .ge 81, 3) := by decide +kernel
theorem dX7_meanDelay_39 : decode cX7_meanDelay 39 = .ok (.aload_n 0, 1) := by decide +kernel
theorem dX7_meanDelay_40 : decode cX7_meanDelay 40 = .ok (.getfield 10, 3) := by decide +kernel
theorem dX7_meanDelay_43 : decode cX7_meanDelay 43 = .ok (.iload 4, 2) := by decide +kernel
theorem dX7_meanDelay_45 : decode cX7_meanDelay 45 = .ok (.iload_n 1, 1) := by decide +kernel
theorem dX7_meanDelay_46 : decode cX7_meanDelay 46 = .ok (.invokevirtual 137, 3) := by decide +kernel
theorem dX7_meanDelay_49 : decode cX7_meanDelay 49 = .ok (.ifCond .ne 6, 3) := by decide +kernel
theorem dX7_meanDelay_52 : decode cX7_meanDelay 52 = .ok (.goto 59, 3) := by decide +kernel
theorem dX7_meanDelay_55 : decode cX7_meanDelay 55 = .ok (.iload_n 2, 1) := by decide +kernel
theorem dX7_meanDelay_56 : decode cX7_meanDelay 56 = .ok (.aload_n 0, 1) := by decide +kernel
theorem dX7_meanDelay_57 : decode cX7_meanDelay 57 = .ok (.getfield 10, 3) := by decide +kernel
theorem dX7_meanDelay_60 : decode cX7_meanDelay 60 = .ok (.getfield 46, 3) := by decide +kernel
theorem dX7_meanDelay_63 : decode cX7_meanDelay 63 = .ok (.iload 4, 2) := by decide +kernel
theorem dX7_meanDelay_65 : decode cX7_meanDelay 65 = .ok (.aaload, 1) := by decide +kernel
theorem dX7_meanDelay_66 : decode cX7_meanDelay 66 = .ok (.iconst 1, 1) := by decide +kernel
theorem dX7_meanDelay_67 : decode cX7_meanDelay 67 = .ok (.iaload, 1) := by decide +kernel
theorem dX7_meanDelay_68 : decode cX7_meanDelay 68 = .ok (.aload_n 0, 1) := by decide +kernel
theorem dX7_meanDelay_69 : decode cX7_meanDelay 69 = .ok (.getfield 10, 3) := by decide +kernel
theorem dX7_meanDelay_72 : decode cX7_meanDelay 72 = .ok (.iload 4, 2) := by decide +kernel
theorem dX7_meanDelay_74 : decode cX7_meanDelay 74 = .ok (.iload_n 1, 1) := by decide +kernel
theorem dX7_meanDelay_75 : decode cX7_meanDelay 75 = .ok (.invokevirtual 60, 3) := by decide +kernel
theorem dX7_meanDelay_78 : decode cX7_meanDelay 78 = .ok (.iconst 4, 1) := by decide +kernel
theorem dX7_meanDelay_79 : decode cX7_meanDelay 79 = .ok (.iaload, 1) := by decide +kernel
theorem dX7_meanDelay_80 : decode cX7_meanDelay 80 = .ok (.aload_n 0, 1) := by decide +kernel
theorem dX7_meanDelay_81 : decode cX7_meanDelay 81 = .ok (.getfield 10, 3) := by decide +kernel
theorem dX7_meanDelay_84 : decode cX7_meanDelay 84 = .ok (.getfield 104, 3) := by decide +kernel
theorem dX7_meanDelay_87 : decode cX7_meanDelay 87 = .ok (.iload_n 1, 1) := by decide +kernel
theorem dX7_meanDelay_88 : decode cX7_meanDelay 88 = .ok (.aaload, 1) := by decide +kernel
theorem dX7_meanDelay_89 : decode cX7_meanDelay 89 = .ok (.bipush 6, 2) := by decide +kernel
theorem dX7_meanDelay_91 : decode cX7_meanDelay 91 = .ok (.iaload, 1) := by decide +kernel
theorem dX7_meanDelay_92 : decode cX7_meanDelay 92 = .ok (.isub, 1) := by decide +kernel
theorem dX7_meanDelay_93 : decode cX7_meanDelay 93 = .ok (.imul, 1) := by decide +kernel
theorem dX7_meanDelay_94 : decode cX7_meanDelay 94 = .ok (.iadd, 1) := by decide +kernel
theorem dX7_meanDelay_95 : decode cX7_meanDelay 95 = .ok (.istore_n 2, 1) := by decide +kernel
theorem dX7_meanDelay_96 : decode cX7_meanDelay 96 = .ok (.iload_n 3, 1) := by decide +kernel
theorem dX7_meanDelay_97 : decode cX7_meanDelay 97 = .ok (.aload_n 0, 1) := by decide +kernel
theorem dX7_meanDelay_98 : decode cX7_meanDelay 98 = .ok (.getfield 10, 3) := by decide +kernel
theorem dX7_meanDelay_101 : decode cX7_meanDelay 101 = .ok (.getfield 46, 3) := by decide +kernel
theorem dX7_meanDelay_104 : decode cX7_meanDelay 104 = .ok (.iload 4, 2) := by decide +kernel
theorem dX7_meanDelay_106 : decode cX7_meanDelay 106 = .ok (.aaload, 1) := by decide +kernel
theorem dX7_meanDelay_107 : decode cX7_meanDelay 107 = .ok (.iconst 1, 1) := by decide +kernel
theorem dX7_meanDelay_108 : decode cX7_meanDelay 108 = .ok (.iaload, 1) := by decide +kernel
theorem dX7_meanDelay_109 : decode cX7_meanDelay 109 = .ok (.iadd, 1) := by decide +kernel
theorem dX7_meanDelay_110 : decode cX7_meanDelay 110 = .ok (.istore_n 3, 1) := by decide +kernel
theorem dX7_meanDelay_111 : decode cX7_meanDelay 111 = .ok (.iinc 4 1, 3) := by decide +kernel
theorem dX7_meanDelay_114 : decode cX7_meanDelay 114 = .ok (.goto (-87), 3) := by decide +kernel
theorem dX7_meanDelay_117 : decode cX7_meanDelay 117 = .ok (.iload_n 3, 1) := by decide +kernel
theorem dX7_meanDelay_118 : decode cX7_meanDelay 118 = .ok (.ifCond .ne 7, 3) := by decide +kernel
theorem dX7_meanDelay_121 : decode cX7_meanDelay 121 = .ok (.dconst 0, 1) := by decide +kernel
theorem dX7_meanDelay_122 : decode cX7_meanDelay 122 = .ok (.goto 8, 3) := by decide +kernel
theorem dX7_meanDelay_125 : decode cX7_meanDelay 125 = .ok (.iload_n 2, 1) := by decide +kernel
theorem dX7_meanDelay_126 : decode cX7_meanDelay 126 = .ok (.i2d, 1) := by decide +kernel
theorem dX7_meanDelay_127 : decode cX7_meanDelay 127 = .ok (.iload_n 3, 1) := by decide +kernel
theorem dX7_meanDelay_128 : decode cX7_meanDelay 128 = .ok (.i2d, 1) := by decide +kernel
theorem dX7_meanDelay_129 : decode cX7_meanDelay 129 = .ok (.ddiv, 1) := by decide +kernel
theorem dX7_meanDelay_130 : decode cX7_meanDelay 130 = .ok (.dreturn, 1) := by decide +kernel
/-! doubles: what the law's one call that answers one asks -/
section DB
variable {p : Program} {l : Launch} {e : Env} {R : Room} {s : State} {m : MethodId} {args : Array Value} {below : List Frame} {meth : Method} {c : Code} {H : Heap} {locs : List Loc} {cells slots : Nat} {Q : State → Prop}
variable {cc : ByteArray} {pc : Nat} {ls : Array Slot} {rest : List Value}
theorem lq_i2d (hexec : p.tables.exec = Jvm.exec) (hb : c.code = cc) {x : Int32} (hdg : decode cc pc = .ok (.i2d, 1))
    (k : ∀ v : UInt64, W p l e R s m args below meth c H locs cells slots Q (F0 m (pc + 1) ls (.double v :: rest))) : W p l e R s m args below meth c H locs cells slots Q (F0 m pc ls (.int x :: rest)) := by
  intro T hT X
  obtain ⟨t, a, b⟩ := k (FP.i2d x) T hT X
  refine ⟨t, ?_, b⟩
  jvm_step X.here [X.here.top, hexec, hb, hdg]
  exact a
theorem lq_dstore (hexec : p.tables.exec = Jvm.exec) (hb : c.code = cc) {i nL : Nat} {x : UInt64} {lv lv' : List (Nat × Value)} (hdg : decode cc pc = .ok (.dstore i, 2)) (h : lv_has ls nL lv) (hn : i + 1 < nL) (hl : (i, Value.double x) :: lv.filter (fun q => !(q.1 == i) && (!(q.1 == i + 1) && !(q.1 + 1 == i && q.2.category == 2))) = lv')
    (kk : ∀ ls' : Array Slot, lv_has ls' nL lv' → W p l e R s m args below meth c H locs cells slots Q (F0 m (pc + 2) ls' rest)) : W p l e R s m args below meth c H locs cells slots Q (F0 m pc ls (.double x :: rest)) := by
  obtain ⟨ls', e', h'⟩ := lv_store2 (v := .double x) h hn rfl
  intro T hT X
  obtain ⟨t, a, b⟩ := kk ls' (hl ▸ h') T hT X
  refine ⟨t, ?_, b⟩
  jvm_step X.here [X.here.top, ↓top_set X.here.top, hexec, hb, hdg, e']
  exact a
theorem lq_dret {Qc : Array Value → State → Outcome → State → Prop} {free : Addr → Prop} {v : UInt64} (hexec : p.tables.exec = Jvm.exec) (hb : c.code = cc) (hr : meth.sig.returnType = some .double)
    (hq : ∀ t : State, t.heap = H → Qc args s (.returned (some (.double v))) t) (hf : ∀ q ∈ locs, free q.base)
    (hdg : decode cc pc = .ok (.dreturn, 1)) (hlocks : meth.locks = false) : W p l e R s m args below meth c H locs cells slots (MQ below Qc args s cells slots free) (F0 m pc ls [.double v]) := by
  intro T hT X
  obtain ⟨fs, hret, hrun, hended, hW, hframe⟩ := X.leave (v := some (.double v)) (fun h => by rw [hr] at h; cases h)
  have hmeth' : T.vm.method? m = some meth := X.method'
  refine ⟨T.setFrames fs, ?_, .returned (some (.double v)), hrun, hended, hq _ hT, locs, ⟨⟨_, rfl⟩, hW, hframe⟩, hf⟩
  jvm_step X.here [X.here.top, hexec, hb, hdg, hmeth', hr, narrow]
  (try refine ⟨rfl, ?_⟩); (try refine ⟨rfl, ?_⟩)
  first | (intro acts; rw [hret _ acts rfl rfl rfl]) | rw [hret _ _ rfl rfl rfl]
  exact Steps.refl _
end DB
def k_X7_meanDelay : List (Nat × vgF) := [(0, vi_aload 0 1), (1, vi_icst (0) 2), (2, vi_put mm_shp 0 0 5), (5, vi_aload 0 6), (6, vi_iload 1 7), (7, vi_callV mm_shp 0 sp_X7_isWarning 1 10), (10, vi_if (fun x => x = 0) 13 20), (13, vi_aload 0 14), (14, vi_icst (1) 15), (15, vi_callV mm_shp 0 sp_X7_no 1 18)]
set_option maxRecDepth 20000 in
theorem s_X7_meanDelay {nm : List vgN} (hcl : vg_closed mm_shp nm) : ∀ q ∈ k_X7_meanDelay, vm_Snd false ww_tb [] [] [] mm_shp nm mm_cl mm_tyl cX7_meanDelay 5 RX7 (some .double) 2 q.1 q.2 := by
  refine vg_cons (vt_aload_n dX7_meanDelay_0 rfl rfl) ?_
  refine vg_cons (vt_iconst dX7_meanDelay_1 rfl rfl) ?_
  refine vg_cons (vt_putfield (T := TX7) tyX7 dX7_meanDelay_2 rfl (by decide) mm_inX7 tyX7_ok nmX7 rfl rfl u_201 rfl) ?_
  refine vg_cons (vt_aload_n dX7_meanDelay_5 rfl rfl) ?_
  refine vg_cons (vt_iload_n dX7_meanDelay_6 rfl rfl) ?_
  refine vg_cons (vt_callV (T := TX7) (c_X7_isWarning hcl) dX7_meanDelay_7 rfl ww_good u_214 u_198 u_215 u_216 u_217 (by decide +kernel) (by decide) rfl) ?_
  refine vg_cons (vt_if_ne dX7_meanDelay_10 (by decide) rfl) ?_
  refine vg_cons (vt_aload_n dX7_meanDelay_13 rfl rfl) ?_
  refine vg_cons (vt_iconst dX7_meanDelay_14 rfl rfl) ?_
  refine vg_cons (vt_callV (T := TX7) (c_X7_no hcl) dX7_meanDelay_15 rfl ww_good u_210 u_198 u_211 u_212 u_213 (by decide +kernel) (by decide) rfl) ?_
  exact fun _ h => absurd h List.not_mem_nil
theorem m_X7_meanDelay : vg_Code k_X7_meanDelay := fun q h => (s_X7_meanDelay (nm := []) (fun n hn => nomatch hn) q h).1

def pm_X7_meanDelay : vgT → vgS → Prop := fun av σ => match av with
  | [.inr (40, 0, 0), .inl (.int w)] => mm_fr σ
  | _ => False
abbrev ex_X7_meanDelay : List (Nat × vgF) := [(18, vi_exit (fun lv st σ1 => st = [.inl (.int 0)] ∧ σ1 (40, 0, 0) 0 = 1))]
set_option maxRecDepth 20000 in
theorem gx_X7_meanDelay : ∀ (w : Int32) (σ : vgS), mm_fr σ → vg_Go (ex_X7_meanDelay ++ k_X7_meanDelay) (fun _ _ => False) 0 [(0, .inr (40, 0, 0)), (1, .inl (.int w))] [] σ := by
  intro w σ h
  refine vg_run (cuts := []) (vm_code1 m_X7_meanDelay) 80 ?_
  have ht : ¬ (¬ w < 0 ∧ w ≤ σ (41, 0, 0) 10 - 1) := mm_no h.1.2.2.1
  refine And.intro trivial (And.intro (fun _ => And.intro trivial ⟨rfl, rfl⟩) (fun z => absurd (jb_f ht) z))
def mm_dQ (nm : List vgN) (D : va_G) (tys : List (ClassId × FieldType)) (ad : vgN → Nat) (A : Nat → Prop) : Array Value → State → Outcome → State → Prop := fun _ st oc t =>
  (∃ (v : UInt64) (σ' : vgS), oc = .returned (some (.double v)) ∧ σ' (40, 0, 0) 0 = 1 ∧ va_P D mm_cl (vg_ws mm_shp nm ad tys σ') t.heap) ∧ va_F A st t
def mm_Dm (nm : List vgN) : Prop := ∀ (l : Launch) (D : va_G) (tys : List (ClassId × FieldType)) (ad : vgN → Nat) (sz : Nat) (w : Int32) (σ : vgS), tys.map (fun q => q.2) = mm_tyl → mm_fr σ →
  Met l yX7_meanDelay (.code yX7_meanDelay cX7_meanDelay 5 (some .double) :: ww_tb) { frames := 2, cells := 0, slots := 0, locals := 32 * 2 } (va_Pc [.ref (ad (40, 0, 0)), .int w] (fun U => U.heap.size = sz ∧ va_P D mm_cl (vg_ws mm_shp nm ad tys σ) U.heap ∧ va_K D mm_cl tys U ∧ va_D (fun _ => True) (vg_ws mm_shp nm ad tys σ))) (mm_dQ nm D tys ad (vg_A nm ad sz)) 0 0 (vg_A nm ad sz)
theorem dm_X7_meanDelay {nm : List vgN} (hcl : vg_closed mm_shp nm) (h40 : (40, 0, 0) ∈ nm) : mm_Dm nm := by
  intro l D tys ad sz w σ hty hpre
  refine Met.ofW (cc := cX7_meanDelay) (maxL := 5) (ret := (some .double)) (by decide +kernel) rfl ?_
  intro p e s m args below meth c s₁ B hml hv
  obtain ⟨rfl, hsz, hP, hK, hD⟩ := hv
  have hx := B.exec
  have hb' := B.bytes
  have hr := B.returns
  have hts : ∀ w' ∈ ww_tb, w'.before ([Value.ref (ad (40, 0, 0)), Value.int w] : List Value).toArray s = true := fun w' h => atoms_spec (ws := .code yX7_meanDelay cX7_meanDelay 5 (some .double) :: ww_tb) B.pre w' (List.mem_cons_of_mem _ h)
  have ho : s.vm.findClass RX7 = some m.cls := findClass_of_methodNamed B.named
  have hlocks := B.notSynchronized
  subst hsz
  have C0 : vm_C ww_tb [] mm_shp nm mm_cl mm_tyl cX7_meanDelay 5 RX7 (some .double) 2 p { frames := 2, cells := 0, slots := 0, locals := 32 * 2 } s m ([Value.ref (ad (40, 0, 0)), Value.int w] : List Value).toArray meth c D tys ad (vg_A nm ad s.heap.size) := ⟨hx, hb', hml, ho, hts, hK, hty, hr, hlocks, ⟨Nat.le_refl _, Nat.le_refl _⟩, fun q h => Or.inr h, mm_vgA hD, hcl, fun z hz => nomatch hz⟩
  have hl := lv_entry ([Value.ref (ad (40, 0, 0)), Value.int w] : List Value) (n := 5) (show (2 : Nat) ≤ 5 by decide)
  rw [lg_entry_eq]
  refine vm_sound (ex := ex_X7_meanDelay) (P := fun _ _ => False) (s_X7_meanDelay hcl) C0 ⟨⟨Nat.le_refl _, Nat.le_refl _⟩, fun r σ pc ls H locs hp => hp.elim, fun h => Bool.noConfusion h⟩ (fun q hq lv st σ1 hE => ?_) (gx_X7_meanDelay w σ hpre) s.heap [] _ hl (fun q hq => ?_) (fun v h => by cases h) hP va_S.rf
  · rw [List.mem_singleton.mp hq] at hE ⊢
    obtain ⟨rfl, h1⟩ := hE
    intro H1 locs1 ls1 hl1 ho1 hs1 hP1 hS1
    refine lq_i2d hx hb' dX7_meanDelay_18 (fun v => ?_)
    exact lq_dret hx hb' hr (fun t ht => ⟨⟨v, σ1, rfl, h1, by rw [ht]; exact hP1⟩, hS1.F ht⟩) hS1.2.2 dX7_meanDelay_19 hlocks
  · rcases List.mem_cons.mp hq with rfl | hq
    · exact h40
    · rw [List.mem_singleton.mp hq]
      trivial
