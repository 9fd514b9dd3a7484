-- words of the tables, and what stands at each place of the methods' code (laid by program)
theorem q_434 : Cond.methodLink RX6 1 Lib.objectInit ∈ ww_tb := by decide +kernel
theorem q_435 : Cond.instanceMethod Lib.objectInit ∈ ww_tb := by decide +kernel
theorem q_436 : Cond.code Lib.objectInit ⟨#[0xb1]⟩ 1 none ∈ ww_tb := by decide +kernel
theorem q_437 : Cond.classLink RX6 7 RX5 ∈ ww_tb := by decide +kernel
theorem q_438 : Cond.instantiable RX5 2 ∈ ww_tb := by decide +kernel
theorem q_439 : Cond.code yX5_init cX5_init 1 none ∈ ww_tb := by decide +kernel
theorem q_440 : Cond.methodLink RX6 9 yX5_init ∈ ww_tb := by decide +kernel
theorem q_441 : Cond.instanceMethod yX5_init ∈ ww_tb := by decide +kernel
theorem q_442 : Cond.fieldLink RX6 22 RX6 (TX6 4).2.1 (TX6 4).2.2.1 ∈ ww_tb := by decide +kernel
theorem q_443 : Cond.classLink RX6 25 ("[" ++ (FieldType.array (.array .int)).toString) ∈ ww_tb := by decide +kernel
theorem q_444 : Cond.classLink RX6 30 ("[" ++ (FieldType.array .int).toString) ∈ ww_tb := by decide +kernel
theorem q_445 : Cond.arrayClass .int ∈ ww_tb := by decide +kernel
theorem q_446 : Cond.fieldLink RX6 40 RX6 (TX6 10).2.1 (TX6 10).2.2.1 ∈ ww_tb := by decide +kernel
theorem q_447 : Cond.fieldLink RX6 43 RX6 (TX6 12).2.1 (TX6 12).2.2.1 ∈ ww_tb := by decide +kernel
theorem q_448 : Cond.fieldLink RX6 47 RX6 (TX6 14).2.1 (TX6 14).2.2.1 ∈ ww_tb := by decide +kernel
theorem dX6_init_0 : decode cX6_init 0 = .ok (.aload_n 0, 1) := by decide +kernel
theorem dX6_init_1 : decode cX6_init 1 = .ok (.invokespecial 1, 3) := by decide +kernel
theorem dX6_init_4 : decode cX6_init 4 = .ok (.aload_n 0, 1) := by decide +kernel
theorem dX6_init_5 : decode cX6_init 5 = .ok (.new 7, 3) := by decide +kernel
theorem dX6_init_8 : decode cX6_init 8 = .ok (.dup, 1) := by decide +kernel
theorem dX6_init_9 : decode cX6_init 9 = .ok (.invokespecial 9, 3) := by decide +kernel
theorem dX6_init_12 : decode cX6_init 12 = .ok (.putfield 10, 3) := by decide +kernel
theorem dX6_init_15 : decode cX6_init 15 = .ok (.aload_n 0, 1) := by decide +kernel
theorem dX6_init_16 : decode cX6_init 16 = .ok (.iconst 0, 1) := by decide +kernel
theorem dX6_init_17 : decode cX6_init 17 = .ok (.anewarray 16, 3) := by decide +kernel
theorem dX6_init_20 : decode cX6_init 20 = .ok (.putfield 18, 3) := by decide +kernel
theorem dX6_init_23 : decode cX6_init 23 = .ok (.aload_n 0, 1) := by decide +kernel
theorem dX6_init_24 : decode cX6_init 24 = .ok (.iconst 0, 1) := by decide +kernel
theorem dX6_init_25 : decode cX6_init 25 = .ok (.anewarray 16, 3) := by decide +kernel
theorem dX6_init_28 : decode cX6_init 28 = .ok (.putfield 22, 3) := by decide +kernel
theorem dX6_init_31 : decode cX6_init 31 = .ok (.aload_n 0, 1) := by decide +kernel
theorem dX6_init_32 : decode cX6_init 32 = .ok (.bipush 8, 2) := by decide +kernel
theorem dX6_init_34 : decode cX6_init 34 = .ok (.bipush 12, 2) := by decide +kernel
theorem dX6_init_36 : decode cX6_init 36 = .ok (.multianewarray 25 2, 4) := by decide +kernel
theorem dX6_init_40 : decode cX6_init 40 = .ok (.putfield 27, 3) := by decide +kernel
theorem dX6_init_43 : decode cX6_init 43 = .ok (.aload_n 0, 1) := by decide +kernel
theorem dX6_init_44 : decode cX6_init 44 = .ok (.iconst 3, 1) := by decide +kernel
theorem dX6_init_45 : decode cX6_init 45 = .ok (.iconst 2, 1) := by decide +kernel
theorem dX6_init_46 : decode cX6_init 46 = .ok (.multianewarray 30 2, 4) := by decide +kernel
theorem dX6_init_50 : decode cX6_init 50 = .ok (.putfield 31, 3) := by decide +kernel
theorem dX6_init_53 : decode cX6_init 53 = .ok (.aload_n 0, 1) := by decide +kernel
theorem dX6_init_54 : decode cX6_init 54 = .ok (.iconst 0, 1) := by decide +kernel
theorem dX6_init_55 : decode cX6_init 55 = .ok (.anewarray 16, 3) := by decide +kernel
theorem dX6_init_58 : decode cX6_init 58 = .ok (.putfield 34, 3) := by decide +kernel
theorem dX6_init_61 : decode cX6_init 61 = .ok (.aload_n 0, 1) := by decide +kernel
theorem dX6_init_62 : decode cX6_init 62 = .ok (.iconst 0, 1) := by decide +kernel
theorem dX6_init_63 : decode cX6_init 63 = .ok (.anewarray 16, 3) := by decide +kernel
theorem dX6_init_66 : decode cX6_init 66 = .ok (.putfield 37, 3) := by decide +kernel
theorem dX6_init_69 : decode cX6_init 69 = .ok (.aload_n 0, 1) := by decide +kernel
theorem dX6_init_70 : decode cX6_init 70 = .ok (.bipush 16, 2) := by decide +kernel
theorem dX6_init_72 : decode cX6_init 72 = .ok (.newarray .int, 2) := by decide +kernel
theorem dX6_init_74 : decode cX6_init 74 = .ok (.putfield 40, 3) := by decide +kernel
theorem dX6_init_77 : decode cX6_init 77 = .ok (.aload_n 0, 1) := by decide +kernel
theorem dX6_init_78 : decode cX6_init 78 = .ok (.iconst 1, 1) := by decide +kernel
theorem dX6_init_79 : decode cX6_init 79 = .ok (.putfield 43, 3) := by decide +kernel
theorem dX6_init_82 : decode cX6_init 82 = .ok (.aload_n 0, 1) := by decide +kernel
theorem dX6_init_83 : decode cX6_init 83 = .ok (.iconst 3, 1) := by decide +kernel
theorem dX6_init_84 : decode cX6_init 84 = .ok (.putfield 47, 3) := by decide +kernel
theorem dX6_init_87 : decode cX6_init 87 = .ok (.aload_n 0, 1) := by decide +kernel
theorem dX6_init_88 : decode cX6_init 88 = .ok (.aload_n 1, 1) := by decide +kernel
theorem dX6_init_89 : decode cX6_init 89 = .ok (.putfield 50, 3) := by decide +kernel
theorem dX6_init_92 : decode cX6_init 92 = .ok (.aload_n 0, 1) := by decide +kernel
theorem dX6_init_93 : decode cX6_init 93 = .ok (.iload_n 2, 1) := by decide +kernel
theorem dX6_init_94 : decode cX6_init 94 = .ok (.putfield 53, 3) := by decide +kernel
theorem dX6_init_97 : decode cX6_init 97 = .ok (.iconst 0, 1) := by decide +kernel
theorem dX6_init_98 : decode cX6_init 98 = .ok (.istore_n 3, 1) := by decide +kernel
theorem dX6_init_99 : decode cX6_init 99 = .ok (.iload_n 3, 1) := by decide +kernel
theorem dX6_init_100 : decode cX6_init 100 = .ok (.bipush 16, 2) := by decide +kernel
theorem dX6_init_102 : decode cX6_init 102 = .ok (.if_icmp .ge 16, 3) := by decide +kernel
theorem dX6_init_105 : decode cX6_init 105 = .ok (.aload_n 0, 1) := by decide +kernel
theorem dX6_init_106 : decode cX6_init 106 = .ok (.getfield 40, 3) := by decide +kernel
theorem dX6_init_109 : decode cX6_init 109 = .ok (.iload_n 3, 1) := by decide +kernel
theorem dX6_init_110 : decode cX6_init 110 = .ok (.iconst (-1), 1) := by decide +kernel
theorem dX6_init_111 : decode cX6_init 111 = .ok (.iastore, 1) := by decide +kernel
theorem dX6_init_112 : decode cX6_init 112 = .ok (.iinc 3 1, 3) := by decide +kernel
theorem dX6_init_115 : decode cX6_init 115 = .ok (.goto (-16), 3) := by decide +kernel
theorem dX6_init_118 : decode cX6_init 118 = .ok (.return_, 1) := by decide +kernel
/-! a Told is made -/
theorem vm_fs_eq {ad ad' : vgN → Nat} {f : Nat → Int32} : ∀ (sl : List (Option vgN)) (k : Nat), (∀ n, some n ∈ sl → ad' n = ad n) → vg_fs ad' f k sl = vg_fs ad f k sl
  | [], _, _ => rfl
  | none :: t, k, h => by
    show Value.int (f k) :: vg_fs ad' f (k + 1) t = Value.int (f k) :: vg_fs ad f (k + 1) t
    rw [vm_fs_eq t (k + 1) (fun n hn => h n (List.mem_cons_of_mem _ hn))]
  | some z :: t, k, h => by
    show Value.ref (ad' z) :: vg_fs ad' f (k + 1) t = Value.ref (ad z) :: vg_fs ad f (k + 1) t
    rw [vm_fs_eq t (k + 1) (fun n hn => h n (List.mem_cons_of_mem _ hn)), h z List.mem_cons_self]
/-- the cells that a world's names have, where addresses and ints agree on them -/
theorem vm_ws_at {D : va_G} {cl : List vw_C} {shp : vgN → vgH} {nm : List vgN} {tys : List (ClassId × FieldType)} {ad ad' : vgN → Nat} {σ σ' : vgS} {H : Heap} (hcl : vg_closed shp nm) (ha : ∀ n ∈ nm, ad' n = ad n) (hσ : ∀ n ∈ nm, σ' n = σ n) (hP : va_P D cl (vg_ws shp nm ad tys σ) H) : va_P D cl (vg_ws shp nm ad' tys σ') H := by
  intro k q hk
  unfold vg_ws at hk
  rw [List.getElem?_map] at hk
  cases hn : nm[k]? with
  | none => rw [hn] at hk; cases hk
  | some n =>
    rw [hn] at hk
    cases hk
    have hm := List.mem_of_getElem? hn
    have h0 : va_at D cl (ad n, vg_e ad tys (shp n) (σ n)) H := hP k _ (by unfold vg_ws; rw [List.getElem?_map, hn]; rfl)
    show va_at D cl (ad' n, vg_e ad' tys (shp n) (σ' n)) H
    rw [ha n hm, hσ n hm]
    have hc := hcl n hm
    rcases hs : shp n with q | q | q
    · rw [hs] at h0 hc
      show va_at D cl (ad n, Sum.inr (q.1, vg_fs ad' (σ n) 0 q.2)) H
      rw [vm_fs_eq q.2 0 (fun z hz => ha z (hc z hz))]
      exact h0
    · rw [hs] at h0
      exact h0
    · rw [hs] at h0 hc
      have h1 : H[ad n]? = some (vp_cell (vg_ty tys q.1) (q.2.1, .inr (.inr (.inr (.inr (fun i => some (ad (q.2.2 i)))))))) := h0
      show H[ad n]? = some (vp_cell (vg_ty tys q.1) (q.2.1, .inr (.inr (.inr (.inr (fun i => some (ad' (q.2.2 i))))))))
      rw [h1, vh_arrV (fun i hi => ?_)]
      rw [ha _ (hc i hi)]
def wy_σ : vgS := fun n => if n ∈ ww_nm then wx_σ n else fun _ => 0
theorem wy_in {n : vgN} (h : n ∈ ww_nm) : wy_σ n = wx_σ n := if_pos h
section TIN
variable {p : Program} {l : Launch} {e : Env} {R : Room} {s : State} {m : MethodId} {args : Array Value} {below : List Frame} {meth : Method} {c : Code} {H H0 : Heap} {locs : List Loc} {Q : State → Prop} {ck cn : Nat}
variable {cc : ByteArray} {pc : Nat} {ls : Array Slot} {rest : List Value} {D : va_G} {cI cG cH : ClassId} {A F : Nat → Prop} {own : String} {a : Nat} {fs : List Value}
theorem tK.arr (hK : tK D cI cG cH s) : (Cond.arrayClass (.array .int)).before args s = true := by
  obtain ⟨-, ⟨k, h2, h3⟩, -, -, h7, -⟩ := hK
  have h7' : s.vm.findClass ("[" ++ (FieldType.array .int).toString) = some cG := h7
  simp [Cond.before, Cond.holds, Cond.value, h7', h2, h3]
theorem lt_putF {k index : Nat} {v : Value} (hx : p.tables.exec = Jvm.exec) (hcb : c.code = cc) (hts : ∀ w ∈ ww_tb, w.before args s = true) (hown : s.vm.findClass RX6 = some m.cls) (hK : tK D cI cG cH s) (hT : va_P D tClT [(a, .inr (0, fs))] H) (hS0 : va_S F H0 H locs) (ha : F a) (hdg : decode cc pc = .ok (.putfield index, 3)) (hl : Cond.fieldLink RX6 index RX6 (TX6 k).2.1 (TX6 k).2.2.1 ∈ ww_tb) (hk : k < 15) (h1 : (TX6 k).1 = RX6) (hfin : (TX6 k).2.2.2 = true) (hin2 : meth.name = "<init>") (hn : narrow (tyX6 k) v = v) (hfit : fits (tyX6 k) v = true) (hlen : k < fs.length)
    (kk : ∀ (H1 : Heap) (locs1 : List Loc), va_P D tClT [(a, .inr (0, fs.set k v))] H1 → H1.size = H.size → (∀ q, q ≠ a → H1[q]? = H[q]?) → tE cI cG cH A H H1 → va_S F H0 H1 locs1 → W p l e R s m args below meth c H1 locs1 ck cn Q (F0 m (pc + 3) ls rest)) : W p l e R s m args below meth c H locs ck cn Q (F0 m pc ls (v :: .ref a :: rest)) := by
  have hD : va_D (fun _ => True) ([(a, .inr (0, fs))] : va_W) := ⟨fun i j x y hi hj _ => by
    have h1 : i < 1 := (List.getElem?_eq_some_iff.mp hi).1
    have h2 : j < 1 := (List.getElem?_eq_some_iff.mp hj).1
    omega, fun _ _ _ => trivial⟩
  have he : ([(a, .inr (0, fs))] : va_W)[0]? = some (a, .inr (0, fs)) := rfl
  have hap := va_apart (own := RX6) hts tt_inX6 tyX6 tyX6_ok nmX6 hK.1 (ci := 0) rfl
  obtain ⟨r, h1', cell, q1, q2, q3, q4⟩ := hT 0 _ he
  have hr : r = (RX6, TX6, 15) := (Option.some.inj h1').symm
  subst hr
  obtain ⟨hS, hfc, kC, hkC, hkind⟩ := hK.1.1 0 _ rfl
  obtain ⟨cf, kf, fi, f, hi, hsl⟩ := hS k hk
  have hlay := hts _ (tt_inX6 _ (u_in_lay hk))
  unfold u_lay at hlay
  rw [if_pos hfin] at hlay
  have hst := (u_facts hfc hkC (u_lays hts tt_inX6 hk) hi).1
  have hcf : m.cls = cf := by
    obtain ⟨_, _, c', _, _, _, -, -, hf', -, -, -, hown2, -⟩ := Cond.laysFinal_spec hlay
    have e1 : c' = cf := by have := hi.symm.trans hf'; simp at this; exact this.1.symm
    rw [h1] at hown2
    rw [← e1]; exact Option.some.inj (hown.symm.trans hown2)
  have h6 := u_fits hfc hkC hkind (Or.inr hlay) hi (tyX6_ok k hk) hn hfit
  refine W.putFinK hx hcb hown (hts _ hl) (by rw [h1] at hi; exact hi) hst hcf hin2 (by rw [q2]; exact h6) q1 q3 (by rw [hsl]; exact k2_hasslot (q4 k hk)) rfl rfl hdg fun H' e1 e2 e3 => ?_
  rw [hsl] at e1 ⊢
  have hne := hK.ne
  have hcl : ∀ (c1 : ClassId) (x : vp_A), H[a]? = some (vp_cell c1 x) → D.1 0 = c1 := fun c1 x z => by
    have e := Option.some.inj (q1.symm.trans z)
    rw [← q2, e]
    obtain ⟨n, f | f | f | f | f⟩ := x <;> rfl
  refine kk H' _ (hT.set hD he ⟨_, rfl, t_OB.to (V := updV (vp_V fs) k v) ⟨_, e1, q2, q3, t_set q4 hap hk v⟩ (fun j _ => vp_updV_set hlen v j)⟩ e3) e2 e3 ?_ (hS0.put e2 e3 ha)
  exact tE.one e2 e3 (fun n f z => absurd (hcl _ _ z) hne.2.2.2.1) (fun n f z => absurd (hcl _ _ z) hne.2.2.2.2.1) (fun f z => absurd (hcl _ _ z) hne.2.2.2.2.2)
/-- a row of rows is made -/
theorem lt_mna {index N K : Nat} {n k : Int32} {ty : FieldType} {cy cz : ClassId} {z : vp_A} (hx : p.tables.exec = Jvm.exec) (hcb : c.code = cc) (hts : ∀ w ∈ ww_tb, w.before args s = true) (hown : s.vm.findClass own = some m.cls) (hclink : Cond.classLink own index ("[" ++ (FieldType.array ty).toString) ∈ ww_tb) (hover : vq_AOA ty s) (harr : (Cond.arrayClass ty).before args s = true) (hcy : s.vm.findClass (FieldType.array ty).toString = some cy) (hcz : s.vm.findClass ("[" ++ (FieldType.array ty).toString) = some cz) (hS : va_S F H0 H locs)
    (hn : n = nI N) (hk : k = nI K) (hN : N < 1000) (hKk : K < 1000) (hcb9 : componentBytes ty ≤ 8) (hdf : fits ty (defaultValue ty) = true) (hdd : (defaultValue ty).isDefault = true) (hcells : ck + (1 + N) ≤ R.cells) (hslots : cn + (N + N * K) ≤ R.slots) (hz : ∀ c : ClassId, Jvm.Free.Multi.innerC c K (defaultValue ty) = vp_cell c z) (hdg : decode cc pc = .ok (.multianewarray index 2, 4))
    (kk : ∀ (q : Nat) (r : Nat → Nat) (H1 : Heap), H.size ≤ q → H1[q]? = some (vp_cell cz (N, tq (fun i => if i < N then some (r i) else none))) → (∀ i, i < N → H.size ≤ r i ∧ H1[r i]? = some (vp_cell cy z)) → H.size ≤ H1.size → (∀ x, x < H.size → H1[x]? = H[x]?) → tE cI cG cH A H H1 → va_S F H0 H1 locs →
      W p l e R s m args below meth c H1 locs (ck + 1 + N) (cn + N + N * K) Q (F0 m (pc + 4) ls (.ref q :: rest))) : W p l e R s m args below meth c H locs ck cn Q (F0 m pc ls (.int k :: .int n :: rest)) := by
  have eN : n.toNatClampNeg = N := jcl hn hN
  have eK : k.toNatClampNeg = K := jcl hk hKk
  have hn0 : ¬ n < 0 := by rw [hn]; exact nI_pos (by omega)
  have hk0 : ¬ k < 0 := by rw [hk]; exact nI_pos (by omega)
  subst eN
  subst eK
  intro T hT Xs
  subst hT
  obtain ⟨vm₁, cA, comp, -, fA, fC, hO, -, X', step⟩ := Xs.multianewarray2F hx hown (hts _ hclink) (vq_AOA.use hover) harr (g := F0 m pc ls (.int k :: .int n :: rest)) rfl (by rw [hcb]; exact hdg) rfl hn0 hk0 (by omega) (by
    have : k.toNatClampNeg * componentBytes ty ≤ 1000 * 8 := Nat.mul_le_mul (by omega) hcb9
    omega) (by omega) hdf hdd hcells hslots
  cases (Option.some.inj (hcy.symm.trans fC) : cy = comp)
  cases (Option.some.inj (hcz.symm.trans fA) : cz = cA)
  generalize hF : Jvm.Free.Multi.fill (T.setVm vm₁) cz cy n.toNatClampNeg k.toNatClampNeg (defaultValue ty) n.toNatClampNeg = F9 at X' step
  have hTh : (T.setVm vm₁).heap = T.heap := rfl
  obtain ⟨f1, f2, -, -⟩ := Jvm.Free.Multi.fill_facts (T.setVm vm₁) cz cy n.toNatClampNeg k.toNatClampNeg (defaultValue ty) n.toNatClampNeg
  rw [hF, hTh] at f1 f2
  have hold : ∀ x : Nat, x < T.heap.size → F9.heap[x]? = T.heap[x]? := fun x hx => by
    have := Jvm.Free.Multi.fill_old (T.setVm vm₁) cz cy n.toNatClampNeg k.toNatClampNeg (defaultValue ty) (a := x) (by rw [hTh]; exact hx) n.toNatClampNeg
    rw [hF, hTh] at this
    exact this
  have hrow : ∀ j : Nat, j < n.toNatClampNeg → F9.heap[T.heap.size + 1 + j]? = some (vp_cell cy z) := fun j hj => by
    have := Jvm.Free.Multi.fill_inner (T.setVm vm₁) cz cy n.toNatClampNeg k.toNatClampNeg (defaultValue ty) n.toNatClampNeg j hj
    rw [hF, hTh, hz] at this
    exact this
  have hout : Jvm.Free.Multi.outerC cz n.toNatClampNeg T.heap.size n.toNatClampNeg = vp_cell cz (n.toNatClampNeg, tq (fun i => if i < n.toNatClampNeg then some (T.heap.size + 1 + i) else none)) := by
    rw [vp_cell_q]
    exact vr_outer cz n.toNatClampNeg T.heap.size n.toNatClampNeg
  rw [hout] at f2
  have hz1 : T.heap.size ≤ F9.heap.size := by rw [f1]; omega
  obtain ⟨t, a1, b1⟩ := kk T.heap.size (fun i => T.heap.size + 1 + i) F9.heap (Nat.le_refl _) f2 (fun i hi => ⟨by omega, hrow i hi⟩) hz1 hold (tE.old hz1 (fun q hq _ => hold q hq)) ⟨Nat.le_trans hS.1 hz1, fun x h1 h2 => (hold x (Nat.lt_of_lt_of_le h1 hS.1)).trans (hS.2.1 x h1 h2), hS.2.2⟩ F9 rfl X'
  exact ⟨t, step t a1, b1⟩
end TIN
/-- Told.<init> -/
theorem lt_init (l : Launch) (D : va_G) (cI cG cH : ClassId) (Dx : va_G) (tx : List (ClassId × FieldType)) (sz a b k : Nat) (htx : tx.map (fun q => q.2) = ww_tyl) (ha : a < sz) :
    Met l yX6_init (.code yX6_init cX6_init 4 none :: ww_tb) { frames := 5, cells := 173, slots := 1750, locals := 160 } (va_Pc [.ref a, .ref b, .int (nI k)] (fun U => U.heap.size = sz ∧ tK D cI cG cH U ∧ va_K Dx ww_cl tx U ∧ vh_nx wh_nx U ∧ va_P D tClT [(a, .inr (0, [.null, .null, .int 0, .null, .null, .null, .null, .int 0, .null, .null, .null, .int 0, .int 0, .int 0, .int 0]))] U.heap))
      (fun _ st oc t => (oc = .returned none ∧ ∃ (ad : vgN → Nat) (hi : Nat), sz ≤ hi ∧ hi ≤ t.heap.size ∧ (∀ n ∈ ww_nm, sz ≤ ad n ∧ ad n < hi) ∧ va_D (fun _ => True) (vg_ws ww_shp ww_nm ad tx (fun _ _ => 0)) ∧ tW D cI cG cH (fun q => q = a ∨ hi ≤ q) Dx tx ad a b k 0 0 0 0 wy_σ t.heap) ∧ va_F (fun q => q = a ∨ sz ≤ q) st t) 173 1750 (fun q => q = a ∨ sz ≤ q) := by
  refine Met.ofW (cc := cX6_init) (maxL := 4) (ret := none) (by decide +kernel) rfl ?_
  intro p e s mm args below meth c s₁ B hml hv
  obtain ⟨rfl, hsz, hK, hKx, hnx, hT⟩ := hv
  have hx := B.exec
  have hb := B.bytes
  have hr := B.returns
  have hlocks := B.notSynchronized
  have hts : ∀ w ∈ ww_tb, w.before ([Value.ref a, Value.ref b, Value.int (nI k)] : List Value).toArray s = true := fun w h => atoms_spec (ws := .code yX6_init cX6_init 4 none :: ww_tb) B.pre w (List.mem_cons_of_mem _ h)
  have ho : s.vm.findClass RX6 = some mm.cls := findClass_of_methodNamed B.named
  have hname : meth.name = "<init>" := (name_of_methodNamed B.named B.method).1.trans rfl
  subst hsz
  have hl := lv_entry ([Value.ref a, Value.ref b, Value.int (nI k)] : List Value) (n := 4) (show (3 : Nat) ≤ 4 by decide)
  rw [lg_entry_eq]
  refine lv_aload_n hx hb dX6_init_0 rfl (lv_at hl 0 rfl) ?_
  refine W.objInit hx hb ho (hts _ q_434) (hts _ q_435) (hts _ q_436) rfl (by rw [hml]; exact hl.1) rfl dX6_init_1 (by decide) (show 2 * 0 + 0 + 12 ≤ 160 by decide) ?_
  change W p l e _ s mm _ below meth c s.heap [] 0 0 _ (F0 mm 4 _ [])
  refine lv_aload_n hx hb dX6_init_4 rfl (lv_at hl 0 rfl) ?_
  refine lq_newc (nL := 4) (ci := 0) (C := RX5) (T := TX5) (N := 2) (rest := [.ref a]) tyX5 hx hb hml ho hts hKx htx hnx I_X5_init dX6_init_5 dX6_init_8 dX6_init_9 rfl ww_inX5 tyX5_ok q_437 q_438 q_51 (by decide +kernel) ww_good q_439 rfl q_440 q_441 rfl (by decide +kernel) (by decide) (show (1 + 0 : Nat) ≤ 6 by decide) (by decide) (by decide) (Nat.le_refl _) hl.1 (fun a1 H1 hP1 hD1 hz1 hk1 => ?_)
  obtain ⟨hPx0, hDx0⟩ := vh_vg wx_B wx_nd hP1 hD1
  obtain ⟨ad, had0⟩ : ∃ ad : vgN → Nat, ad = fun z => a1 (vh_n (wx_pos z)) := ⟨_, rfl⟩
  rw [← had0] at hPx0 hDx0
  have hPx1 : va_P Dx ww_cl (vg_ws ww_shp ww_nm ad tx wy_σ) H1 := vm_ws_at ww_closed (fun _ _ => rfl) (fun n hn => wy_in hn) hPx0
  have hDx1 : va_D (fun q => s.heap.size ≤ q) (vg_ws ww_shp ww_nm ad tx (fun _ _ => 0)) := vg_ws_D hDx0 _
  have ea : a1 (vh_n 0) = ad (0, 0, 0) := by
    rw [had0]
    rfl
  rw [ea]
  have had : ∀ n ∈ ww_nm, s.heap.size ≤ ad n ∧ ad n < H1.size := fun n hn => by
    obtain ⟨q0, _, hq⟩ := vg_ws_get (shp := ww_shp) (ad := ad) (tys := tx) (σ := (fun _ _ => 0)) hn
    exact ⟨hDx1.2 q0 _ hq, vg_lt hPx1 hn⟩
  obtain ⟨A, hA⟩ : ∃ A : Nat → Prop, A = fun q => q = a ∨ H1.size ≤ q := ⟨_, rfl⟩
  obtain ⟨FF, hFF⟩ : ∃ FF : Nat → Prop, FF = fun q => q = a ∨ s.heap.size ≤ q := ⟨_, rfl⟩
  have hAa : A a := by rw [hA]; exact Or.inl rfl
  have hAz : ∀ q, H1.size ≤ q → A q := fun q h => by rw [hA]; exact Or.inr h
  have hFa : FF a := by rw [hFF]; exact Or.inl rfl
  have hFz : ∀ q, s.heap.size ≤ q → FF q := fun q h => by rw [hFF]; exact Or.inr h
  have hAd : ∀ n ∈ ww_nm, ¬ A (ad n) := fun n hn h => by
    rw [hA] at h
    have := had n hn
    rcases h with h | h <;> omega
  have hS1 : va_S FF s.heap H1 [] := ⟨hz1, fun q h1 _ => hk1 q h1, fun _ h => nomatch h⟩
  have hT1 := lq_kp hT hk1
  have hs1 : H1.size ≤ H1.size := Nat.le_refl _
  refine lt_putF (A := A) (F := FF) (k := 0) (v := .ref (ad (0, 0, 0))) hx hb hts ho hK hT1 hS1 hFa dX6_init_12 q_389 (by decide) rfl rfl hname rfl rfl (by show 0 < 15; decide) (fun H2 locs2 hT2 hz2 hk2 hEa2 hS2 => ?_)
  have hP2 : va_P Dx ww_cl (vg_ws ww_shp ww_nm ad tx wy_σ) H2 := lq_kw hPx1 (B := fun q => q = a) (fun n hn h => hAd n hn (by rw [h]; exact hAa)) (fun z hz hne => hk2 z hne)
  have hs2 : H1.size ≤ H2.size := by omega
  refine lv_aload_n hx hb dX6_init_15 rfl (lv_at hl 0 rfl) ?_
  refine lv_iconst (v := nI 0) hx hb dX6_init_16 rfl ?_
  refine lt_newG (N := 0) (A := A) (F := FF) hx hb hts ho hK hS2 rfl (by decide) q_372 (by decide) (by decide) dX6_init_17 (fun gr H3 hq3 hc3 hz3 hk3 hEa3 hS3 => ?_)
  have hs30 : H2.size ≤ H3.size := hz3
  have hT3 := lq_kp hT2 hk3
  have hP3 := lq_kp hP2 hk3
  have hs3 : H1.size ≤ H3.size := by omega
  have f_gr : tG cI cG A 0 H3 gr := ⟨hAz _ (by omega), _, hc3, fun i y hi => absurd hi (Nat.not_lt_zero i)⟩
  refine lt_put (A := A) (F := FF) (k := 3) (v := .ref gr) hx hb hts ho hK hT3 hS3 hFa dX6_init_20 q_405 (by decide) rfl rfl rfl rfl (by show 3 < 15; decide) (fun H4 locs4 hT4 hz4 hk4 hEa4 hS4 => ?_)
  have hP4 : va_P Dx ww_cl (vg_ws ww_shp ww_nm ad tx wy_σ) H4 := lq_kw hP3 (B := fun q => q = a) (fun n hn h => hAd n hn (by rw [h]; exact hAa)) (fun z hz hne => hk4 z hne)
  have hs4 : H1.size ≤ H4.size := by omega
  have f_gr := hEa4.2.2.1 _ _ f_gr
  refine lv_aload_n hx hb dX6_init_23 rfl (lv_at hl 0 rfl) ?_
  refine lv_iconst (v := nI 0) hx hb dX6_init_24 rfl ?_
  refine lt_newG (N := 0) (A := A) (F := FF) hx hb hts ho hK hS4 rfl (by decide) q_372 (by decide) (by decide) dX6_init_25 (fun wa H5 hq5 hc5 hz5 hk5 hEa5 hS5 => ?_)
  have f_gr := hEa5.2.2.1 _ _ f_gr
  have hs50 : H4.size ≤ H5.size := hz5
  have hT5 := lq_kp hT4 hk5
  have hP5 := lq_kp hP4 hk5
  have hs5 : H1.size ≤ H5.size := by omega
  have f_wa : tG cI cG A 0 H5 wa := ⟨hAz _ (by omega), _, hc5, fun i y hi => absurd hi (Nat.not_lt_zero i)⟩
  refine lt_put (A := A) (F := FF) (k := 4) (v := .ref wa) hx hb hts ho hK hT5 hS5 hFa dX6_init_28 q_442 (by decide) rfl rfl rfl rfl (by show 4 < 15; decide) (fun H6 locs6 hT6 hz6 hk6 hEa6 hS6 => ?_)
  have hP6 : va_P Dx ww_cl (vg_ws ww_shp ww_nm ad tx wy_σ) H6 := lq_kw hP5 (B := fun q => q = a) (fun n hn h => hAd n hn (by rw [h]; exact hAa)) (fun z hz hne => hk6 z hne)
  have hs6 : H1.size ≤ H6.size := by omega
  have f_gr := hEa6.2.2.1 _ _ f_gr
  have f_wa := hEa6.2.2.1 _ _ f_wa
  refine lv_aload_n hx hb dX6_init_31 rfl (lv_at hl 0 rfl) ?_
  refine lv_bipush (v := nI 8) hx hb dX6_init_32 (by decide) ?_
  refine lv_bipush (v := nI 12) hx hb dX6_init_34 (by decide) ?_
  refine lt_mna (cI := cI) (cG := cG) (cH := cH) (ty := .array .int) (z := (12, tq (fun _ => none))) (N := 8) (K := 12) (A := A) (F := FF) hx hb hts ho q_443 hK.2.2.2.2.2.2 hK.arr hK.2.2.2.2.1 (show s.vm.findClass ("[" ++ (FieldType.array (.array .int)).toString) = some cH from (hK.1.2 2 _ rfl).2) hS6 rfl rfl (by decide) (by decide) (by decide) rfl rfl (by decide) (by decide) (fun _ => rfl) dX6_init_36 (fun he rh H7 hq7 hc7 hrw7 hz7 hk7 hEa7 hS7 => ?_)
  have f_gr := hEa7.2.2.1 _ _ f_gr
  have f_wa := hEa7.2.2.1 _ _ f_wa
  have hs70 : H6.size ≤ H7.size := hz7
  have hT7 := lq_kp hT6 hk7
  have hP7 := lq_kp hP6 hk7
  have hs7 : H1.size ≤ H7.size := by omega
  have f_he : tL cI cG cH A H7 he := ⟨hAz _ (by omega), _, hc7, fun i hi => ⟨rh i, if_pos hi, hAz _ (by have := (hrw7 i hi).1; omega), _, (hrw7 i hi).2, fun i2 y hi2 hy => nomatch hy⟩⟩
  refine lt_putF (A := A) (F := FF) (k := 5) (v := .ref he) hx hb hts ho hK hT7 hS7 hFa dX6_init_40 q_383 (by decide) rfl rfl hname rfl rfl (by show 5 < 15; decide) (fun H8 locs8 hT8 hz8 hk8 hEa8 hS8 => ?_)
  have hP8 : va_P Dx ww_cl (vg_ws ww_shp ww_nm ad tx wy_σ) H8 := lq_kw hP7 (B := fun q => q = a) (fun n hn h => hAd n hn (by rw [h]; exact hAa)) (fun z hz hne => hk8 z hne)
  have hs8 : H1.size ≤ H8.size := by omega
  have f_gr := hEa8.2.2.1 _ _ f_gr
  have f_wa := hEa8.2.2.1 _ _ f_wa
  have f_he := hEa8.2.2.2.1 _ f_he
  refine lv_aload_n hx hb dX6_init_43 rfl (lv_at hl 0 rfl) ?_
  refine lv_iconst (v := nI 3) hx hb dX6_init_44 rfl ?_
  refine lv_iconst (v := nI 2) hx hb dX6_init_45 rfl ?_
  refine lt_mna (cI := cI) (cG := cG) (cH := cH) (ty := .int) (z := (2, .inl (fun _ => 0))) (N := 3) (K := 2) (A := A) (F := FF) hx hb hts ho q_444 hK.2.2.2.2.2.1 (hts _ q_445) hK.2.2.2.1 hK.2.2.2.2.1 hS8 rfl rfl (by decide) (by decide) (by decide) rfl rfl (by decide) (by decide) (fun _ => rfl) dX6_init_46 (fun sh rs H9 hq9 hc9 hrw9 hz9 hk9 hEa9 hS9 => ?_)
  have f_gr := hEa9.2.2.1 _ _ f_gr
  have f_wa := hEa9.2.2.1 _ _ f_wa
  have f_he := hEa9.2.2.2.1 _ f_he
  have hs90 : H8.size ≤ H9.size := hz9
  have hT9 := lq_kp hT8 hk9
  have hP9 := lq_kp hP8 hk9
  have hs9 : H1.size ≤ H9.size := by omega
  have f_sh : tS cI cG A H9 sh := ⟨hAz _ (by omega), _, hc9, fun i hi => ⟨rs i, if_pos hi, hAz _ (by have := (hrw9 i hi).1; omega), _, (hrw9 i hi).2⟩⟩
  refine lt_putF (A := A) (F := FF) (k := 6) (v := .ref sh) hx hb hts ho hK hT9 hS9 hFa dX6_init_50 q_399 (by decide) rfl rfl hname rfl rfl (by show 6 < 15; decide) (fun H10 locs10 hT10 hz10 hk10 hEa10 hS10 => ?_)
  have hP10 : va_P Dx ww_cl (vg_ws ww_shp ww_nm ad tx wy_σ) H10 := lq_kw hP9 (B := fun q => q = a) (fun n hn h => hAd n hn (by rw [h]; exact hAa)) (fun z hz hne => hk10 z hne)
  have hs10 : H1.size ≤ H10.size := by omega
  have f_gr := hEa10.2.2.1 _ _ f_gr
  have f_wa := hEa10.2.2.1 _ _ f_wa
  have f_he := hEa10.2.2.2.1 _ f_he
  have f_sh := hEa10.2.2.2.2 _ f_sh
  refine lv_aload_n hx hb dX6_init_53 rfl (lv_at hl 0 rfl) ?_
  refine lv_iconst (v := nI 0) hx hb dX6_init_54 rfl ?_
  refine lt_newG (N := 0) (A := A) (F := FF) hx hb hts ho hK hS10 rfl (by decide) q_372 (by decide) (by decide) dX6_init_55 (fun si H11 hq11 hc11 hz11 hk11 hEa11 hS11 => ?_)
  have f_gr := hEa11.2.2.1 _ _ f_gr
  have f_wa := hEa11.2.2.1 _ _ f_wa
  have f_he := hEa11.2.2.2.1 _ f_he
  have f_sh := hEa11.2.2.2.2 _ f_sh
  have hs110 : H10.size ≤ H11.size := hz11
  have hT11 := lq_kp hT10 hk11
  have hP11 := lq_kp hP10 hk11
  have hs11 : H1.size ≤ H11.size := by omega
  have f_si : tG cI cG A 0 H11 si := ⟨hAz _ (by omega), _, hc11, fun i y hi => absurd hi (Nat.not_lt_zero i)⟩
  refine lt_put (A := A) (F := FF) (k := 8) (v := .ref si) hx hb hts ho hK hT11 hS11 hFa dX6_init_58 q_384 (by decide) rfl rfl rfl rfl (by show 8 < 15; decide) (fun H12 locs12 hT12 hz12 hk12 hEa12 hS12 => ?_)
  have hP12 : va_P Dx ww_cl (vg_ws ww_shp ww_nm ad tx wy_σ) H12 := lq_kw hP11 (B := fun q => q = a) (fun n hn h => hAd n hn (by rw [h]; exact hAa)) (fun z hz hne => hk12 z hne)
  have hs12 : H1.size ≤ H12.size := by omega
  have f_gr := hEa12.2.2.1 _ _ f_gr
  have f_wa := hEa12.2.2.1 _ _ f_wa
  have f_he := hEa12.2.2.2.1 _ f_he
  have f_sh := hEa12.2.2.2.2 _ f_sh
  have f_si := hEa12.2.2.1 _ _ f_si
  refine lv_aload_n hx hb dX6_init_61 rfl (lv_at hl 0 rfl) ?_
  refine lv_iconst (v := nI 0) hx hb dX6_init_62 rfl ?_
  refine lt_newG (N := 0) (A := A) (F := FF) hx hb hts ho hK hS12 rfl (by decide) q_372 (by decide) (by decide) dX6_init_63 (fun ma H13 hq13 hc13 hz13 hk13 hEa13 hS13 => ?_)
  have f_gr := hEa13.2.2.1 _ _ f_gr
  have f_wa := hEa13.2.2.1 _ _ f_wa
  have f_he := hEa13.2.2.2.1 _ f_he
  have f_sh := hEa13.2.2.2.2 _ f_sh
  have f_si := hEa13.2.2.1 _ _ f_si
  have hs130 : H12.size ≤ H13.size := hz13
  have hT13 := lq_kp hT12 hk13
  have hP13 := lq_kp hP12 hk13
  have hs13 : H1.size ≤ H13.size := by omega
  have f_ma : tG cI cG A 0 H13 ma := ⟨hAz _ (by omega), _, hc13, fun i y hi => absurd hi (Nat.not_lt_zero i)⟩
  refine lt_put (A := A) (F := FF) (k := 9) (v := .ref ma) hx hb hts ho hK hT13 hS13 hFa dX6_init_66 q_394 (by decide) rfl rfl rfl rfl (by show 9 < 15; decide) (fun H14 locs14 hT14 hz14 hk14 hEa14 hS14 => ?_)
  have hP14 : va_P Dx ww_cl (vg_ws ww_shp ww_nm ad tx wy_σ) H14 := lq_kw hP13 (B := fun q => q = a) (fun n hn h => hAd n hn (by rw [h]; exact hAa)) (fun z hz hne => hk14 z hne)
  have hs14 : H1.size ≤ H14.size := by omega
  have f_gr := hEa14.2.2.1 _ _ f_gr
  have f_wa := hEa14.2.2.1 _ _ f_wa
  have f_he := hEa14.2.2.2.1 _ f_he
  have f_sh := hEa14.2.2.2.2 _ f_sh
  have f_si := hEa14.2.2.1 _ _ f_si
  have f_ma := hEa14.2.2.1 _ _ f_ma
  refine lv_aload_n hx hb dX6_init_69 rfl (lv_at hl 0 rfl) ?_
  refine lv_bipush (v := nI 16) hx hb dX6_init_70 (by decide) ?_
  refine lt_newI (A := A) (F := FF) (N := 16) hx hb hts hK hS14 rfl (by decide) (by decide) (by decide) dX6_init_72 (fun da H15 hq15 hc15 hz15 hk15 hEa15 hS15 => ?_)
  have f_gr := hEa15.2.2.1 _ _ f_gr
  have f_wa := hEa15.2.2.1 _ _ f_wa
  have f_he := hEa15.2.2.2.1 _ f_he
  have f_sh := hEa15.2.2.2.2 _ f_sh
  have f_si := hEa15.2.2.1 _ _ f_si
  have f_ma := hEa15.2.2.1 _ _ f_ma
  have hs150 : H14.size ≤ H15.size := hz15
  have hT15 := lq_kp hT14 hk15
  have hP15 := lq_kp hP14 hk15
  have hs15 : H1.size ≤ H15.size := by omega
  have f_da : tR cI A 16 H15 da := ⟨hAz _ (by omega), _, hc15⟩
  have hFd : FF da := hFz da (by omega)
  refine lt_putF (A := A) (F := FF) (k := 10) (v := .ref da) hx hb hts ho hK hT15 hS15 hFa dX6_init_74 q_446 (by decide) rfl rfl hname rfl rfl (by show 10 < 15; decide) (fun H16 locs16 hT16 hz16 hk16 hEa16 hS16 => ?_)
  have hP16 : va_P Dx ww_cl (vg_ws ww_shp ww_nm ad tx wy_σ) H16 := lq_kw hP15 (B := fun q => q = a) (fun n hn h => hAd n hn (by rw [h]; exact hAa)) (fun z hz hne => hk16 z hne)
  have hs16 : H1.size ≤ H16.size := by omega
  have f_gr := hEa16.2.2.1 _ _ f_gr
  have f_wa := hEa16.2.2.1 _ _ f_wa
  have f_he := hEa16.2.2.2.1 _ f_he
  have f_sh := hEa16.2.2.2.2 _ f_sh
  have f_si := hEa16.2.2.1 _ _ f_si
  have f_ma := hEa16.2.2.1 _ _ f_ma
  have f_da := hEa16.2.1 _ _ f_da
  refine lv_aload_n hx hb dX6_init_77 rfl (lv_at hl 0 rfl) ?_
  refine lv_iconst (v := 1) hx hb dX6_init_78 rfl ?_
  refine lt_put (A := A) (F := FF) (k := 12) (v := .int 1) hx hb hts ho hK hT16 hS16 hFa dX6_init_79 q_447 (by decide) rfl rfl rfl rfl (by show 12 < 15; decide) (fun H17 locs17 hT17 hz17 hk17 hEa17 hS17 => ?_)
  have hP17 : va_P Dx ww_cl (vg_ws ww_shp ww_nm ad tx wy_σ) H17 := lq_kw hP16 (B := fun q => q = a) (fun n hn h => hAd n hn (by rw [h]; exact hAa)) (fun z hz hne => hk17 z hne)
  have hs17 : H1.size ≤ H17.size := by omega
  have f_gr := hEa17.2.2.1 _ _ f_gr
  have f_wa := hEa17.2.2.1 _ _ f_wa
  have f_he := hEa17.2.2.2.1 _ f_he
  have f_sh := hEa17.2.2.2.2 _ f_sh
  have f_si := hEa17.2.2.1 _ _ f_si
  have f_ma := hEa17.2.2.1 _ _ f_ma
  have f_da := hEa17.2.1 _ _ f_da
  refine lv_aload_n hx hb dX6_init_82 rfl (lv_at hl 0 rfl) ?_
  refine lv_iconst (v := 3) hx hb dX6_init_83 rfl ?_
  refine lt_put (A := A) (F := FF) (k := 14) (v := .int 3) hx hb hts ho hK hT17 hS17 hFa dX6_init_84 q_448 (by decide) rfl rfl rfl rfl (by show 14 < 15; decide) (fun H18 locs18 hT18 hz18 hk18 hEa18 hS18 => ?_)
  have hP18 : va_P Dx ww_cl (vg_ws ww_shp ww_nm ad tx wy_σ) H18 := lq_kw hP17 (B := fun q => q = a) (fun n hn h => hAd n hn (by rw [h]; exact hAa)) (fun z hz hne => hk18 z hne)
  have hs18 : H1.size ≤ H18.size := by omega
  have f_gr := hEa18.2.2.1 _ _ f_gr
  have f_wa := hEa18.2.2.1 _ _ f_wa
  have f_he := hEa18.2.2.2.1 _ f_he
  have f_sh := hEa18.2.2.2.2 _ f_sh
  have f_si := hEa18.2.2.1 _ _ f_si
  have f_ma := hEa18.2.2.1 _ _ f_ma
  have f_da := hEa18.2.1 _ _ f_da
  refine lv_aload_n hx hb dX6_init_87 rfl (lv_at hl 0 rfl) ?_
  refine lv_aload_n hx hb dX6_init_88 rfl (lv_at hl 1 rfl) ?_
  refine lt_putF (A := A) (F := FF) (k := 1) (v := .ref b) hx hb hts ho hK hT18 hS18 hFa dX6_init_89 q_376 (by decide) rfl rfl hname rfl rfl (by show 1 < 15; decide) (fun H19 locs19 hT19 hz19 hk19 hEa19 hS19 => ?_)
  have hP19 : va_P Dx ww_cl (vg_ws ww_shp ww_nm ad tx wy_σ) H19 := lq_kw hP18 (B := fun q => q = a) (fun n hn h => hAd n hn (by rw [h]; exact hAa)) (fun z hz hne => hk19 z hne)
  have hs19 : H1.size ≤ H19.size := by omega
  have f_gr := hEa19.2.2.1 _ _ f_gr
  have f_wa := hEa19.2.2.1 _ _ f_wa
  have f_he := hEa19.2.2.2.1 _ f_he
  have f_sh := hEa19.2.2.2.2 _ f_sh
  have f_si := hEa19.2.2.1 _ _ f_si
  have f_ma := hEa19.2.2.1 _ _ f_ma
  have f_da := hEa19.2.1 _ _ f_da
  refine lv_aload_n hx hb dX6_init_92 rfl (lv_at hl 0 rfl) ?_
  refine lv_iload_n hx hb dX6_init_93 rfl (lv_at hl 2 rfl) ?_
  refine lt_put (A := A) (F := FF) (k := 2) (v := .int (nI k)) hx hb hts ho hK hT19 hS19 hFa dX6_init_94 q_377 (by decide) rfl rfl rfl rfl (by show 2 < 15; decide) (fun H20 locs20 hT20 hz20 hk20 hEa20 hS20 => ?_)
  have hP20 : va_P Dx ww_cl (vg_ws ww_shp ww_nm ad tx wy_σ) H20 := lq_kw hP19 (B := fun q => q = a) (fun n hn h => hAd n hn (by rw [h]; exact hAa)) (fun z hz hne => hk20 z hne)
  have hs20 : H1.size ≤ H20.size := by omega
  have f_gr := hEa20.2.2.1 _ _ f_gr
  have f_wa := hEa20.2.2.1 _ _ f_wa
  have f_he := hEa20.2.2.2.1 _ f_he
  have f_sh := hEa20.2.2.2.2 _ f_sh
  have f_si := hEa20.2.2.1 _ _ f_si
  have f_ma := hEa20.2.2.1 _ _ f_ma
  have f_da := hEa20.2.1 _ _ f_da
  have hTe : va_P D tClT [(a, .inr (0, tf (ad (0, 0, 0)) b k gr wa he sh 0 si ma da))] H20 := hT20
  refine lv_iconst (v := nI 0) hx hb dX6_init_97 rfl ?_
  refine lv_istore_n (i := 3) (lv' := [(3, .int (nI 0)), (0, .ref a), (1, .ref b), (2, .int (nI k))]) hx hb dX6_init_98 rfl hl (by decide) rfl (fun ls1 hl1 => ?_)
  refine W.widen (k := 173) (n := 1750) (by decide) (by decide) ?_
  obtain ⟨QQ, hQQ⟩ : ∃ QQ : State → Prop, QQ = MQ below (fun _ st oc t => (oc = .returned none ∧ ∃ (ad : vgN → Nat) (hi : Nat), s.heap.size ≤ hi ∧ hi ≤ t.heap.size ∧ (∀ n ∈ ww_nm, s.heap.size ≤ ad n ∧ ad n < hi) ∧ va_D (fun _ => True) (vg_ws ww_shp ww_nm ad tx (fun _ _ => 0)) ∧ tW D cI cG cH (fun q => q = a ∨ hi ≤ q) Dx tx ad a b k 0 0 0 0 wy_σ t.heap) ∧ va_F (fun q => q = a ∨ s.heap.size ≤ q) st t) ([Value.ref a, Value.ref b, Value.int (nI k)] : List Value).toArray s 173 1750 (fun q => q = a ∨ s.heap.size ≤ q) := ⟨_, rfl⟩
  rw [← hQQ]
  have loop : ∀ (n j : Nat), n + j = 16 → ∀ (H2 : Heap) (locs2 : List Loc) (ls2 : Array Slot), H1.size ≤ H2.size → va_P D tClT [(a, .inr (0, tf (ad (0, 0, 0)) b k gr wa he sh 0 si ma da))] H2 → va_P Dx ww_cl (vg_ws ww_shp ww_nm ad tx wy_σ) H2 → tG cI cG A 0 H2 gr → tL cI cG cH A H2 he → tS cI cG A H2 sh → tG cI cG A 0 H2 si → tG cI cG A 0 H2 ma → tR cI A 16 H2 da → va_S FF s.heap H2 locs2 → lv_has ls2 4 [(3, .int (nI j)), (0, .ref a), (1, .ref b), (2, .int (nI k))] → W p l e (headSpec (.code yX6_init cX6_init 4 none :: ww_tb) { frames := 5, cells := 173, slots := 1750, locals := 160 }).room s mm ([Value.ref a, Value.ref b, Value.int (nI k)] : List Value).toArray below meth c H2 locs2 173 1750 QQ (F0 mm 99 ls2 []) := by
    intro n
    induction n with
    | zero =>
      intro j hj H2 locs2 ls2 hsz2 hT2 hP2 g1 g2 g3 g4 g5 g6 hS2 hl2
      have ej : j = 16 := by omega
      subst ej
      refine lv_iload_n hx hb dX6_init_99 rfl (lv_at hl2 0 rfl) ?_
      refine lv_bipush (v := 16) hx hb dX6_init_100 (by decide) ?_
      refine lv_icmp_ge (tgt := 118) hx hb dX6_init_102 (by decide) (fun _ => ?_) (fun z => absurd (by decide) z)
      subst hQQ
      subst hFF
      subst hA
      exact W.vret hx hb hr (fun t ht _ => ⟨⟨rfl, ad, H1.size, hz1, by rw [ht]; exact hsz2, had, hDx1.weaken (fun _ _ _ _ => trivial), by rw [ht]; exact ⟨⟨hAa, gr, wa, he, sh, si, ma, da, hT2, g1, g2, g3, g4, g5⟩, hP2⟩⟩, hS2.F ht⟩) hS2.2.2 dX6_init_118 hlocks
    | succ n ih =>
      intro j hj H2 locs2 ls2 hsz2 hT2 hP2 g1 g2 g3 g4 g5 g6 hS2 hl2
      have g6b := g6
      obtain ⟨-, gd, hgd⟩ := g6b
      refine lv_iload_n hx hb dX6_init_99 rfl (lv_at hl2 0 rfl) ?_
      refine lv_bipush (v := nI 16) hx hb dX6_init_100 (by decide) ?_
      refine lv_icmp_ge (tgt := 118) hx hb dX6_init_102 (by decide) (fun z => absurd z (nI_ge (by omega) (by decide))) (fun _ => ?_)
      refine lv_aload_n hx hb dX6_init_105 rfl (lv_at hl2 1 rfl) ?_
      refine lt_get (k := 10) (v := .ref da) hx hb hts ho hK hT2 dX6_init_106 q_446 (by decide) rfl rfl ?_
      refine lv_iload_n hx hb dX6_init_109 rfl (lv_at hl2 0 rfl) ?_
      refine lv_iconst (v := -1) hx hb dX6_init_110 rfl ?_
      refine lt_iast (A := A) (F := FF) hx hb hK g6 hFd hS2 (vp_in_nI (by omega) (by decide)) dX6_init_111 (fun H3 locs3 hq3 hz3 hk3 hE3 hS3 => ?_)
      obtain ⟨-, hT3⟩ := tT_keep hT2 hgd hK.ne.2.2.2.1 hk3
      have hP3 : va_P Dx ww_cl (vg_ws ww_shp ww_nm ad tx wy_σ) H3 := lq_kw hP2 (B := fun q => q = da) (fun n hn h => hAd n hn (by rw [h]; exact g6.1)) (fun z hz hne => hk3 z hne)
      refine lv_iinc (k := 0) (v := nI (j + 1)) (lv' := [(3, .int (nI (j + 1))), (0, .ref a), (1, .ref b), (2, .int (nI k))]) hx hb dX6_init_112 hl2 rfl (nI_succ j).symm (by decide) rfl (fun ls3 hl3 => ?_)
      refine lv_goto (tgt := 99) hx hb dX6_init_115 (by decide) ?_
      exact ih (j + 1) (by omega) H3 locs3 ls3 (by omega) hT3 hP3 (hE3.2.2.1 _ _ g1) (hE3.2.2.2.1 _ g2) (hE3.2.2.2.2 _ g3) (hE3.2.2.1 _ _ g4) (hE3.2.2.1 _ _ g5) hq3 hS3 hl3
  exact loop 16 0 rfl H20 locs20 ls1 hs20 hTe hP20 f_gr f_he f_sh f_si f_ma f_da hS20 hl1
