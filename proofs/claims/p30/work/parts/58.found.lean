-- words of the tables, and what stands at each place of the methods' code (laid by program)
theorem q_414 : Cond.code yX6_draw cX6_draw 3 (some .int) ∈ ww_tb := by decide +kernel
theorem q_415 : Cond.instanceMethod yX6_draw ∈ ww_tb := by decide +kernel
theorem q_416 : Cond.selects RX6 yX6_draw yX6_draw ∈ ww_tb := by decide +kernel
theorem q_417 : Cond.methodLink RX6 180 yX6_draw ∈ ww_tb := by decide +kernel
theorem q_418 : Cond.code yX6_shelter cX6_shelter 3 (some .boolean) ∈ ww_tb := by decide +kernel
theorem q_419 : Cond.methodLink RX6 186 yX6_shelter ∈ ww_tb := by decide +kernel
theorem q_420 : Cond.instanceMethod yX6_shelter ∈ ww_tb := by decide +kernel
theorem q_421 : Cond.selects RX6 yX6_shelter yX6_shelter ∈ ww_tb := by decide +kernel
theorem q_422 : Cond.code yX6_siren cX6_siren 3 (some .boolean) ∈ ww_tb := by decide +kernel
theorem q_423 : Cond.methodLink RX6 188 yX6_siren ∈ ww_tb := by decide +kernel
theorem q_424 : Cond.instanceMethod yX6_siren ∈ ww_tb := by decide +kernel
theorem q_425 : Cond.selects RX6 yX6_siren yX6_siren ∈ ww_tb := by decide +kernel
theorem q_426 : Cond.code yX6_mast cX6_mast 3 (some .boolean) ∈ ww_tb := by decide +kernel
theorem q_427 : Cond.methodLink RX6 190 yX6_mast ∈ ww_tb := by decide +kernel
theorem q_428 : Cond.instanceMethod yX6_mast ∈ ww_tb := by decide +kernel
theorem q_429 : Cond.selects RX6 yX6_mast yX6_mast ∈ ww_tb := by decide +kernel
theorem q_430 : Cond.code yX6_group cX6_group 7 (some .boolean) ∈ ww_tb := by decide +kernel
theorem q_431 : Cond.methodLink RX6 183 yX6_group ∈ ww_tb := by decide +kernel
theorem q_432 : Cond.instanceMethod yX6_group ∈ ww_tb := by decide +kernel
theorem q_433 : Cond.selects RX6 yX6_group yX6_group ∈ ww_tb := by decide +kernel
theorem dX6_found_0 : decode cX6_found 0 = .ok (.iconst 0, 1) := by decide +kernel
theorem dX6_found_1 : decode cX6_found 1 = .ok (.istore_n 2, 1) := by decide +kernel
theorem dX6_found_2 : decode cX6_found 2 = .ok (.iload_n 2, 1) := by decide +kernel
theorem dX6_found_3 : decode cX6_found 3 = .ok (.iload_n 1, 1) := by decide +kernel
theorem dX6_found_4 : decode cX6_found 4 = .ok (.if_icmp .ge 67, 3) := by decide +kernel
theorem dX6_found_7 : decode cX6_found 7 = .ok (.aload_n 0, 1) := by decide +kernel
theorem dX6_found_8 : decode cX6_found 8 = .ok (.aload_n 0, 1) := by decide +kernel
theorem dX6_found_9 : decode cX6_found 9 = .ok (.bipush 16, 2) := by decide +kernel
theorem dX6_found_11 : decode cX6_found 11 = .ok (.invokevirtual 180, 3) := by decide +kernel
theorem dX6_found_14 : decode cX6_found 14 = .ok (.iconst 1, 1) := by decide +kernel
theorem dX6_found_15 : decode cX6_found 15 = .ok (.aload_n 0, 1) := by decide +kernel
theorem dX6_found_16 : decode cX6_found 16 = .ok (.bipush 60, 2) := by decide +kernel
theorem dX6_found_18 : decode cX6_found 18 = .ok (.invokevirtual 180, 3) := by decide +kernel
theorem dX6_found_21 : decode cX6_found 21 = .ok (.iadd, 1) := by decide +kernel
theorem dX6_found_22 : decode cX6_found 22 = .ok (.aload_n 0, 1) := by decide +kernel
theorem dX6_found_23 : decode cX6_found 23 = .ok (.iconst 3, 1) := by decide +kernel
theorem dX6_found_24 : decode cX6_found 24 = .ok (.invokevirtual 180, 3) := by decide +kernel
theorem dX6_found_27 : decode cX6_found 27 = .ok (.ifCond .ne 11, 3) := by decide +kernel
theorem dX6_found_30 : decode cX6_found 30 = .ok (.aload_n 0, 1) := by decide +kernel
theorem dX6_found_31 : decode cX6_found 31 = .ok (.iconst 3, 1) := by decide +kernel
theorem dX6_found_32 : decode cX6_found 32 = .ok (.invokevirtual 180, 3) := by decide +kernel
theorem dX6_found_35 : decode cX6_found 35 = .ok (.goto 4, 3) := by decide +kernel
theorem dX6_found_38 : decode cX6_found 38 = .ok (.iconst 0, 1) := by decide +kernel
theorem dX6_found_39 : decode cX6_found 39 = .ok (.aload_n 0, 1) := by decide +kernel
theorem dX6_found_40 : decode cX6_found 40 = .ok (.iconst 5, 1) := by decide +kernel
theorem dX6_found_41 : decode cX6_found 41 = .ok (.invokevirtual 180, 3) := by decide +kernel
theorem dX6_found_44 : decode cX6_found 44 = .ok (.ifCond .ne 7, 3) := by decide +kernel
theorem dX6_found_47 : decode cX6_found 47 = .ok (.iconst 1, 1) := by decide +kernel
theorem dX6_found_48 : decode cX6_found 48 = .ok (.goto 4, 3) := by decide +kernel
theorem dX6_found_51 : decode cX6_found 51 = .ok (.iconst 0, 1) := by decide +kernel
theorem dX6_found_52 : decode cX6_found 52 = .ok (.aload_n 0, 1) := by decide +kernel
theorem dX6_found_53 : decode cX6_found 53 = .ok (.iconst 2, 1) := by decide +kernel
theorem dX6_found_54 : decode cX6_found 54 = .ok (.invokevirtual 180, 3) := by decide +kernel
theorem dX6_found_57 : decode cX6_found 57 = .ok (.invokevirtual 183, 3) := by decide +kernel
theorem dX6_found_60 : decode cX6_found 60 = .ok (.ifCond .ne 5, 3) := by decide +kernel
theorem dX6_found_63 : decode cX6_found 63 = .ok (.iconst 0, 1) := by decide +kernel
theorem dX6_found_64 : decode cX6_found 64 = .ok (.ireturn, 1) := by decide +kernel
theorem dX6_found_65 : decode cX6_found 65 = .ok (.iinc 2 1, 3) := by decide +kernel
theorem dX6_found_68 : decode cX6_found 68 = .ok (.goto (-66), 3) := by decide +kernel
theorem dX6_found_71 : decode cX6_found 71 = .ok (.iconst 0, 1) := by decide +kernel
theorem dX6_found_72 : decode cX6_found 72 = .ok (.istore_n 2, 1) := by decide +kernel
theorem dX6_found_73 : decode cX6_found 73 = .ok (.iload_n 2, 1) := by decide +kernel
theorem dX6_found_74 : decode cX6_found 74 = .ok (.iconst 2, 1) := by decide +kernel
theorem dX6_found_75 : decode cX6_found 75 = .ok (.if_icmp .ge 69, 3) := by decide +kernel
theorem dX6_found_78 : decode cX6_found 78 = .ok (.aload_n 0, 1) := by decide +kernel
theorem dX6_found_79 : decode cX6_found 79 = .ok (.aload_n 0, 1) := by decide +kernel
theorem dX6_found_80 : decode cX6_found 80 = .ok (.bipush 16, 2) := by decide +kernel
theorem dX6_found_82 : decode cX6_found 82 = .ok (.invokevirtual 180, 3) := by decide +kernel
theorem dX6_found_85 : decode cX6_found 85 = .ok (.bipush 20, 2) := by decide +kernel
theorem dX6_found_87 : decode cX6_found 87 = .ok (.aload_n 0, 1) := by decide +kernel
theorem dX6_found_88 : decode cX6_found 88 = .ok (.bipush 120, 2) := by decide +kernel
theorem dX6_found_90 : decode cX6_found 90 = .ok (.invokevirtual 180, 3) := by decide +kernel
theorem dX6_found_93 : decode cX6_found 93 = .ok (.iadd, 1) := by decide +kernel
theorem dX6_found_94 : decode cX6_found 94 = .ok (.invokevirtual 186, 3) := by decide +kernel
theorem dX6_found_97 : decode cX6_found 97 = .ok (.ifCond .eq 39, 3) := by decide +kernel
theorem dX6_found_100 : decode cX6_found 100 = .ok (.aload_n 0, 1) := by decide +kernel
theorem dX6_found_101 : decode cX6_found 101 = .ok (.aload_n 0, 1) := by decide +kernel
theorem dX6_found_102 : decode cX6_found 102 = .ok (.bipush 16, 2) := by decide +kernel
theorem dX6_found_104 : decode cX6_found 104 = .ok (.invokevirtual 180, 3) := by decide +kernel
theorem dX6_found_107 : decode cX6_found 107 = .ok (.aload_n 0, 1) := by decide +kernel
theorem dX6_found_108 : decode cX6_found 108 = .ok (.iconst 4, 1) := by decide +kernel
theorem dX6_found_109 : decode cX6_found 109 = .ok (.invokevirtual 180, 3) := by decide +kernel
theorem dX6_found_112 : decode cX6_found 112 = .ok (.invokevirtual 188, 3) := by decide +kernel
theorem dX6_found_115 : decode cX6_found 115 = .ok (.ifCond .eq 21, 3) := by decide +kernel
theorem dX6_found_118 : decode cX6_found 118 = .ok (.aload_n 0, 1) := by decide +kernel
theorem dX6_found_119 : decode cX6_found 119 = .ok (.aload_n 0, 1) := by decide +kernel
theorem dX6_found_120 : decode cX6_found 120 = .ok (.bipush 16, 2) := by decide +kernel
theorem dX6_found_122 : decode cX6_found 122 = .ok (.invokevirtual 180, 3) := by decide +kernel
theorem dX6_found_125 : decode cX6_found 125 = .ok (.aload_n 0, 1) := by decide +kernel
theorem dX6_found_126 : decode cX6_found 126 = .ok (.iconst 4, 1) := by decide +kernel
theorem dX6_found_127 : decode cX6_found 127 = .ok (.invokevirtual 180, 3) := by decide +kernel
theorem dX6_found_130 : decode cX6_found 130 = .ok (.invokevirtual 190, 3) := by decide +kernel
theorem dX6_found_133 : decode cX6_found 133 = .ok (.ifCond .ne 5, 3) := by decide +kernel
theorem dX6_found_136 : decode cX6_found 136 = .ok (.iconst 0, 1) := by decide +kernel
theorem dX6_found_137 : decode cX6_found 137 = .ok (.ireturn, 1) := by decide +kernel
theorem dX6_found_138 : decode cX6_found 138 = .ok (.iinc 2 1, 3) := by decide +kernel
theorem dX6_found_141 : decode cX6_found 141 = .ok (.goto (-68), 3) := by decide +kernel
theorem dX6_found_144 : decode cX6_found 144 = .ok (.iconst 1, 1) := by decide +kernel
theorem dX6_found_145 : decode cX6_found 145 = .ok (.ireturn, 1) := by decide +kernel
/-! .. and all that is told at first -/
section TFD
variable {p : Program} {l : Launch} {e : Env} {R : Room} {s : State} {m : MethodId} {args : Array Value} {below : List Frame} {meth : Method} {c : Code} {H : Heap} {locs : List Loc} {Q : State → Prop} {ck cn : Nat}
variable {cc : ByteArray} {pc nL : Nat} {ls : Array Slot} {rest : List Value} {F : Nat → Prop} {own : String} {D : va_G} {cI cG cH : ClassId} {A : Nat → Prop} {Dx : va_G} {tx : List (ClassId × FieldType)} {ad : vgN → Nat} {a b k gn sm sn mn : Nat} {σ : vgS}
theorem tE.ta {fs : List Value} {H1 : Heap} (hK : tK D cI cG cH s) (hT : va_P D tClT [(a, .inr (0, fs))] H) (hz : H.size ≤ H1.size) (hk : ∀ q, q < H.size → q ≠ a → H1[q]? = H[q]?) : tE cI cG cH A H H1 := by
  have na : ∀ (c1 : ClassId) (x : vp_A) (q : Nat), ¬ D.1 0 = c1 → H[q]? = some (vp_cell c1 x) → q ≠ a := by
    intro c1 x q hc h e
    obtain ⟨r, h1, cell, g1, g2, g3, -⟩ := hT 0 _ rfl
    have e2 : r = (RX6, TX6, 15) := (Option.some.inj h1).symm
    rw [e] at h
    have e4 := Option.some.inj (g1.symm.trans h)
    have e5 : cell.cls = c1 := by
      rw [e4]
      obtain ⟨n, f | f | f | f | f⟩ := x <;> rfl
    exact hc (g2.symm.trans e5)
  have ne := hK.ne
  exact tE.of hz (fun n q ⟨hA, f, h⟩ => ⟨hA, f, (hk q (tlt h) (na _ _ q ne.2.2.2.1 h)).trans h⟩) (fun n q f hA h => ⟨f, (hk q (tlt h) (na _ _ q ne.2.2.2.2.1 h)).trans h, fun _ _ => rfl, fun _ _ z => Or.inl z⟩) (fun q f hA h => (hk q (tlt h) (na _ _ q ne.2.2.2.2.2 h)).trans h)
theorem lt_drw {ix L N : Nat} {xs : Nat → Int32} (hx : p.tables.exec = Jvm.exec) (hcb : c.code = cc) (hml : c.maxLocals = nL) (hown : s.vm.findClass own = some m.cls) (hts : ∀ w ∈ ww_tb, w.before args s = true) (hU : tU D cI cG cH Dx tx ad s) (hW : tW D cI cG cH A Dx tx ad a b k gn sm sn mn σ H) (hX : va_X b L xs s s.heap) (hb0 : b < s.heap.size) (hFb : ¬ F b) (hS : va_S F s.heap H locs) (hF : ∀ q, A q → F q) (hAz : ∀ q, s.heap.size ≤ q → A q) (hAd : ∀ n ∈ ww_nm, ¬ A (ad n)) (hL : L < 1000) (hk : k < 900) (hN : 0 < N ∧ N < 2 ^ 31)
    (hd : decode cc pc = .ok (.invokevirtual ix, 3)) (hl : Cond.methodLink own ix yX6_draw ∈ ww_tb) (hR : 2 ≤ R.frames ∧ 54 ≤ R.locals) (hwd : (rest.map fun v => v.category).sum ≤ 8) (hcc : ck ≤ R.cells) (hcs : cn ≤ R.slots) (hls : ls.size = nL)
    (kk : ∀ (H1 : Heap) (locs1 : List Loc), tW D cI cG cH A Dx tx ad a b (k + 1) gn sm sn mn σ H1 → va_S F s.heap H1 locs1 → H.size ≤ H1.size → (∀ q, q < H.size → q ≠ a → H1[q]? = H[q]?) → W p l e R s m args below meth c H1 locs1 ck cn Q (F0 m (pc + 3) ls (.int (jDr xs L k (nI N)) :: rest))) : W p l e R s m args below meth c H locs ck cn Q (F0 m pc ls (.int (nI N) :: .ref a :: rest)) := by
  obtain ⟨hK, hnt, hnw, hKx, hDx⟩ := hU
  obtain ⟨⟨hAa, gr, wa, he, sh, si, ma, da, hT, hGg, hLh, hSs, hGs, hGm⟩, hP⟩ := hW
  have hg : ∀ w ∈ ww_tb, goodWord w = true := fun w h => List.all_eq_true.mp ww_good w h
  have hXH : va_X b L xs s H := hX.kept (hS.2.1 b hb0 hFb)
  have hbH : b < H.size := Nat.lt_of_lt_of_le hb0 hS.1
  refine lt_run (F := F) (Fc := fun q => q = a ∨ H.size ≤ q) (va_runV (As := [.int (nI N)]) (b := a) (rest := rest) (C := RX6) ⟨hx, hcb, hml, hown, hts⟩ (lt_draw l D cI cG cH H.size a b L k (ad (0, 0, 0)) gr wa he sh sm si ma da N xs hL hk hbH hN) ⟨callB_of 1 hts (fun w hw => by
      rcases List.mem_cons.mp hw with rfl | hw
      · exact ⟨q_414, good_of_word (hg _ q_414)⟩
      · exact ⟨hw, good_of_word (hg _ hw)⟩) rfl rfl rfl (hts _ q_386) (hts _ hl) (by decide +kernel) ⟨hR.1, hR.2⟩, hts _ q_415, hts _ q_416⟩ ⟨fun a U g mk z => ⟨z.1, z.2.1, tK.moved (u := U) (U := U.calling g mk a) (Vm.Alike.refl U.vm) z.2.2.1, fun y hy => va_Nw.same (u := U) (U := U.calling g mk a) rfl rfl (z.2.2.2.1 y hy), z.2.2.2.2.1, va_X.moved (u := U) (U := U.calling g mk a) (Vm.Alike.refl U.vm) z.2.2.2.2.2⟩, va_recv hK.1 hT (ci := 0) (q0 := 0) rfl rfl, fun U hU hW => ⟨rfl, by rw [hU], hK.moved hW.alike, fun y hy => va_Nw.warmM hW (hnt y hy), by rw [hU]; exact hT, by rw [hU]; exact va_X.moved hW.alike hXH⟩⟩ rfl rfl hls rfl (lv_room hwd) hd ⟨hcc, hcs⟩) hS (fun q h => by
      rcases h with h | h
      · rw [h]; exact hF a hAa
      · exact hF q (hAz q (Nat.le_trans hS.1 h))) (fun _ _ _ h => h.2) (fun st t v locs1 h0 hq hf hS1 => ?_)
  obtain ⟨⟨hv, hT1⟩, -⟩ := hq
  cases hv
  obtain ⟨hz1, hk1⟩ := hf
  rw [h0] at hz1 hk1
  have hk2 : ∀ q, q < H.size → q ≠ a → t.heap[q]? = H[q]? := fun q hq hne => hk1 q hq (fun y => by
    rcases y with y | y
    · exact hne y
    · omega)
  have hE : tE cI cG cH A H t.heap := tE.ta hK hT hz1 hk2
  exact kk t.heap locs1 ⟨⟨hAa, gr, wa, he, sh, si, ma, da, hT1, hE.2.2.1 _ _ hGg, hE.2.2.2.1 _ hLh, hE.2.2.2.2 _ hSs, hE.2.2.1 _ _ hGs, hE.2.2.1 _ _ hGm⟩, lq_kw hP (B := fun q => q = a) (fun n hn h => hAd n hn (by rw [h]; exact hAa)) hk2⟩ hS1 hz1 hk2
/-- a call of a Told's method that answers true -/
theorem lt_tld {ix kn d mc ms mL gn' sm' sn' mn' : Nat} {y : MethodName} {bytes : ByteArray} {σ' : vgS} {As : List Value} (hx : p.tables.exec = Jvm.exec) (hcb : c.code = cc) (hml : c.maxLocals = nL) (hown : s.vm.findClass own = some m.cls) (hts : ∀ w ∈ ww_tb, w.before args s = true) (hU : tU D cI cG cH Dx tx ad s) (hW : tW D cI cG cH A Dx tx ad a b k gn sm sn mn σ H) (hS : va_S F s.heap H locs) (hF : ∀ q, tF A ad H.size q → F q)
    (hM : Met l y (.code y bytes mL (some .boolean) :: ww_tb) { frames := d, cells := mc, slots := ms, locals := 32 * d } (va_Pc (.ref a :: As) (fun U => U.heap.size = H.size ∧ tU D cI cG cH Dx tx ad U ∧ tW D cI cG cH A Dx tx ad a b k gn sm sn mn σ U.heap)) (fun _ st oc t => (oc = .returned (some (.int 1)) ∧ tW D cI cG cH A Dx tx ad a b k gn' sm' sn' mn' σ' t.heap) ∧ va_F (tF A ad H.size) st t) mc ms (tF A ad H.size))
    (hd : decode cc pc = .ok (.invokevirtual ix, 3)) (hcw : Cond.code y bytes mL (some .boolean) ∈ ww_tb) (hl : Cond.methodLink own ix y ∈ ww_tb) (hi : Cond.instanceMethod y ∈ ww_tb) (hse : Cond.selects RX6 y y ∈ ww_tb)
    (hy : y.cls = RX6 ∧ y.cls ≠ "java/lang/invoke/MethodHandle" ∧ y.cls ≠ "java/lang/invoke/VarHandle" ∧ (parseMethodDescriptor y.desc).map (fun d => d.parameters.length) = some kn) (hlen : As.length = kn) (hR : d + 1 ≤ R.frames ∧ 8 + (mL + 11) + 32 * d ≤ R.locals) (hwd : (rest.map fun v => v.category).sum ≤ 8) (hcc : ck + mc ≤ R.cells) (hcs : cn + ms ≤ R.slots) (hls : ls.size = nL)
    (kk : ∀ (H1 : Heap) (locs1 : List Loc), tW D cI cG cH A Dx tx ad a b k gn' sm' sn' mn' σ' H1 → va_S F s.heap H1 locs1 → H.size ≤ H1.size → (∀ q, q < H.size → ¬ tF A ad H.size q → H1[q]? = H[q]?) → W p l e R s m args below meth c H1 locs1 (ck + mc) (cn + ms) Q (F0 m (pc + 3) ls (.int 1 :: rest))) : W p l e R s m args below meth c H locs ck cn Q (F0 m pc ls (As.reverse ++ .ref a :: rest)) := by
  have hg : ∀ w ∈ ww_tb, goodWord w = true := fun w h => List.all_eq_true.mp ww_good w h
  have hW2 := hW
  obtain ⟨⟨hAa, gr, wa, he, sh, si, ma, da, hT, -⟩, -⟩ := hW2
  refine lt_run (F := F) (Fc := tF A ad H.size) (va_runV (As := As) (b := a) (rest := rest) (C := RX6) ⟨hx, hcb, hml, hown, hts⟩ hM ⟨callB_of kn hts (fun w hw => by
      rcases List.mem_cons.mp hw with rfl | hw
      · exact ⟨hcw, good_of_word (hg _ hcw)⟩
      · exact ⟨hw, good_of_word (hg _ hw)⟩) rfl rfl rfl (hts _ (by rw [hy.1]; exact q_386)) (hts _ hl) hy.2 hR, hts _ hi, hts _ hse⟩ ⟨fun a U g mk z => ⟨z.1, z.2.1, tU.blind z.2.2.1, z.2.2.2⟩, va_recv hU.1.1 hT (ci := 0) (q0 := 0) rfl rfl, fun U hU2 hW2 => ⟨rfl, by rw [hU2], hU.moved hW2, by rw [hU2]; exact hW⟩⟩ rfl hlen hls rfl (lv_room hwd) hd ⟨hcc, hcs⟩) hS hF (fun _ _ _ h => h.2) (fun st t v locs1 h0 hq hf hS1 => ?_)
  obtain ⟨⟨hv, hW1⟩, -⟩ := hq
  cases hv
  obtain ⟨hz1, hk1⟩ := hf
  rw [h0] at hz1 hk1
  exact kk t.heap locs1 hW1 hS1 hz1 hk1
end TFD
theorem lt_found (l : Launch) (D : va_G) (cI cG cH : ClassId) (A : Nat → Prop) (Dx : va_G) (tx : List (ClassId × FieldType)) (ad : vgN → Nat) (sz a b L k : Nat) (xs : Nat → Int32) (σ : vgS) (hA : ∀ q, sz ≤ q → A q) (htx : tx.map (fun q => q.2) = ww_tyl) (hAd : ∀ n ∈ ww_nm, ¬ A (ad n)) (hL : L < 1000) (hk : k < 500) (hb0 : b < sz) (hAb : ¬ A b) (hbd : ∀ n ∈ ww_nm, ad n ≠ b) (hw : jWf (jV σ 0)) (hc : jGc (jV σ 0) = 0 ∧ jSc (jV σ 0) = 0 ∧ jNc (jV σ 0) 0 = 0 ∧ jNc (jV σ 0) 1 = 0) :
    Met l yX6_found (.code yX6_found cX6_found 3 (some .boolean) :: ww_tb) { frames := 4, cells := 78, slots := 433, locals := 32 * 4 } (va_Pc [.ref a, .int 5] (fun U => U.heap.size = sz ∧ tU D cI cG cH Dx tx ad U ∧ tW D cI cG cH A Dx tx ad a b k 0 0 0 0 σ U.heap ∧ va_X b L xs U U.heap))
      (fun _ st oc t => (oc = .returned (some (.int 1)) ∧ tW D cI cG cH A Dx tx ad a b (jFound xs L (jV σ 0, k)).2 5 2 2 2 (jPut σ 0 (jFound xs L (jV σ 0, k)).1) t.heap) ∧ va_F (tF A ad sz) st t) 78 433 (tF A ad sz) := by
  refine Met.ofW (cc := cX6_found) (maxL := 3) (ret := some .boolean) (by decide +kernel) rfl ?_
  intro p e s mm args below meth c s₁ B hml hv
  obtain ⟨rfl, hsz, hU, hWW, hX⟩ := hv
  have hx := B.exec
  have hb := B.bytes
  have hr := B.returns
  have hlocks := B.notSynchronized
  have hts : ∀ w ∈ ww_tb, w.before ([Value.ref a, Value.int 5] : List Value).toArray s = true := fun w h => atoms_spec (ws := .code yX6_found cX6_found 3 (some .boolean) :: ww_tb) B.pre w (List.mem_cons_of_mem _ h)
  have ho : s.vm.findClass RX6 = some mm.cls := findClass_of_methodNamed B.named
  subst hsz
  have hl := lv_entry ([Value.ref a, Value.int 5] : List Value) (n := 3) (show (2 : Nat) ≤ 3 by decide)
  rw [lg_entry_eq]
  obtain ⟨FF, hFF⟩ : ∃ FF : Nat → Prop, FF = tF A ad s.heap.size := ⟨_, rfl⟩
  have hS0 : va_S FF s.heap s.heap [] := va_S.rf
  have hFA : ∀ q, A q → FF q := fun q h => by rw [hFF]; exact Or.inl h
  have hFz : ∀ q, s.heap.size ≤ q → FF q := fun q h => hFA q (hA q h)
  have hFt : ∀ (H : Heap), s.heap.size ≤ H.size → ∀ q, tF A ad H.size q → FF q := fun H hz q h => by
    rcases h with h | h | h
    · exact hFA q h
    · rw [hFF]; exact Or.inr (Or.inl h)
    · exact hFz q (Nat.le_trans hz h)
  have hFb : ¬ FF b := by
    rw [hFF]
    rintro (h | ⟨n, hn, h⟩ | h)
    · exact hAb h
    · exact hbd n hn h
    · omega
  have hAH : ∀ (H : Heap), s.heap.size ≤ H.size → ∀ q, H.size ≤ q → A q := fun H hz q h => hA q (Nat.le_trans hz h)
  obtain ⟨QQ, hQQ⟩ : ∃ QQ : State → Prop, QQ = MQ below (fun _ st oc t => (oc = .returned (some (.int 1)) ∧ tW D cI cG cH A Dx tx ad a b (jFound xs L (jV σ 0, k)).2 5 2 2 2 (jPut σ 0 (jFound xs L (jV σ 0, k)).1) t.heap) ∧ va_F (tF A ad s.heap.size) st t) ([Value.ref a, Value.int 5] : List Value).toArray s 78 433 (tF A ad s.heap.size) := ⟨_, rfl⟩
  have wd : Cond.methodLink RX6 180 yX6_draw ∈ ww_tb := q_417
  rw [← hQQ]
  -- the second loop
  have loop2 : ∀ (n j : Nat), n + j = 2 → ∀ (H : Heap) (locs : List Loc) (ls : Array Slot) (q : jN × Nat), q = jIt (fun _ => jFS xs L) j (jIt (fun _ => jFG xs L) 5 (jV σ 0, k)) → jWf q.1 → jSc q.1 = j → jNc q.1 0 = j → jNc q.1 1 = j → q.2 ≤ k + 35 + 6 * j → tW D cI cG cH A Dx tx ad a b q.2 5 j j j (jPut σ 0 q.1) H → va_S FF s.heap H locs → lv_has ls 3 [(2, .int (nI j)), (0, .ref a), (1, .int 5)] →
      W p l e (headSpec (.code yX6_found cX6_found 3 (some .boolean) :: ww_tb) { frames := 4, cells := 78, slots := 433, locals := 32 * 4 }).room s mm ([Value.ref a, Value.int 5] : List Value).toArray below meth c H locs (70 + 4 * j) (385 + 24 * j) QQ (F0 mm 73 ls []) := by
    intro n
    induction n with
    | zero =>
      intro j hj H locs ls q hq hwq h1 h2 h3 hkq hW hS hl2
      have ej : j = 2 := by omega
      subst ej
      refine lv_iload_n hx hb dX6_found_73 rfl (lv_at hl2 0 rfl) ?_
      refine lv_iconst (v := 2) hx hb dX6_found_74 rfl ?_
      refine lv_icmp_ge (tgt := 144) hx hb dX6_found_75 (by decide) (fun _ => ?_) (fun z => absurd (by decide) z)
      refine lv_iconst (v := 1) hx hb dX6_found_144 rfl ?_
      subst hQQ
      subst hFF
      exact W.zret hx hb hr rfl (fun t2 ht2 _ => ⟨⟨rfl, by rw [ht2]; rw [hq] at hW; exact hW⟩, hS.F ht2⟩) hS.2.2 dX6_found_145 hlocks
    | succ n ih =>
      intro j hj H locs ls q hq hwq h1 h2 h3 hkq hW hS hl2
      refine lv_iload_n hx hb dX6_found_73 rfl (lv_at hl2 0 rfl) ?_
      refine lv_iconst (v := nI 2) hx hb dX6_found_74 rfl ?_
      refine lv_icmp_ge (tgt := 144) hx hb dX6_found_75 (by decide) (fun z => absurd z (nI_ge (by omega) (by decide))) (fun _ => ?_)
      refine lv_aload_n hx hb dX6_found_78 rfl (lv_at hl2 1 rfl) ?_
      refine lv_aload_n hx hb dX6_found_79 rfl (lv_at hl2 1 rfl) ?_
      refine lv_bipush (v := nI 16) hx hb dX6_found_80 (by decide) ?_
      refine lt_drw (rest := [.ref a]) (N := 16) hx hb hml ho hts hU hW hX hb0 hFb hS hFA hA hAd hL (by omega) (by decide) dX6_found_82 wd (by decide) (show (1 + 0 : Nat) ≤ 8 by decide) (by show 70 + 4 * j ≤ 78; omega) (by show 385 + 24 * j ≤ 433; omega) hl2.1 (fun Hd1 locsd1 hWd1 hSd1 hzd1 hkd1 => ?_)
      refine lv_bipush (v := 20) hx hb dX6_found_85 (by decide) ?_
      refine lv_aload_n hx hb dX6_found_87 rfl (lv_at hl2 1 rfl) ?_
      refine lv_bipush (v := nI 120) hx hb dX6_found_88 (by decide) ?_
      refine lt_drw (rest := [.int 20, .int (jDr xs L q.2 (nI 16)), .ref a]) (N := 120) hx hb hml ho hts hU hWd1 hX hb0 hFb hSd1 hFA hA hAd hL (by omega) (by decide) dX6_found_90 wd (by decide) (show (1 + (1 + (1 + 0)) : Nat) ≤ 8 by decide) (by show 70 + 4 * j ≤ 78; omega) (by show 385 + 24 * j ≤ 433; omega) hl2.1 (fun Hd2 locsd2 hWd2 hSd2 hzd2 hkd2 => ?_)
      refine lv_iadd hx hb dX6_found_93 ?_
      obtain ⟨j20, hj1, hj2, ej20⟩ := jDr_add xs L (q.2 + 1) (N := 120) (a := 20) (by decide) (by decide) (by decide)
      have ej20b : (20 : Int32) + jDr xs L (q.2 + 1) (nI 120) = nI j20 := ej20
      have hz2 : s.heap.size ≤ Hd2.size := hSd2.1
      have hsh := jShel_c (c := jDr xs L q.2 (nI 16)) (r := 20 + jDr xs L (q.2 + 1) (nI 120)) hwq (show jSc q.1 < 3 by omega)
      have eV : jV (jPut σ 0 q.1) 0 = q.1 := jV_put
      have hMs := lt_shelter l D cI cG cH A Dx tx ad Hd2.size a b (q.2 + 1 + 1) 5 j j j (jPut σ 0 q.1) (jDr xs L q.2 (nI 16)) (20 + jDr xs L (q.2 + 1) (nI 120)) (hAH _ hz2) htx hAd (jDr_vp xs L q.2 (by decide) (by decide)) ⟨by rw [ej20b]; exact fun z => absurd (nI_le (a := 1) (b := j20) (by omega) (by omega)) (Int32.not_le.mpr z), by rw [ej20b]; exact nI_le (a := j20) (b := 200) (by omega) (by decide)⟩ (by rw [eV]; exact hwq) (by rw [eV]; omega) (by rw [eV, h1])
      rw [eV, jPut_put] at hMs
      refine lt_tld (rest := []) (As := [.int (jDr xs L q.2 (nI 16)), .int (20 + jDr xs L (q.2 + 1) (nI 120))]) hx hb hml ho hts hU hWd2 hSd2 (hFt _ hz2) hMs dX6_found_94 q_418 q_419 q_420 q_421 (kn := 2) (by decide +kernel) rfl (by decide) (by decide) (by show 70 + 4 * j + 0 ≤ 78; omega) (by show 385 + 24 * j + 0 ≤ 433; omega) hl2.1 (fun Hs1 locss1 hWs1 hSs1 hzs1 hks1 => ?_)
      refine lv_if_eq (tgt := 136) hx hb dX6_found_97 (by decide) (fun z => absurd z (by decide)) (fun _ => ?_)
      generalize hq1 : jShel q.1 (jDr xs L q.2 (nI 16)) (20 + jDr xs L (q.2 + 1) (nI 120)) = q1 at hWs1 hsh
      refine lv_aload_n hx hb dX6_found_100 rfl (lv_at hl2 1 rfl) ?_
      refine lv_aload_n hx hb dX6_found_101 rfl (lv_at hl2 1 rfl) ?_
      refine lv_bipush (v := nI 16) hx hb dX6_found_102 (by decide) ?_
      refine lt_drw (rest := [.ref a]) (N := 16) hx hb hml ho hts hU hWs1 hX hb0 hFb hSs1 hFA hA hAd hL (by omega) (by decide) dX6_found_104 wd (by decide) (show (1 + 0 : Nat) ≤ 8 by decide) (by show 70 + 4 * j ≤ 78; omega) (by show 385 + 24 * j ≤ 433; omega) hl2.1 (fun Hd3 locsd3 hWd3 hSd3 hzd3 hkd3 => ?_)
      refine lv_aload_n hx hb dX6_found_107 rfl (lv_at hl2 1 rfl) ?_
      refine lv_iconst (v := nI 4) hx hb dX6_found_108 rfl ?_
      refine lt_drw (rest := [.int (jDr xs L (q.2 + 1 + 1) (nI 16)), .ref a]) (N := 4) hx hb hml ho hts hU hWd3 hX hb0 hFb hSd3 hFA hA hAd hL (by omega) (by decide) dX6_found_109 wd (by decide) (show (1 + (1 + 0) : Nat) ≤ 8 by decide) (by show 70 + 4 * j ≤ 78; omega) (by show 385 + 24 * j ≤ 433; omega) hl2.1 (fun Hd4 locsd4 hWd4 hSd4 hzd4 hkd4 => ?_)
      have hz3 : s.heap.size ≤ Hd4.size := hSd4.1
      have eV1 : jV (jPut σ 0 q1) 0 = q1 := jV_put
      have hsi := jAddS_c (j := 0) (c := jDr xs L (q.2 + 1 + 1) (nI 16)) (r := jDr xs L (q.2 + 1 + 1 + 1) (nI 4)) (Or.inl rfl) hsh.1 (by rw [hsh.2.2.2.2 0]; omega)
      have hMi := lt_siren l D cI cG cH A Dx tx ad Hd4.size a b (q.2 + 1 + 1 + 1 + 1) 5 (j + 1) j j (jPut σ 0 q1) (jDr xs L (q.2 + 1 + 1) (nI 16)) (jDr xs L (q.2 + 1 + 1 + 1) (nI 4)) (hAH _ hz3) htx hAd (jDr_vp xs L (q.2 + 1 + 1) (by decide) (by decide)) (jDr_3 xs L _) (by rw [eV1]; exact hsh.1) (by rw [eV1, hsh.2.2.2.2 0]; omega) (by rw [eV1, hsh.2.2.2.2 0, h2])
      rw [eV1, jPut_put] at hMi
      refine lt_tld (rest := []) (As := [.int (jDr xs L (q.2 + 1 + 1) (nI 16)), .int (jDr xs L (q.2 + 1 + 1 + 1) (nI 4))]) hx hb hml ho hts hU hWd4 hSd4 (hFt _ hz3) hMi dX6_found_112 q_422 q_423 q_424 q_425 (kn := 2) (by decide +kernel) rfl (by decide) (by decide) (by show 70 + 4 * j + 0 + 2 ≤ 78; omega) (by show 385 + 24 * j + 0 + 12 ≤ 433; omega) hl2.1 (fun Hs2 locss2 hWs2 hSs2 hzs2 hks2 => ?_)
      refine lv_if_eq (tgt := 136) hx hb dX6_found_115 (by decide) (fun z => absurd z (by decide)) (fun _ => ?_)
      generalize hq2 : jAddS q1 0 (jDr xs L (q.2 + 1 + 1) (nI 16)) (jDr xs L (q.2 + 1 + 1 + 1) (nI 4)) = q2 at hWs2 hsi
      refine lv_aload_n hx hb dX6_found_118 rfl (lv_at hl2 1 rfl) ?_
      refine lv_aload_n hx hb dX6_found_119 rfl (lv_at hl2 1 rfl) ?_
      refine lv_bipush (v := nI 16) hx hb dX6_found_120 (by decide) ?_
      refine lt_drw (rest := [.ref a]) (N := 16) hx hb hml ho hts hU hWs2 hX hb0 hFb hSs2 hFA hA hAd hL (by omega) (by decide) dX6_found_122 wd (by decide) (show (1 + 0 : Nat) ≤ 8 by decide) (by show 70 + 4 * j + 0 + 2 ≤ 78; omega) (by show 385 + 24 * j + 0 + 12 ≤ 433; omega) hl2.1 (fun Hd5 locsd5 hWd5 hSd5 hzd5 hkd5 => ?_)
      refine lv_aload_n hx hb dX6_found_125 rfl (lv_at hl2 1 rfl) ?_
      refine lv_iconst (v := nI 4) hx hb dX6_found_126 rfl ?_
      refine lt_drw (rest := [.int (jDr xs L (q.2 + 1 + 1 + 1 + 1) (nI 16)), .ref a]) (N := 4) hx hb hml ho hts hU hWd5 hX hb0 hFb hSd5 hFA hA hAd hL (by omega) (by decide) dX6_found_127 wd (by decide) (show (1 + (1 + 0) : Nat) ≤ 8 by decide) (by show 70 + 4 * j + 0 + 2 ≤ 78; omega) (by show 385 + 24 * j + 0 + 12 ≤ 433; omega) hl2.1 (fun Hd6 locsd6 hWd6 hSd6 hzd6 hkd6 => ?_)
      have hz4 : s.heap.size ≤ Hd6.size := hSd6.1
      have eV2 : jV (jPut σ 0 q2) 0 = q2 := jV_put
      have n1 : jNc q2 1 = j := by rw [hsi.2.2.2.2.2 1 (by decide), hsh.2.2.2.2 1, h3]
      have hma := jAddS_c (j := 1) (c := jDr xs L (q.2 + 1 + 1 + 1 + 1) (nI 16)) (r := jDr xs L (q.2 + 1 + 1 + 1 + 1 + 1) (nI 4)) (Or.inr rfl) hsi.1 (by rw [n1]; omega)
      have hMm := lt_mast l D cI cG cH A Dx tx ad Hd6.size a b (q.2 + 1 + 1 + 1 + 1 + 1 + 1) 5 (j + 1) (j + 1) j (jPut σ 0 q2) (jDr xs L (q.2 + 1 + 1 + 1 + 1) (nI 16)) (jDr xs L (q.2 + 1 + 1 + 1 + 1 + 1) (nI 4)) (hAH _ hz4) htx hAd (jDr_vp xs L (q.2 + 1 + 1 + 1 + 1) (by decide) (by decide)) (jDr_3 xs L _) (by rw [eV2]; exact hsi.1) (by rw [eV2, n1]; omega) (by rw [eV2, n1])
      rw [eV2, jPut_put] at hMm
      refine lt_tld (rest := []) (As := [.int (jDr xs L (q.2 + 1 + 1 + 1 + 1) (nI 16)), .int (jDr xs L (q.2 + 1 + 1 + 1 + 1 + 1) (nI 4))]) hx hb hml ho hts hU hWd6 hSd6 (hFt _ hz4) hMm dX6_found_130 q_426 q_427 q_428 q_429 (kn := 2) (by decide +kernel) rfl (by decide) (by decide) (by show 70 + 4 * j + 0 + 2 + 2 ≤ 78; omega) (by show 385 + 24 * j + 0 + 12 + 12 ≤ 433; omega) hl2.1 (fun Hs3 locss3 hWs3 hSs3 hzs3 hks3 => ?_)
      refine lv_if_ne (tgt := 138) hx hb dX6_found_133 (by decide) (fun _ => ?_) (fun z => absurd z (by decide))
      refine lv_iinc (k := 0) (v := nI (j + 1)) (lv' := [(2, .int (nI (j + 1))), (0, .ref a), (1, .int 5)]) hx hb dX6_found_138 hl2 rfl (nI_succ j).symm (by decide) rfl (fun ls3 hl3 => ?_)
      refine lv_goto (tgt := 73) hx hb dX6_found_141 (by decide) ?_
      have eF : jFS xs L q = (jAddS q2 1 (jDr xs L (q.2 + 1 + 1 + 1 + 1) (nI 16)) (jDr xs L (q.2 + 1 + 1 + 1 + 1 + 1) (nI 4)), q.2 + 1 + 1 + 1 + 1 + 1 + 1) := by rw [← hq2, ← hq1]; rfl
      exact ih (j + 1) (by omega) Hs3 locss3 ls3 (jAddS q2 1 (jDr xs L (q.2 + 1 + 1 + 1 + 1) (nI 16)) (jDr xs L (q.2 + 1 + 1 + 1 + 1 + 1) (nI 4)), q.2 + 1 + 1 + 1 + 1 + 1 + 1) (by rw [← eF, hq]; rfl) hma.1 (by rw [hma.2.2.1, hsi.2.2.1, hsh.2.2.1, h1]) (by rw [hma.2.2.2.2.2 0 (by decide), hsi.2.2.2.2.1, hsh.2.2.2.2 0, h2]) (by rw [hma.2.2.2.2.1, n1]) (by show q.2 + 1 + 1 + 1 + 1 + 1 + 1 ≤ _; omega) hWs3 hSs3 hl3
  -- the first loop
  have loop1 : ∀ (n j : Nat), n + j = 5 → ∀ (H : Heap) (locs : List Loc) (ls : Array Slot) (q : jN × Nat), q = jIt (fun _ => jFG xs L) j (jV σ 0, k) → jWf q.1 → jGc q.1 = j → jSc q.1 = 0 → jNc q.1 0 = 0 → jNc q.1 1 = 0 → q.2 ≤ k + 7 * j → tW D cI cG cH A Dx tx ad a b q.2 j 0 0 0 (jPut σ 0 q.1) H → va_S FF s.heap H locs → lv_has ls 3 [(2, .int (nI j)), (0, .ref a), (1, .int 5)] →
      W p l e (headSpec (.code yX6_found cX6_found 3 (some .boolean) :: ww_tb) { frames := 4, cells := 78, slots := 433, locals := 32 * 4 }).room s mm ([Value.ref a, Value.int 5] : List Value).toArray below meth c H locs (14 * j) (77 * j) QQ (F0 mm 2 ls []) := by
    intro n
    induction n with
    | zero =>
      intro j hj H locs ls q hq hwq h0 h1 h2 h3 hkq hW hS hl2
      have ej : j = 5 := by omega
      subst ej
      refine lv_iload_n hx hb dX6_found_2 rfl (lv_at hl2 0 rfl) ?_
      refine lv_iload_n hx hb dX6_found_3 rfl (lv_at hl2 2 rfl) ?_
      refine lv_icmp_ge (tgt := 71) hx hb dX6_found_4 (by decide) (fun _ => ?_) (fun z => absurd (by decide) z)
      refine lv_iconst (v := 0) hx hb dX6_found_71 rfl ?_
      refine lv_istore_n (i := 2) (lv' := [(2, .int (nI 0)), (0, .ref a), (1, .int 5)]) hx hb dX6_found_72 rfl hl2 (by decide) rfl (fun ls3 hl3 => ?_)
      exact loop2 2 0 rfl H locs ls3 q hq hwq h1 h2 h3 (by omega) hW hS hl3
    | succ n ih =>
      intro j hj H locs ls q hq hwq h0 h1 h2 h3 hkq hW hS hl2
      refine lv_iload_n hx hb dX6_found_2 rfl (lv_at hl2 0 rfl) ?_
      refine lv_iload_n hx hb dX6_found_3 rfl (lv_at hl2 2 rfl) ?_
      refine lv_icmp_ge (tgt := 71) hx hb dX6_found_4 (by decide) (fun z => absurd z (show ¬ nI 5 ≤ nI j from nI_ge (by omega) (by decide))) (fun _ => ?_)
      refine lv_aload_n hx hb dX6_found_7 rfl (lv_at hl2 1 rfl) ?_
      refine lv_aload_n hx hb dX6_found_8 rfl (lv_at hl2 1 rfl) ?_
      refine lv_bipush (v := nI 16) hx hb dX6_found_9 (by decide) ?_
      refine lt_drw (rest := [.ref a]) (N := 16) hx hb hml ho hts hU hW hX hb0 hFb hS hFA hA hAd hL (by omega) (by decide) dX6_found_11 wd (by decide) (show (1 + 0 : Nat) ≤ 8 by decide) (by show 14 * j ≤ 78; omega) (by show 77 * j ≤ 433; omega) hl2.1 (fun Hd21 locsd21 hWd21 hSd21 hzd21 hkd21 => ?_)
      refine lv_iconst (v := 1) hx hb dX6_found_14 rfl ?_
      refine lv_aload_n hx hb dX6_found_15 rfl (lv_at hl2 1 rfl) ?_
      refine lv_bipush (v := nI 60) hx hb dX6_found_16 (by decide) ?_
      refine lt_drw (rest := [.int 1, .int (jDr xs L q.2 (nI 16)), .ref a]) (N := 60) hx hb hml ho hts hU hWd21 hX hb0 hFb hSd21 hFA hA hAd hL (by omega) (by decide) dX6_found_18 wd (by decide) (show (1 + (1 + (1 + 0)) : Nat) ≤ 8 by decide) (by show 14 * j ≤ 78; omega) (by show 77 * j ≤ 433; omega) hl2.1 (fun Hd22 locsd22 hWd22 hSd22 hzd22 hkd22 => ?_)
      refine lv_iadd hx hb dX6_found_21 ?_
      refine lv_aload_n hx hb dX6_found_22 rfl (lv_at hl2 1 rfl) ?_
      refine lv_iconst (v := nI 3) hx hb dX6_found_23 rfl ?_
      refine lt_drw (rest := [.int (1 + jDr xs L (q.2 + 1) (nI 60)), .int (jDr xs L q.2 (nI 16)), .ref a]) (N := 3) hx hb hml ho hts hU hWd22 hX hb0 hFb hSd22 hFA hA hAd hL (by omega) (by decide) dX6_found_24 wd (by decide) (show (1 + (1 + (1 + 0)) : Nat) ≤ 8 by decide) (by show 14 * j ≤ 78; omega) (by show 77 * j ≤ 433; omega) hl2.1 (fun Hd23 locsd23 hWd23 hSd23 hzd23 hkd23 => ?_)
      have hT2 := jFT_le xs L (q.2 + 2)
      have eV : jV (jPut σ 0 q.1) 0 = q.1 := jV_put
      have hG := jFG_c xs L hwq (show jGc q.1 < 8 by omega)
      obtain ⟨j1, hj1, hj2, ej1⟩ := jDr_add xs L (q.2 + 1) (N := 60) (a := 1) (by decide) (by decide) (by decide)
      have ej1b : (1 : Int32) + jDr xs L (q.2 + 1) (nI 60) = nI j1 := ej1
      have fin : ∀ (de : Int32) (k2 : Nat) (H3 : Heap) (locs3 : List Loc), de = jFD xs L (jFT xs L (q.2 + 2)).2 → k2 = (jFT xs L (q.2 + 2)).2 + 1 → tW D cI cG cH A Dx tx ad a b k2 j 0 0 0 (jPut σ 0 q.1) H3 → va_S FF s.heap H3 locs3 → W p l e (headSpec (.code yX6_found cX6_found 3 (some .boolean) :: ww_tb) { frames := 4, cells := 78, slots := 433, locals := 32 * 4 }).room s mm ([Value.ref a, Value.int 5] : List Value).toArray below meth c H3 locs3 (14 * j) (77 * j) QQ (F0 mm 52 ls [.int de, .int (jFT xs L (q.2 + 2)).1, .int (1 + jDr xs L (q.2 + 1) (nI 60)), .int (jDr xs L q.2 (nI 16)), .ref a]) := by
        intro de k2 H3 locs3 hde hk2 hW3 hS3
        subst hk2
        subst hde
        refine lv_aload_n hx hb dX6_found_52 rfl (lv_at hl2 1 rfl) ?_
        refine lv_iconst (v := nI 2) hx hb dX6_found_53 rfl ?_
        refine lt_drw (rest := [.int (jFD xs L (jFT xs L (q.2 + 2)).2), .int (jFT xs L (q.2 + 2)).1, .int (1 + jDr xs L (q.2 + 1) (nI 60)), .int (jDr xs L q.2 (nI 16)), .ref a]) (N := 2) hx hb hml ho hts hU hW3 hX hb0 hFb hS3 hFA hA hAd hL (by omega) (by decide) dX6_found_54 wd (by decide) (show (1 + (1 + (1 + (1 + (1 + 0)))) : Nat) ≤ 8 by decide) (by show 14 * j ≤ 78; omega) (by show 77 * j ≤ 433; omega) hl2.1 (fun Hd24 locsd24 hWd24 hSd24 hzd24 hkd24 => ?_)
        have hz2 : s.heap.size ≤ Hd24.size := hSd24.1
        have hMg := lt_group l D cI cG cH A Dx tx ad Hd24.size a b ((jFT xs L (q.2 + 2)).2 + 1 + 1) j 0 0 0 (jPut σ 0 q.1) (jDr xs L q.2 (nI 16)) (1 + jDr xs L (q.2 + 1) (nI 60)) (jFT xs L (q.2 + 2)).1 (jFD xs L (jFT xs L (q.2 + 2)).2) (jDr xs L ((jFT xs L (q.2 + 2)).2 + 1) (nI 2)) (hAH _ hz2) htx hAd (jDr_vp xs L q.2 (by decide) (by decide)) ⟨by rw [ej1b]; exact fun z => absurd (nI_le (a := 1) (b := j1) (by omega) (by omega)) (Int32.not_le.mpr z), by rw [ej1b]; exact nI_le (a := j1) (b := 99) (by omega) (by decide)⟩ (jFT_in xs L _) (jFD_01 xs L _) (jDr_01 xs L _) (by rw [eV]; exact hwq) (by rw [eV]; omega) (by rw [eV, h0])
        rw [eV, jPut_put] at hMg
        refine lt_tld (rest := []) (As := [.int (jDr xs L q.2 (nI 16)), .int (1 + jDr xs L (q.2 + 1) (nI 60)), .int (jFT xs L (q.2 + 2)).1, .int (jFD xs L (jFT xs L (q.2 + 2)).2), .int (jDr xs L ((jFT xs L (q.2 + 2)).2 + 1) (nI 2))]) hx hb hml ho hts hU hWd24 hSd24 (hFt _ hz2) hMg dX6_found_57 q_430 q_431 q_432 q_433 (kn := 5) (by decide +kernel) rfl (by decide) (by decide) (by show 14 * j + 14 ≤ 78; omega) (by show 77 * j + 77 ≤ 433; omega) hl2.1 (fun Hs1 locss1 hWs1 hSs1 hzs1 hks1 => ?_)
        refine lv_if_ne (tgt := 65) hx hb dX6_found_60 (by decide) (fun _ => ?_) (fun z => absurd z (by decide))
        refine lv_iinc (k := 0) (v := nI (j + 1)) (lv' := [(2, .int (nI (j + 1))), (0, .ref a), (1, .int 5)]) hx hb dX6_found_65 hl2 rfl (nI_succ j).symm (by decide) rfl (fun ls3 hl3 => ?_)
        refine lv_goto (tgt := 2) hx hb dX6_found_68 (by decide) ?_
        exact ih (j + 1) (by omega) Hs1 locss1 ls3 (jFG xs L q) (by rw [hq]; rfl) hG.1.1 (by rw [hG.1.2.1, h0]) (by rw [hG.1.2.2.1, h1]) (by rw [hG.1.2.2.2.2 0, h2]) (by rw [hG.1.2.2.2.2 1, h3]) (by omega) hWs1 hSs1 hl3
      have k39 : ∀ (to : Int32) (k2 : Nat) (H3 : Heap) (locs3 : List Loc), (to, k2) = jFT xs L (q.2 + 2) → tW D cI cG cH A Dx tx ad a b k2 j 0 0 0 (jPut σ 0 q.1) H3 → va_S FF s.heap H3 locs3 → W p l e (headSpec (.code yX6_found cX6_found 3 (some .boolean) :: ww_tb) { frames := 4, cells := 78, slots := 433, locals := 32 * 4 }).room s mm ([Value.ref a, Value.int 5] : List Value).toArray below meth c H3 locs3 (14 * j) (77 * j) QQ (F0 mm 39 ls [.int to, .int (1 + jDr xs L (q.2 + 1) (nI 60)), .int (jDr xs L q.2 (nI 16)), .ref a]) := by
        intro to k2 H3 locs3 hto hW3 hS3
        have e1 : to = (jFT xs L (q.2 + 2)).1 := by rw [← hto]
        have e2 : k2 = (jFT xs L (q.2 + 2)).2 := by rw [← hto]
        subst e1
        subst e2
        refine lv_aload_n hx hb dX6_found_39 rfl (lv_at hl2 1 rfl) ?_
        refine lv_iconst (v := nI 5) hx hb dX6_found_40 rfl ?_
        refine lt_drw (rest := [.int (jFT xs L (q.2 + 2)).1, .int (1 + jDr xs L (q.2 + 1) (nI 60)), .int (jDr xs L q.2 (nI 16)), .ref a]) (N := 5) hx hb hml ho hts hU hW3 hX hb0 hFb hS3 hFA hA hAd hL (by omega) (by decide) dX6_found_41 wd (by decide) (show (1 + (1 + (1 + (1 + 0))) : Nat) ≤ 8 by decide) (by show 14 * j ≤ 78; omega) (by show 77 * j ≤ 433; omega) hl2.1 (fun Hd25 locsd25 hWd25 hSd25 hzd25 hkd25 => ?_)
        refine lv_if_ne (tgt := 51) hx hb dX6_found_44 (by decide) (fun z => ?_) (fun z => ?_)
        · refine lv_iconst (v := 0) hx hb dX6_found_51 rfl ?_
          exact fin 0 _ Hd25 locsd25 (by unfold jFD; rw [if_neg z]) rfl hWd25 hSd25
        · refine lv_iconst (v := 1) hx hb dX6_found_47 rfl ?_
          refine lv_goto (tgt := 52) hx hb dX6_found_48 (by decide) ?_
          exact fin 1 _ Hd25 locsd25 (by unfold jFD; rw [if_pos z]) rfl hWd25 hSd25
      refine lv_if_ne (tgt := 38) hx hb dX6_found_27 (by decide) (fun z => ?_) (fun z => ?_)
      · refine lv_iconst (v := 0) hx hb dX6_found_38 rfl ?_
        exact k39 0 _ Hd23 locsd23 (by unfold jFT; rw [if_neg z]) hWd23 hSd23
      · refine lv_aload_n hx hb dX6_found_30 rfl (lv_at hl2 1 rfl) ?_
        refine lv_iconst (v := nI 3) hx hb dX6_found_31 rfl ?_
        refine lt_drw (rest := [.int (1 + jDr xs L (q.2 + 1) (nI 60)), .int (jDr xs L q.2 (nI 16)), .ref a]) (N := 3) hx hb hml ho hts hU hWd23 hX hb0 hFb hSd23 hFA hA hAd hL (by omega) (by decide) dX6_found_32 wd (by decide) (show (1 + (1 + (1 + 0)) : Nat) ≤ 8 by decide) (by show 14 * j ≤ 78; omega) (by show 77 * j ≤ 433; omega) hl2.1 (fun Hd26 locsd26 hWd26 hSd26 hzd26 hkd26 => ?_)
        refine lv_goto (tgt := 39) hx hb dX6_found_35 (by decide) ?_
        exact k39 _ _ Hd26 locsd26 (by unfold jFT; rw [if_pos z]) hWd26 hSd26
  refine lv_iconst (v := 0) hx hb dX6_found_0 rfl ?_
  refine lv_istore_n (i := 2) (lv' := [(2, .int (nI 0)), (0, .ref a), (1, .int 5)]) hx hb dX6_found_1 rfl hl (by decide) rfl (fun ls1 hl1 => ?_)
  exact loop1 5 0 rfl s.heap [] ls1 (jV σ 0, k) rfl hw hc.1 hc.2.1 hc.2.2.1 hc.2.2.2 (Nat.le_refl _) (by rw [jPut_jV]; exact hWW) hS0 hl1
