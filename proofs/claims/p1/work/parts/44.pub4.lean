-- words of the tables, and what stands at each place of the methods' code (laid by program)
theorem u_136 : Cond.code yX1_hourNow cX1_hourNow 1 (some .int) ∈ ww_tb := by decide +kernel
theorem u_137 : Cond.methodLink RX5 257 yX1_hourNow ∈ ww_tb := by decide +kernel
theorem u_138 : Cond.instanceMethod yX1_hourNow ∈ ww_tb := by decide +kernel
theorem u_139 : Cond.selects RX1 yX1_hourNow yX1_hourNow ∈ ww_tb := by decide +kernel
theorem u_140 : Cond.code yX1_peopleOfAll cX1_peopleOfAll 3 (some .int) ∈ ww_tb := by decide +kernel
theorem u_141 : Cond.methodLink RX5 260 yX1_peopleOfAll ∈ ww_tb := by decide +kernel
theorem u_142 : Cond.instanceMethod yX1_peopleOfAll ∈ ww_tb := by decide +kernel
theorem u_143 : Cond.selects RX1 yX1_peopleOfAll yX1_peopleOfAll ∈ ww_tb := by decide +kernel
theorem u_144 : Cond.code yX1_peopleSafe cX1_peopleSafe 3 (some .int) ∈ ww_tb := by decide +kernel
theorem u_145 : Cond.methodLink RX5 263 yX1_peopleSafe ∈ ww_tb := by decide +kernel
theorem u_146 : Cond.instanceMethod yX1_peopleSafe ∈ ww_tb := by decide +kernel
theorem u_147 : Cond.selects RX1 yX1_peopleSafe yX1_peopleSafe ∈ ww_tb := by decide +kernel
theorem u_148 : Cond.code yX1_peopleGone cX1_peopleGone 3 (some .int) ∈ ww_tb := by decide +kernel
theorem u_149 : Cond.methodLink RX5 266 yX1_peopleGone ∈ ww_tb := by decide +kernel
theorem u_150 : Cond.instanceMethod yX1_peopleGone ∈ ww_tb := by decide +kernel
theorem u_151 : Cond.selects RX1 yX1_peopleGone yX1_peopleGone ∈ ww_tb := by decide +kernel
theorem u_152 : Cond.code yX1_cellsInDanger cX1_cellsInDanger 3 (some .int) ∈ ww_tb := by decide +kernel
theorem u_153 : Cond.methodLink RX5 269 yX1_cellsInDanger ∈ ww_tb := by decide +kernel
theorem u_154 : Cond.instanceMethod yX1_cellsInDanger ∈ ww_tb := by decide +kernel
theorem u_155 : Cond.selects RX1 yX1_cellsInDanger yX1_cellsInDanger ∈ ww_tb := by decide +kernel
theorem u_156 : Cond.code yX1_countAsleep cX1_countAsleep 3 (some .int) ∈ ww_tb := by decide +kernel
theorem u_157 : Cond.methodLink RX5 272 yX1_countAsleep ∈ ww_tb := by decide +kernel
theorem u_158 : Cond.instanceMethod yX1_countAsleep ∈ ww_tb := by decide +kernel
theorem u_159 : Cond.selects RX1 yX1_countAsleep yX1_countAsleep ∈ ww_tb := by decide +kernel
theorem u_160 : Cond.fieldLink RX5 275 (TX1 3).1 (TX1 3).2.1 (TX1 3).2.2.1 ∈ ww_tb := by decide +kernel
theorem u_161 : Cond.code yX1_becomeLike cX1_becomeLike 3 none ∈ ww_tb := by decide +kernel
theorem u_162 : Cond.methodLink RX5 283 yX1_becomeLike ∈ ww_tb := by decide +kernel
theorem u_163 : Cond.instanceMethod yX1_becomeLike ∈ ww_tb := by decide +kernel
theorem u_164 : Cond.selects RX1 yX1_becomeLike yX1_becomeLike ∈ ww_tb := by decide +kernel
theorem u_165 : Cond.code yX1_peopleBelieving cX1_peopleBelieving 3 (some .int) ∈ ww_tb := by decide +kernel
theorem u_166 : Cond.methodLink RX5 287 yX1_peopleBelieving ∈ ww_tb := by decide +kernel
theorem u_167 : Cond.instanceMethod yX1_peopleBelieving ∈ ww_tb := by decide +kernel
theorem u_168 : Cond.selects RX1 yX1_peopleBelieving yX1_peopleBelieving ∈ ww_tb := by decide +kernel
/-! .. what it asks: many, sirenWould, digest -/
theorem wx_set {f : Nat → Prop} [DecidablePred f] : ∀ n, (∀ i, i < n → ¬ f i) → jSet f n = 0
  | 0, _ => rfl
  | n + 1, h => by
    have h1 := wx_set n (fun i hi => h i (by omega))
    have h2 := h n (by omega)
    unfold jSet
    rw [h1]
    first | rw [if_neg h2] | simp [h2]
def wmv (x : Int32) : Int32 := if x = 11 then 3 else 0
theorem wx_many {σ : vgS} (h : wx_fr σ) {x : Int32} (hx : vp_in x 12) : jMany (jV σ 0) x = wmv x := by
  have e0 : jV σ 0 1 0 0 = 0 := h.2.2.2.1.1
  have e2 : jV σ 0 1 0 4 = 0 := wx_g h
  have e6 : jV σ 0 1 0 6 = 0 := wx_w h
  have e10 : jV σ 0 1 0 3 = 0 := h.2.2.2.1.2.2.2
  have e11 : jV σ 0 1 0 2 = 3 := h.2.2.2.1.2.2.1
  have eg : jGc (jV σ 0) = 0 := h.2.1.1
  have ew : jWc (jV σ 0) = 0 := h.2.1.2.2.1
  have e8 : jSet (jDng (jV σ 0)) 16 = 0 := wx_set 16 (fun c hc z => z.1 (h.2.2.2.2 c hc))
  unfold jMany wmv
  by_cases n0 : x = 0
  · rw [if_pos n0, if_neg (by rw [n0]; decide)]
    exact e0
  rw [if_neg n0]
  by_cases n1 : x = 1
  · rw [if_pos n1, if_neg (by rw [n1]; decide)]
    exact (congrArg jHour e0).trans (by decide)
  rw [if_neg n1]
  by_cases n2 : x = 2
  · rw [if_pos n2, if_neg (by rw [n2]; decide)]
    exact e2
  rw [if_neg n2]
  by_cases n3 : x = 3
  · rw [if_pos n3, if_neg (by rw [n3]; decide)]
    exact (by rw [eg]; rfl)
  rw [if_neg n3]
  by_cases n4 : x = 4
  · rw [if_pos n4, if_neg (by rw [n4]; decide)]
    exact (by rw [eg]; rfl)
  rw [if_neg n4]
  by_cases n5 : x = 5
  · rw [if_pos n5, if_neg (by rw [n5]; decide)]
    exact (by rw [eg]; rfl)
  rw [if_neg n5]
  by_cases n6 : x = 6
  · rw [if_pos n6, if_neg (by rw [n6]; decide)]
    exact e6
  rw [if_neg n6]
  by_cases n7 : x = 7
  · rw [if_pos n7, if_neg (by rw [n7]; decide)]
    exact (by rw [ew]; rfl)
  rw [if_neg n7]
  by_cases n8 : x = 8
  · rw [if_pos n8, if_neg (by rw [n8]; decide)]
    exact e8
  rw [if_neg n8]
  by_cases n9 : x = 9
  · rw [if_pos n9, if_neg (by rw [n9]; decide)]
    exact (by rw [eg]; rfl)
  rw [if_neg n9]
  by_cases n10 : x = 10
  · rw [if_pos n10, if_neg (by rw [n10]; decide)]
    exact e10
  rw [if_neg n10]
  by_cases n11 : x = 11
  · rw [if_pos n11, if_pos n11]
    exact e11
  rw [if_neg n11, if_neg n11]
abbrev wp_m (x : Int32) : Prop := ¬ x < 0 ∧ x ≤ 11
theorem jc12 {c : Int32} : vp_in c 12 ↔ wp_m c := by
  have e : ∀ c : Int32, c < (11 : Int32) + 1 ↔ c ≤ 11 := fun c => by
    rw [Int32.lt_iff_toInt_lt, Int32.le_iff_toInt_le, show ((11 : Int32) + 1).toInt = 12 from by decide, show (11 : Int32).toInt = 11 from by decide]
    omega
  constructor
  · intro h
    have := jlt h (by decide)
    exact ⟨this.1, (e c).mp this.2⟩
  · intro h
    exact jin0 (by decide) h.1 ((e c).mpr h.2)
def ke_X5_many : List (Nat × vgF) := [(0, vi_iload 1 1), (1, vi_sw [(0, 64), (1, 72), (2, 80), (3, 88), (4, 96), (5, 104), (6, 112), (7, 120), (8, 128), (9, 136), (10, 144), (11, 152)] 160), (64, vi_aload 0 65), (65, vi_get ww_shp 0 0 68), (68, vi_get ww_shp 1 0 71), (71, vi_ret), (72, vi_aload 0 73), (73, vi_get ww_shp 0 0 76), (76, vi_callV ww_shp 1 sp_X1_hourNow 0 79), (79, vi_ret), (80, vi_aload 0 81), (81, vi_get ww_shp 0 0 84), (84, vi_get ww_shp 1 4 87), (87, vi_ret), (88, vi_aload 0 89), (89, vi_get ww_shp 0 0 92), (92, vi_callV ww_shp 1 sp_X1_peopleOfAll 0 95), (95, vi_ret), (96, vi_aload 0 97), (97, vi_get ww_shp 0 0 100), (100, vi_callV ww_shp 1 sp_X1_peopleSafe 0 103), (103, vi_ret), (104, vi_aload 0 105), (105, vi_get ww_shp 0 0 108), (108, vi_callV ww_shp 1 sp_X1_peopleGone 0 111), (111, vi_ret), (112, vi_aload 0 113), (113, vi_get ww_shp 0 0 116), (116, vi_get ww_shp 1 6 119), (119, vi_ret), (120, vi_aload 0 121), (121, vi_get ww_shp 0 0 124), (124, vi_callV ww_shp 1 sp_X1_countInForce 0 127), (127, vi_ret), (128, vi_aload 0 129), (129, vi_get ww_shp 0 0 132), (132, vi_callV ww_shp 1 sp_X1_cellsInDanger 0 135), (135, vi_ret), (136, vi_aload 0 137), (137, vi_get ww_shp 0 0 140), (140, vi_callV ww_shp 1 sp_X1_countAsleep 0 143), (143, vi_ret), (144, vi_aload 0 145), (145, vi_get ww_shp 0 0 148), (148, vi_get ww_shp 1 3 151), (151, vi_ret), (152, vi_aload 0 153), (153, vi_get ww_shp 0 0 156), (156, vi_get ww_shp 1 2 159), (159, vi_ret), (160, vi_throw 2)]
set_option maxRecDepth 20000 in
theorem se_X5_many : ∀ q ∈ ke_X5_many, vm_Snd true ww_tb ww_tbx ww_strs ww_nw ww_shp ww_nm ww_cl ww_tyl cX5_many 2 RX5 (some .int) 6 q.1 q.2 := by
  refine vg_cons (vt_iload_n dX5_many_0 rfl rfl) ?_
  refine vg_cons (vt_tsw dX5_many_1 (by decide) (by decide) (by intro i hi; match i, hi with | 0, _ => exact ⟨(0, 64), 63, rfl, rfl, by decide, by decide⟩ | 1, _ => exact ⟨(1, 72), 71, rfl, rfl, by decide, by decide⟩ | 2, _ => exact ⟨(2, 80), 79, rfl, rfl, by decide, by decide⟩ | 3, _ => exact ⟨(3, 88), 87, rfl, rfl, by decide, by decide⟩ | 4, _ => exact ⟨(4, 96), 95, rfl, rfl, by decide, by decide⟩ | 5, _ => exact ⟨(5, 104), 103, rfl, rfl, by decide, by decide⟩ | 6, _ => exact ⟨(6, 112), 111, rfl, rfl, by decide, by decide⟩ | 7, _ => exact ⟨(7, 120), 119, rfl, rfl, by decide, by decide⟩ | 8, _ => exact ⟨(8, 128), 127, rfl, rfl, by decide, by decide⟩ | 9, _ => exact ⟨(9, 136), 135, rfl, rfl, by decide, by decide⟩ | 10, _ => exact ⟨(10, 144), 143, rfl, rfl, by decide, by decide⟩ | 11, _ => exact ⟨(11, 152), 151, rfl, rfl, by decide, by decide⟩)) ?_
  refine vg_cons (vt_aload_n dX5_many_64 rfl rfl) ?_
  refine vg_cons (vt_getfield (T := TX5) dX5_many_65 rfl (by decide) ww_inX5 u_58 rfl) ?_
  refine vg_cons (vt_getfield (T := TX1) dX5_many_68 rfl (by decide) ww_inX1 u_97 rfl) ?_
  refine vg_cons (vt_ireturn dX5_many_71 rfl) ?_
  refine vg_cons (vt_aload_n dX5_many_72 rfl rfl) ?_
  refine vg_cons (vt_getfield (T := TX5) dX5_many_73 rfl (by decide) ww_inX5 u_58 rfl) ?_
  refine vg_cons (vt_callV (T := TX1) c_X1_hourNow dX5_many_76 rfl ww_good u_136 u_55 u_137 u_138 u_139 (by decide +kernel) (by decide) rfl) ?_
  refine vg_cons (vt_ireturn dX5_many_79 rfl) ?_
  refine vg_cons (vt_aload_n dX5_many_80 rfl rfl) ?_
  refine vg_cons (vt_getfield (T := TX5) dX5_many_81 rfl (by decide) ww_inX5 u_58 rfl) ?_
  refine vg_cons (vt_getfield (T := TX1) dX5_many_84 rfl (by decide) ww_inX1 u_60 rfl) ?_
  refine vg_cons (vt_ireturn dX5_many_87 rfl) ?_
  refine vg_cons (vt_aload_n dX5_many_88 rfl rfl) ?_
  refine vg_cons (vt_getfield (T := TX5) dX5_many_89 rfl (by decide) ww_inX5 u_58 rfl) ?_
  refine vg_cons (vt_callV (T := TX1) c_X1_peopleOfAll dX5_many_92 rfl ww_good u_140 u_55 u_141 u_142 u_143 (by decide +kernel) (by decide) rfl) ?_
  refine vg_cons (vt_ireturn dX5_many_95 rfl) ?_
  refine vg_cons (vt_aload_n dX5_many_96 rfl rfl) ?_
  refine vg_cons (vt_getfield (T := TX5) dX5_many_97 rfl (by decide) ww_inX5 u_58 rfl) ?_
  refine vg_cons (vt_callV (T := TX1) c_X1_peopleSafe dX5_many_100 rfl ww_good u_144 u_55 u_145 u_146 u_147 (by decide +kernel) (by decide) rfl) ?_
  refine vg_cons (vt_ireturn dX5_many_103 rfl) ?_
  refine vg_cons (vt_aload_n dX5_many_104 rfl rfl) ?_
  refine vg_cons (vt_getfield (T := TX5) dX5_many_105 rfl (by decide) ww_inX5 u_58 rfl) ?_
  refine vg_cons (vt_callV (T := TX1) c_X1_peopleGone dX5_many_108 rfl ww_good u_148 u_55 u_149 u_150 u_151 (by decide +kernel) (by decide) rfl) ?_
  refine vg_cons (vt_ireturn dX5_many_111 rfl) ?_
  refine vg_cons (vt_aload_n dX5_many_112 rfl rfl) ?_
  refine vg_cons (vt_getfield (T := TX5) dX5_many_113 rfl (by decide) ww_inX5 u_58 rfl) ?_
  refine vg_cons (vt_getfield (T := TX1) dX5_many_116 rfl (by decide) ww_inX1 u_61 rfl) ?_
  refine vg_cons (vt_ireturn dX5_many_119 rfl) ?_
  refine vg_cons (vt_aload_n dX5_many_120 rfl rfl) ?_
  refine vg_cons (vt_getfield (T := TX5) dX5_many_121 rfl (by decide) ww_inX5 u_58 rfl) ?_
  refine vg_cons (vt_callV (T := TX1) c_X1_countInForce dX5_many_124 rfl ww_good u_131 u_55 u_132 u_133 u_134 (by decide +kernel) (by decide) rfl) ?_
  refine vg_cons (vt_ireturn dX5_many_127 rfl) ?_
  refine vg_cons (vt_aload_n dX5_many_128 rfl rfl) ?_
  refine vg_cons (vt_getfield (T := TX5) dX5_many_129 rfl (by decide) ww_inX5 u_58 rfl) ?_
  refine vg_cons (vt_callV (T := TX1) c_X1_cellsInDanger dX5_many_132 rfl ww_good u_152 u_55 u_153 u_154 u_155 (by decide +kernel) (by decide) rfl) ?_
  refine vg_cons (vt_ireturn dX5_many_135 rfl) ?_
  refine vg_cons (vt_aload_n dX5_many_136 rfl rfl) ?_
  refine vg_cons (vt_getfield (T := TX5) dX5_many_137 rfl (by decide) ww_inX5 u_58 rfl) ?_
  refine vg_cons (vt_callV (T := TX1) c_X1_countAsleep dX5_many_140 rfl ww_good u_156 u_55 u_157 u_158 u_159 (by decide +kernel) (by decide) rfl) ?_
  refine vg_cons (vt_ireturn dX5_many_143 rfl) ?_
  refine vg_cons (vt_aload_n dX5_many_144 rfl rfl) ?_
  refine vg_cons (vt_getfield (T := TX5) dX5_many_145 rfl (by decide) ww_inX5 u_58 rfl) ?_
  refine vg_cons (vt_getfield (T := TX1) dX5_many_148 rfl (by decide) ww_inX1 u_160 rfl) ?_
  refine vg_cons (vt_ireturn dX5_many_151 rfl) ?_
  refine vg_cons (vt_aload_n dX5_many_152 rfl rfl) ?_
  refine vg_cons (vt_getfield (T := TX5) dX5_many_153 rfl (by decide) ww_inX5 u_58 rfl) ?_
  refine vg_cons (vt_getfield (T := TX1) dX5_many_156 rfl (by decide) ww_inX1 u_101 rfl) ?_
  refine vg_cons (vt_ireturn dX5_many_159 rfl) ?_
  refine vg_cons (vt_throw (vm_nk_of "what is 0 to 11" 215 278 219 dX5_many_160 dX5_many_163 (Or.inr ⟨dX5_many_164, dX5_many_167, dX5_many_170⟩) (by decide +kernel)) (by decide)) ?_
  exact fun _ h => absurd h List.not_mem_nil
theorem me_X5_many : vg_Code ke_X5_many := fun q h => (se_X5_many q h).1

def pr_X5_many : vgT → vgS → Prop := fun av σ => match av with
  | [.inr (0, 0, 0), .inl (.int x)] => wx_fr σ
  | _ => False
def pf_X5_many : vgT → Nat × Int32 := fun av => match av with
  | [.inr (0, 0, 0), .inl (.int x)] => if wp_m x then (0, wmv x) else (2, 0)
  | _ => (0, 0)
theorem wp_X5_many : ∀ av σ, pr_X5_many av σ → vg_wd av ≤ 2 := by
  intro av σ h
  unfold pr_X5_many at h
  split at h
  · exact Nat.le_of_ble_eq_true rfl
  · exact h.elim
set_option maxRecDepth 20000 in
theorem sim_X5_many {P P' : vgO} (hP : ∀ r σ, P r σ → P' r σ) : vm_simL P P' k_X5_many ke_X5_many := by
  unfold k_X5_many ke_X5_many
  repeat' apply And.intro
  all_goals first | rfl | exact trivial | exact vm_sim_ret hP | exact (fun K lv st σ h => h.elim) | exact (fun K lv st σ h => h)
set_option maxRecDepth 20000 in
theorem gp_X5_many : ∀ av σ, pr_X5_many av σ → vg_Go ke_X5_many (fun r _ => r = po (pf_X5_many av)) 0 (vg_args 0 av) [] σ := by
  intro av σ h
  unfold pr_X5_many at h
  split at h
  next x =>
    by_cases c : wp_m x
    · have e : pf_X5_many [.inr (0, 0, 0), .inl (.int x)] = (0, wmv x) := by
        show (if _ then _ else _) = _
        rw [if_pos c]
      rw [e]
      have hx : vp_in x 12 := jc12.mpr c
      refine vm_sim (P := fun r σ' => r = (sp_X5_many [.inr (0, 0, 0), .inl (.int x)] σ).2.1 ∧ σ' = (sp_X5_many [.inr (0, 0, 0), .inl (.int x)] σ).2.2) (sim_X5_many (fun r σ' hr => ?_)) (g_X5_many _ σ ⟨h.1, hx⟩)
      rw [hr.1]
      exact congrArg (fun x => some (Sum.inl (Value.int x))) (wx_many h hx)
    · have e : pf_X5_many [.inr (0, 0, 0), .inl (.int x)] = (2, 0) := by
        show (if _ then _ else _) = _
        rw [if_neg c]
      rw [e]
      refine vg_run (cuts := []) me_X5_many 4 ?_
      have hn : ∀ k, k < 12 → ¬ x = nI k := fun k hk z => c (jc12.mp (by rw [z]; exact vp_in_nI hk (by decide)))
      exact And.intro (fun z => absurd z (hn 0 (by decide))) (fun _ => And.intro (fun z => absurd z (hn 1 (by decide))) (fun _ => And.intro (fun z => absurd z (hn 2 (by decide))) (fun _ => And.intro (fun z => absurd z (hn 3 (by decide))) (fun _ => And.intro (fun z => absurd z (hn 4 (by decide))) (fun _ => And.intro (fun z => absurd z (hn 5 (by decide))) (fun _ => And.intro (fun z => absurd z (hn 6 (by decide))) (fun _ => And.intro (fun z => absurd z (hn 7 (by decide))) (fun _ => And.intro (fun z => absurd z (hn 8 (by decide))) (fun _ => And.intro (fun z => absurd z (hn 9 (by decide))) (fun _ => And.intro (fun z => absurd z (hn 10 (by decide))) (fun _ => And.intro (fun z => absurd z (hn 11 (by decide))) (fun _ => rfl))))))))))))
  next => exact h.elim
theorem p_X5_many : vm_MetX ww_tb ww_tbx ww_strs ww_nw ww_shp ww_nm ww_cl ww_tyl yX5_many cX5_many 2 (some .int) 6 pr_X5_many (fun av _ r _ => r = po (pf_X5_many av)) := vm_metX ww_closed (by decide +kernel) rfl ww_mv se_X5_many wp_X5_many gp_X5_many
/-! sirenWould -/
theorem wx_belv {v : jN} (h : jGc v = 0) : jBelv v = 0 := by
  unfold jBelv
  rw [h]
  rfl
theorem wx_play_gc {v : jN} (hw : jWf v) (hp : jPl v) (n : Nat) : jGc (jPlay v n).1 = jGc v := (jPlay_inv hw hp n).1.gc
theorem wx_like_gc {w v : jN} : jGc (jLike w v) = jGc w := congrArg Int32.toNatClampNeg (jLike_c (Or.inl ⟨rfl, rfl, by decide⟩))
def ke_X5_sirenWould : List (Nat × vgF) := [(0, vi_iload 1 1), (1, vi_callSX sp_X5_checkCell tx_X5_checkCell 1 1 4), (4, vi_iload 2 5), (5, vi_icst (0) 6), (6, vi_icst (3) 7), (7, vi_callSX sp_X5_checkRange tx_X5_checkRange 2 3 10), (10, vi_iload 3 11), (11, vi_icst (1) 12), (12, vi_icst (60) 14), (14, vi_callSX sp_X5_checkRange tx_X5_checkRange 2 3 17), (17, vi_aload 0 18), (18, vi_get ww_shp 0 1 21), (21, vi_aload 0 22), (22, vi_get ww_shp 0 0 25), (25, vi_callV ww_shp 1 sp_X1_becomeLike 1 28), (28, vi_aload 0 29), (29, vi_get ww_shp 0 1 32), (32, vi_iload 3 33), (33, vi_callV ww_shp 1 sp_X1_playMinutes 1 36), (36, vi_pop 37), (37, vi_aload 0 38), (38, vi_get ww_shp 0 1 41), (41, vi_callV ww_shp 1 sp_X1_peopleBelieving 0 44), (44, vi_istore 4 46), (46, vi_aload 0 47), (47, vi_get ww_shp 0 1 50), (50, vi_aload 0 51), (51, vi_get ww_shp 0 0 54), (54, vi_callV ww_shp 1 sp_X1_becomeLike 1 57), (57, vi_aload 0 58), (58, vi_get ww_shp 0 1 61), (61, vi_get ww_shp 1 10 64), (64, vi_iload 1 65), (65, vi_iload 2 66), (66, vi_callV ww_shp 2 sp_X2_add 2 69), (69, vi_pop 70), (70, vi_aload 0 71), (71, vi_get ww_shp 0 1 74), (74, vi_iload 3 75), (75, vi_callV ww_shp 1 sp_X1_playMinutes 1 78), (78, vi_pop 79), (79, vi_aload 0 80), (80, vi_get ww_shp 0 1 83), (83, vi_callV ww_shp 1 sp_X1_peopleBelieving 0 86), (86, vi_iload 4 88), (88, vi_bin (fun x y => x - y) 89), (89, vi_ret)]
set_option maxRecDepth 20000 in
theorem se_X5_sirenWould : ∀ q ∈ ke_X5_sirenWould, vm_Snd true ww_tb ww_tbx ww_strs ww_nw ww_shp ww_nm ww_cl ww_tyl cX5_sirenWould 5 RX5 (some .int) 7 q.1 q.2 := by
  refine vg_cons (vt_iload_n dX5_sirenWould_0 rfl rfl) ?_
  refine vg_cons (vt_callSX c_X5_checkCell t_X5_checkCell ww_mv dX5_sirenWould_1 ww_good u_75 u_64 u_77 u_76 (by decide +kernel) (by decide) rfl) ?_
  refine vg_cons (vt_iload_n dX5_sirenWould_4 rfl rfl) ?_
  refine vg_cons (vt_iconst dX5_sirenWould_5 rfl rfl) ?_
  refine vg_cons (vt_iconst dX5_sirenWould_6 rfl rfl) ?_
  refine vg_cons (vt_callSX c_X5_checkRange t_X5_checkRange ww_mv dX5_sirenWould_7 ww_good u_63 u_64 u_66 u_65 (by decide +kernel) (by decide) rfl) ?_
  refine vg_cons (vt_iload_n dX5_sirenWould_10 rfl rfl) ?_
  refine vg_cons (vt_iconst dX5_sirenWould_11 rfl rfl) ?_
  refine vg_cons (vt_bipush dX5_sirenWould_12 (by decide) rfl) ?_
  refine vg_cons (vt_callSX c_X5_checkRange t_X5_checkRange ww_mv dX5_sirenWould_14 ww_good u_63 u_64 u_66 u_65 (by decide +kernel) (by decide) rfl) ?_
  refine vg_cons (vt_aload_n dX5_sirenWould_17 rfl rfl) ?_
  refine vg_cons (vt_getfield (T := TX5) dX5_sirenWould_18 rfl (by decide) ww_inX5 u_59 rfl) ?_
  refine vg_cons (vt_aload_n dX5_sirenWould_21 rfl rfl) ?_
  refine vg_cons (vt_getfield (T := TX5) dX5_sirenWould_22 rfl (by decide) ww_inX5 u_58 rfl) ?_
  refine vg_cons (vt_callV (T := TX1) c_X1_becomeLike dX5_sirenWould_25 rfl ww_good u_161 u_55 u_162 u_163 u_164 (by decide +kernel) (by decide) rfl) ?_
  refine vg_cons (vt_aload_n dX5_sirenWould_28 rfl rfl) ?_
  refine vg_cons (vt_getfield (T := TX5) dX5_sirenWould_29 rfl (by decide) ww_inX5 u_59 rfl) ?_
  refine vg_cons (vt_iload_n dX5_sirenWould_32 rfl rfl) ?_
  refine vg_cons (vt_callV (T := TX1) c_X1_playMinutes dX5_sirenWould_33 rfl ww_good u_123 u_55 u_124 u_125 u_126 (by decide +kernel) (by decide) rfl) ?_
  refine vg_cons (vt_pop dX5_sirenWould_36 rfl) ?_
  refine vg_cons (vt_aload_n dX5_sirenWould_37 rfl rfl) ?_
  refine vg_cons (vt_getfield (T := TX5) dX5_sirenWould_38 rfl (by decide) ww_inX5 u_59 rfl) ?_
  refine vg_cons (vt_callV (T := TX1) c_X1_peopleBelieving dX5_sirenWould_41 rfl ww_good u_165 u_55 u_166 u_167 u_168 (by decide +kernel) (by decide) rfl) ?_
  refine vg_cons (vt_istore dX5_sirenWould_44 (by decide) rfl) ?_
  refine vg_cons (vt_aload_n dX5_sirenWould_46 rfl rfl) ?_
  refine vg_cons (vt_getfield (T := TX5) dX5_sirenWould_47 rfl (by decide) ww_inX5 u_59 rfl) ?_
  refine vg_cons (vt_aload_n dX5_sirenWould_50 rfl rfl) ?_
  refine vg_cons (vt_getfield (T := TX5) dX5_sirenWould_51 rfl (by decide) ww_inX5 u_58 rfl) ?_
  refine vg_cons (vt_callV (T := TX1) c_X1_becomeLike dX5_sirenWould_54 rfl ww_good u_161 u_55 u_162 u_163 u_164 (by decide +kernel) (by decide) rfl) ?_
  refine vg_cons (vt_aload_n dX5_sirenWould_57 rfl rfl) ?_
  refine vg_cons (vt_getfield (T := TX5) dX5_sirenWould_58 rfl (by decide) ww_inX5 u_59 rfl) ?_
  refine vg_cons (vt_getfield (T := TX1) dX5_sirenWould_61 rfl (by decide) ww_inX1 u_88 rfl) ?_
  refine vg_cons (vt_iload_n dX5_sirenWould_64 rfl rfl) ?_
  refine vg_cons (vt_iload_n dX5_sirenWould_65 rfl rfl) ?_
  refine vg_cons (vt_callV (T := TX2) c_X2_add dX5_sirenWould_66 rfl ww_good u_90 u_31 u_91 u_92 u_93 (by decide +kernel) (by decide) rfl) ?_
  refine vg_cons (vt_pop dX5_sirenWould_69 rfl) ?_
  refine vg_cons (vt_aload_n dX5_sirenWould_70 rfl rfl) ?_
  refine vg_cons (vt_getfield (T := TX5) dX5_sirenWould_71 rfl (by decide) ww_inX5 u_59 rfl) ?_
  refine vg_cons (vt_iload_n dX5_sirenWould_74 rfl rfl) ?_
  refine vg_cons (vt_callV (T := TX1) c_X1_playMinutes dX5_sirenWould_75 rfl ww_good u_123 u_55 u_124 u_125 u_126 (by decide +kernel) (by decide) rfl) ?_
  refine vg_cons (vt_pop dX5_sirenWould_78 rfl) ?_
  refine vg_cons (vt_aload_n dX5_sirenWould_79 rfl rfl) ?_
  refine vg_cons (vt_getfield (T := TX5) dX5_sirenWould_80 rfl (by decide) ww_inX5 u_59 rfl) ?_
  refine vg_cons (vt_callV (T := TX1) c_X1_peopleBelieving dX5_sirenWould_83 rfl ww_good u_165 u_55 u_166 u_167 u_168 (by decide +kernel) (by decide) rfl) ?_
  refine vg_cons (vt_iload dX5_sirenWould_86 rfl) ?_
  refine vg_cons (vt_isub dX5_sirenWould_88 rfl) ?_
  refine vg_cons (vt_ireturn dX5_sirenWould_89 rfl) ?_
  exact fun _ h => absurd h List.not_mem_nil
theorem me_X5_sirenWould : vg_Code ke_X5_sirenWould := fun q h => (se_X5_sirenWould q h).1

def pr_X5_sirenWould : vgT → vgS → Prop := fun av σ => match av with
  | [.inr (0, 0, 0), .inl (.int c), .inl (.int r), .inl (.int m)] => wx_fr σ
  | _ => False
def pf_X5_sirenWould : vgT → Nat × Int32 := fun av => match av with
  | [.inr (0, 0, 0), .inl (.int c), .inl (.int r), .inl (.int m)] => if wp_c c then (if wp_r r 0 3 then (if wp_r m 1 60 then (0, 0) else (2, 0)) else (2, 0)) else (1, 0)
  | _ => (0, 0)
theorem wp_X5_sirenWould : ∀ av σ, pr_X5_sirenWould av σ → vg_wd av ≤ 5 := by
  intro av σ h
  unfold pr_X5_sirenWould at h
  split at h
  · exact Nat.le_of_ble_eq_true rfl
  · exact h.elim
set_option maxRecDepth 20000 in
theorem sim_X5_sirenWould {P P' : vgO} (hP : ∀ r σ, P r σ → P' r σ) : vm_simL P P' k_X5_sirenWould ke_X5_sirenWould := by
  unfold k_X5_sirenWould ke_X5_sirenWould
  repeat' apply And.intro
  all_goals first | rfl | exact trivial | exact vm_sim_ret hP | (intro K lv st σ h; refine vm_sim_callS (P := P) (sp := sp_X5_checkCell) (tx := tx_X5_checkCell) nt_checkCell K lv st σ ?_; exact h) | (intro K lv st σ h; refine vm_sim_callS (P := P) (sp := sp_X5_checkRange) (tx := tx_X5_checkRange) nt_checkRange K lv st σ ?_; exact h) | exact (fun K lv st σ h => h)
theorem wx_sir {σ : vgS} (h : wx_fr σ) (c r : Int32) (n : Nat) : jBelv (jW2 (jV σ 0) (jV σ 1) c r n) - jBelv (jW1 (jV σ 0) (jV σ 1) n) = 0 := by
  have hl := jLike_wf (w := jV σ 0) (v := jV σ 1) h.1
  have hp := jLike_pl (v := jV σ 1) h.2.2.1.2.1 h.2.2.1.2.2
  have g0 : jGc (jLike (jV σ 0) (jV σ 1)) = 0 := wx_like_gc.trans h.2.1.1
  have b1 : jBelv (jW1 (jV σ 0) (jV σ 1) n) = 0 := wx_belv ((wx_play_gc hl hp n).trans g0)
  have hw1 := jPlay_wf hl hp n
  have hl2 := jLike_wf (w := jV σ 0) (v := jW1 (jV σ 0) (jV σ 1) n) h.1
  have hp2 := jLike_pl (v := jW1 (jV σ 0) (jV σ 1) n) h.2.2.1.2.1 hw1.2
  have n4 : jNc (jLike (jV σ 0) (jW1 (jV σ 0) (jV σ 1) n)) 0 ≤ 4 := by
    show (jLike (jV σ 0) (jW1 (jV σ 0) (jV σ 1) n) 5 0 3).toNatClampNeg ≤ 4
    rw [jLike_c (Or.inr ⟨rfl, by decide, rfl⟩)]
    exact (show jNc (jV σ 0) 0 ≤ 4 by rw [h.2.1.2.2.2.1]; decide)
  have hl3 := jAddS_wf (c := c) (r := r) hl2 n4
  have hp3 := jAddS_pl (c := c) (r := r) hp2
  have g3 : jGc (jAddS (jLike (jV σ 0) (jW1 (jV σ 0) (jV σ 1) n)) 0 c r) = 0 := by
    have g4 : jGc (jLike (jV σ 0) (jW1 (jV σ 0) (jV σ 1) n)) = 0 := wx_like_gc.trans h.2.1.1
    show (jAddS (jLike (jV σ 0) (jW1 (jV σ 0) (jV σ 1) n)) 0 c r 1 0 4).toNatClampNeg = 0
    unfold jAddS
    rw [jUp_k (by decide), jUp_k (by decide), jUp_k (by decide), jUp_k (by decide)]
    exact g4
  have b2 : jBelv (jW2 (jV σ 0) (jV σ 1) c r n) = 0 := wx_belv ((wx_play_gc hl3 hp3 n).trans g3)
  rw [b1, b2]
  rfl
set_option maxRecDepth 20000 in
theorem gp_X5_sirenWould : ∀ av σ, pr_X5_sirenWould av σ → vg_Go ke_X5_sirenWould (fun r _ => r = po (pf_X5_sirenWould av)) 0 (vg_args 0 av) [] σ := by
  intro av σ h
  unfold pr_X5_sirenWould at h
  split at h
  next c r m =>
    by_cases c1 : wp_c c
    · by_cases c2 : wp_r r 0 3
      · by_cases c3 : wp_r m 1 60
        · have e : pf_X5_sirenWould [.inr (0, 0, 0), .inl (.int c), .inl (.int r), .inl (.int m)] = (0, 0) := by
            show (if _ then _ else _) = _
            rw [if_pos c1, if_pos c2, if_pos c3]
          rw [e]
          refine vm_sim (P := fun r' σ' => r' = (sp_X5_sirenWould [.inr (0, 0, 0), .inl (.int c), .inl (.int r), .inl (.int m)] σ).2.1 ∧ σ' = (sp_X5_sirenWould [.inr (0, 0, 0), .inl (.int c), .inl (.int r), .inl (.int m)] σ).2.2) (sim_X5_sirenWould (fun r' σ' hr => ?_)) (g_X5_sirenWould _ σ ⟨jc16.mpr c1, c2, c3, wx_lt c3, h.1, h.2.2.1.1, h.2.2.1.2.1, h.2.2.1.2.2, by rw [h.2.1.2.2.2.1]; decide⟩)
          rw [hr.1]
          exact congrArg (fun x => some (Sum.inl (Value.int x))) (wx_sir h c r _)
        · have e : pf_X5_sirenWould [.inr (0, 0, 0), .inl (.int c), .inl (.int r), .inl (.int m)] = (2, 0) := by
            show (if _ then _ else _) = _
            rw [if_pos c1, if_pos c2, if_neg c3]
          rw [e]
          refine vg_run (cuts := []) me_X5_sirenWould 11 ?_
          exact And.intro (fun z => absurd (jc16.mpr c1) z) (fun _ => And.intro (jc16.mpr c1) (And.intro (fun z => absurd c2 z) (fun _ => And.intro c2 (And.intro (fun _ => rfl) (fun z => absurd c3 z)))))
      · have e : pf_X5_sirenWould [.inr (0, 0, 0), .inl (.int c), .inl (.int r), .inl (.int m)] = (2, 0) := by
          show (if _ then _ else _) = _
          rw [if_pos c1, if_neg c2]
        rw [e]
        refine vg_run (cuts := []) me_X5_sirenWould 7 ?_
        exact And.intro (fun z => absurd (jc16.mpr c1) z) (fun _ => And.intro (jc16.mpr c1) (And.intro (fun _ => rfl) (fun z => absurd c2 z)))
    · have e : pf_X5_sirenWould [.inr (0, 0, 0), .inl (.int c), .inl (.int r), .inl (.int m)] = (1, 0) := by
        show (if _ then _ else _) = _
        rw [if_neg c1]
      rw [e]
      refine vg_run (cuts := []) me_X5_sirenWould 3 ?_
      exact And.intro (fun _ => rfl) (fun z => absurd (fun y => c1 (jc16.mp y)) z)
  next => exact h.elim
theorem p_X5_sirenWould : vm_MetX ww_tb ww_tbx ww_strs ww_nw ww_shp ww_nm ww_cl ww_tyl yX5_sirenWould cX5_sirenWould 5 (some .int) 7 pr_X5_sirenWould (fun av _ r _ => r = po (pf_X5_sirenWould av)) := vm_metX ww_closed (by decide +kernel) rfl ww_mv se_X5_sirenWould wp_X5_sirenWould gp_X5_sirenWould
