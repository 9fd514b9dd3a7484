/-! the world of one WarnWave: its two lands (b = 0: the land, b = 1: the trial), and all that hangs on them -/
def ww_cl : List vw_C := [(RX5, TX5, 2), (RX1, TX1, 14), (RX2, TX2, 4), (RX3, TX3, 2), (RX4, TX4, 8), (RX0, TX0, 13)]
def ww_tyl : List FieldType := [.int, .boolean, .object "WarnWave$Group", .object "WarnWave$Shelter", .object "WarnWave$Warning"]
def ww_shl : List (Nat × (Nat → Nat → vgH)) := [
  (1, fun b _ => .inl (1, [none, none, none, none, none, none, none, some (2, b, 0), some (3, b, 0), some (4, b, 0), some (5, b, 0), some (5, b, 1), some (6, b, 0), some (12, b, 0)])),
  (9, fun b g => .inl (5, [none, none, none, none, none, none, none, none, some (14, b, g), some (15, b, g), some (16, b, g), some (17, b, g), some (18, b, g)])),
  (11, fun _ _ => .inl (4, [none, none, none, none, none, none, none, none])),
  (2, fun b _ => .inr (.inr (2, 8, fun g => (9, b, g)))),
  (4, fun b _ => .inr (.inr (4, 12, fun w => (11, b, w)))),
  (14, fun _ _ => .inr (.inl (0, 12))), (18, fun _ _ => .inr (.inl (0, 12))), (15, fun _ _ => .inr (.inl (0, 12))), (16, fun _ _ => .inr (.inl (0, 12))), (17, fun _ _ => .inr (.inl (0, 12))),
  (0, fun _ _ => .inl (0, [some (1, 0, 0), some (1, 1, 0)])),
  (3, fun b _ => .inr (.inr (3, 3, fun s => (10, b, s)))),
  (10, fun _ _ => .inl (3, [none, none])),
  (5, fun b j => .inl (2, [some (7, b, j), some (13, b, j), some (8, b, j), none])),
  (6, fun _ _ => .inr (.inl (0, 16))), (12, fun _ _ => .inr (.inl (0, 12))),
  (7, fun _ _ => .inr (.inl (0, 5))), (13, fun _ _ => .inr (.inl (0, 5))), (8, fun _ _ => .inr (.inl (1, 5)))]
def ww_shp : vgN → vgH := fun n => match vg_look ww_shl n.1 with
  | some f => f n.2.1 n.2.2
  | none => .inr (.inl (0, 0))
def ww_nm1 (b : Nat) : List vgN := [(1, b, 0), (2, b, 0), (3, b, 0), (4, b, 0), (5, b, 0), (5, b, 1), (6, b, 0), (12, b, 0), (7, b, 0), (7, b, 1), (13, b, 0), (13, b, 1), (8, b, 0), (8, b, 1)] ++ ((List.range 8).flatMap (fun g => [(9, b, g), (14, b, g), (15, b, g), (16, b, g), (17, b, g), (18, b, g)]) ++ ((List.range 3).map (fun s => (10, b, s)) ++ (List.range 12).map (fun w => (11, b, w))))
def ww_nm : List vgN := (0, 0, 0) :: (ww_nm1 0 ++ ww_nm1 1)
def vg_closedB (shp : vgN → vgH) (nm : List vgN) (n : vgN) : Bool := match shp n with
  | .inl q => q.2.all (fun o => match o with | none => true | some m => nm.elem m)
  | .inr (.inl _) => true
  | .inr (.inr q) => (List.range q.2.1).all (fun i => nm.elem (q.2.2 i))
theorem vg_closed_of {shp : vgN → vgH} {nm : List vgN} (h : nm.all (vg_closedB shp nm) = true) : vg_closed shp nm := by
  intro n hn
  have h1 := List.all_eq_true.mp h n hn
  unfold vg_closedB at h1
  split at h1
  next q hq =>
    rw [hq]
    intro m hm
    have h2 := List.all_eq_true.mp h1 _ hm
    exact List.elem_iff.mp h2
  next q hq => rw [hq]; trivial
  next q hq =>
    rw [hq]
    intro i hi
    have h2 := List.all_eq_true.mp h1 i (List.mem_range.mpr hi)
    exact List.elem_iff.mp h2
theorem ww_closed : vg_closed ww_shp ww_nm := vg_closed_of (by decide +kernel)
def ww_tb : List Cond := lw_tbl.filter goodWord
theorem ww_good : ww_tb.all goodWord = true := List.all_eq_true.mpr (fun w h => (List.mem_filter.mp h).2)
theorem ww_in (ws : List Cond) (h : ws.all (fun w => decide (w ∈ ww_tb)) = true) : ∀ w ∈ ws, w ∈ ww_tb := fun w hw => of_decide_eq_true (List.all_eq_true.mp h w hw)
theorem ww_inX0 : ∀ w ∈ u_ws RX0 TX0 13, w ∈ ww_tb := ww_in _ (by decide +kernel)
theorem ww_inX1 : ∀ w ∈ u_ws RX1 TX1 14, w ∈ ww_tb := ww_in _ (by decide +kernel)
theorem ww_inX2 : ∀ w ∈ u_ws RX2 TX2 4, w ∈ ww_tb := ww_in _ (by decide +kernel)
theorem ww_inX3 : ∀ w ∈ u_ws RX3 TX3 2, w ∈ ww_tb := ww_in _ (by decide +kernel)
theorem ww_inX4 : ∀ w ∈ u_ws RX4 TX4 8, w ∈ ww_tb := ww_in _ (by decide +kernel)
theorem ww_inX5 : ∀ w ∈ u_ws RX5 TX5 2, w ∈ ww_tb := ww_in _ (by decide +kernel)
/-- the links to private members of nest mates -/
def ww_nw : List (String × Nat × MethodName × String) := [(RX0, 65, yX5_isIn, "WarnWave"), (RX1, 130, yX5_isIn, "WarnWave"), (RX1, 239, yX5_distance, "WarnWave"), (RX1, 257, yX5_stepTowards, "WarnWave"), (RX2, 26, yX5_distance, "WarnWave")]
