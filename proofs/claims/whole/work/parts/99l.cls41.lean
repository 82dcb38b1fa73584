/-! objects are made (3): the constructors -/
def ctF (B : zB) (a : Nat → Nat) : va_W := [((a 0), .inr (0, [.ref (a 1), .int 0, .int 0, .int 0, .int 0, .int 0])), ((a 1), .inl (zcy B 1, 8, .inl (fun _ => 0)))]
set_option maxHeartbeats 4000000 in
set_option maxRecDepth 100000 in
theorem n_X0_init {B : zB} (w0 : va_W) (q0 : Nat) : zCn B w0 q0 (.inr (0, [.null, .int 0, .int 0, .int 0, .int 0, .int 0])) yX0_init cX0_init 1 1 1 8 [.ref q0] (fun w => ∃ a : Nat → Nat, a 0 = q0 ∧ w = ctF B a) := by
  refine zCn_of (by decide +kernel) rfl (Nat.le_of_ble_eq_true rfl) ?_
  intro X o hr hax hin kret
  show zV (zXc X 0 0) B (w0 ++ [(q0, .inr (0, [.null, .int 0, .int 0, .int 0, .int 0, .int 0]))]) 0 [(0, .ref q0)] []
  refine zV.of (z_aload_n (j := 0) ((o.xc hr (a := 0) (b := 0) (Nat.le_of_ble_eq_true rfl) (Nat.le_of_ble_eq_true rfl)).bw _) dX0_init_0 rfl (zV.to ?_))
  refine zv_obj (o.xc hr (a := 0) (b := 0) (Nat.le_of_ble_eq_true rfl) (Nat.le_of_ble_eq_true rfl)) (by decide) dX0_init_1 (zTB_in (k := 111) (by decide +kernel) rfl) zoj_i zoj_c (Nat.le_of_ble_eq_true rfl) ?_
  refine zV.of (z_aload_n (j := 0) ((o.xc hr (a := 0) (b := 0) (Nat.le_of_ble_eq_true rfl) (Nat.le_of_ble_eq_true rfl)).bw _) dX0_init_4 rfl (zV.to ?_))
  refine zV.of (z_bipush (v := 8) ((o.xc hr (a := 0) (b := 0) (Nat.le_of_ble_eq_true rfl) (Nat.le_of_ble_eq_true rfl)).bw _) dX0_init_5 (by decide) (zV.to ?_))
  refine zv_newa (t := 1) (N' := 8) (ty := .int) (8, .inl (fun _ => 0)) o hr dX0_init_7 rfl (zTB_in (k := 142) (by decide +kernel) rfl) rfl (fun _ => rfl) (by decide) (by decide) (Nat.le_of_ble_eq_true rfl) (Nat.le_of_ble_eq_true rfl) (Nat.le_of_ble_eq_true rfl) (fun q1 => ?_)
  refine zv_asc ?_
  show zV (zXc X 1 8) B (w0 ++ [(q0, .inr (0, [.null, .int 0, .int 0, .int 0, .int 0, .int 0])), (q1, .inl (zcy B 1, 8, .inl (fun _ => 0)))]) 9 [(0, .ref q0)] [.ref q1, .ref q0]
  refine zv_putF (j := 0) (o.xc hr (a := 1) (b := 8) (Nat.le_of_ble_eq_true rfl) (Nat.le_of_ble_eq_true rfl)) hin dX0_init_9 zp_X0_11 rfl rfl rfl (Nat.le_of_ble_eq_true rfl) ?_
  show zV (zXc X 1 8) B (w0 ++ [(q0, .inr (0, [.ref q1, .int 0, .int 0, .int 0, .int 0, .int 0])), (q1, .inl (zcy B 1, 8, .inl (fun _ => 0)))]) 12 [(0, .ref q0)] []
  exact kret [(q0, .inr (0, [.ref q1, .int 0, .int 0, .int 0, .int 0, .int 0])), (q1, .inl (zcy B 1, 8, .inl (fun _ => 0)))] _ _ dX0_init_12 ⟨fun k => [q0, q1].getD k 0, rfl, rfl⟩

def ctL (B : zB) (u : Int32) (a : Nat → Nat) : va_W := [((a 0), .inr (1, [.int u, .ref (a 1), .ref (a 2), .int 0])), ((a 1), .inl (zcy B 1, 60, .inl (fun _ => 0))), ((a 2), .inl (zcy B 1, 60, .inl (fun _ => 0)))]
set_option maxHeartbeats 4000000 in
set_option maxRecDepth 100000 in
theorem n_X2_init {B : zB} (w0 : va_W) (q0 : Nat) (u : Int32) : zCn B w0 q0 (.inr (1, [.int 0, .null, .null, .int 0])) yX2_init cX2_init 2 1 2 120 [.ref q0, .int u] (fun w => ∃ a : Nat → Nat, a 0 = q0 ∧ w = ctL B u a) := by
  refine zCn_of (by decide +kernel) rfl (Nat.le_of_ble_eq_true rfl) ?_
  intro X o hr hax hin kret
  show zV (zXc X 0 0) B (w0 ++ [(q0, .inr (1, [.int 0, .null, .null, .int 0]))]) 0 [(0, .ref q0), (1, .int u)] []
  refine zV.of (z_aload_n (j := 0) ((o.xc hr (a := 0) (b := 0) (Nat.le_of_ble_eq_true rfl) (Nat.le_of_ble_eq_true rfl)).bw _) dX2_init_0 rfl (zV.to ?_))
  refine zv_obj (o.xc hr (a := 0) (b := 0) (Nat.le_of_ble_eq_true rfl) (Nat.le_of_ble_eq_true rfl)) (by decide) dX2_init_1 (zTB_in (k := 149) (by decide +kernel) rfl) zoj_i zoj_c (Nat.le_of_ble_eq_true rfl) ?_
  refine zV.of (z_aload_n (j := 0) ((o.xc hr (a := 0) (b := 0) (Nat.le_of_ble_eq_true rfl) (Nat.le_of_ble_eq_true rfl)).bw _) dX2_init_4 rfl (zV.to ?_))
  refine zV.of (z_bipush (v := 60) ((o.xc hr (a := 0) (b := 0) (Nat.le_of_ble_eq_true rfl) (Nat.le_of_ble_eq_true rfl)).bw _) dX2_init_5 (by decide) (zV.to ?_))
  refine zv_newa (t := 1) (N' := 60) (ty := .int) (60, .inl (fun _ => 0)) o hr dX2_init_7 rfl (zTB_in (k := 142) (by decide +kernel) rfl) rfl (fun _ => rfl) (by decide) (by decide) (Nat.le_of_ble_eq_true rfl) (Nat.le_of_ble_eq_true rfl) (Nat.le_of_ble_eq_true rfl) (fun q1 => ?_)
  refine zv_asc ?_
  show zV (zXc X 1 60) B (w0 ++ [(q0, .inr (1, [.int 0, .null, .null, .int 0])), (q1, .inl (zcy B 1, 60, .inl (fun _ => 0)))]) 9 [(0, .ref q0), (1, .int u)] [.ref q1, .ref q0]
  refine zv_putF (j := 0) (o.xc hr (a := 1) (b := 60) (Nat.le_of_ble_eq_true rfl) (Nat.le_of_ble_eq_true rfl)) hin dX2_init_9 zp_X2_9 rfl rfl rfl (Nat.le_of_ble_eq_true rfl) ?_
  show zV (zXc X 1 60) B (w0 ++ [(q0, .inr (1, [.int 0, .ref q1, .null, .int 0])), (q1, .inl (zcy B 1, 60, .inl (fun _ => 0)))]) 12 [(0, .ref q0), (1, .int u)] []
  refine zV.of (z_aload_n (j := 0) ((o.xc hr (a := 1) (b := 60) (Nat.le_of_ble_eq_true rfl) (Nat.le_of_ble_eq_true rfl)).bw _) dX2_init_12 rfl (zV.to ?_))
  refine zV.of (z_bipush (v := 60) ((o.xc hr (a := 1) (b := 60) (Nat.le_of_ble_eq_true rfl) (Nat.le_of_ble_eq_true rfl)).bw _) dX2_init_13 (by decide) (zV.to ?_))
  refine zv_newa (t := 1) (N' := 60) (ty := .int) (60, .inl (fun _ => 0)) o hr dX2_init_15 rfl (zTB_in (k := 142) (by decide +kernel) rfl) rfl (fun _ => rfl) (by decide) (by decide) (Nat.le_of_ble_eq_true rfl) (Nat.le_of_ble_eq_true rfl) (Nat.le_of_ble_eq_true rfl) (fun q2 => ?_)
  refine zv_asc ?_
  show zV (zXc X 2 120) B (w0 ++ [(q0, .inr (1, [.int 0, .ref q1, .null, .int 0])), (q1, .inl (zcy B 1, 60, .inl (fun _ => 0))), (q2, .inl (zcy B 1, 60, .inl (fun _ => 0)))]) 17 [(0, .ref q0), (1, .int u)] [.ref q2, .ref q0]
  refine zv_putF (j := 0) (o.xc hr (a := 2) (b := 120) (Nat.le_of_ble_eq_true rfl) (Nat.le_of_ble_eq_true rfl)) hin dX2_init_17 zp_X2_15 rfl rfl rfl (Nat.le_of_ble_eq_true rfl) ?_
  show zV (zXc X 2 120) B (w0 ++ [(q0, .inr (1, [.int 0, .ref q1, .ref q2, .int 0])), (q1, .inl (zcy B 1, 60, .inl (fun _ => 0))), (q2, .inl (zcy B 1, 60, .inl (fun _ => 0)))]) 20 [(0, .ref q0), (1, .int u)] []
  refine zV.of (z_aload_n (j := 0) ((o.xc hr (a := 2) (b := 120) (Nat.le_of_ble_eq_true rfl) (Nat.le_of_ble_eq_true rfl)).bw _) dX2_init_20 rfl (zV.to ?_))
  refine zV.of (z_iload_n (j := 1) ((o.xc hr (a := 2) (b := 120) (Nat.le_of_ble_eq_true rfl) (Nat.le_of_ble_eq_true rfl)).bw _) dX2_init_21 rfl (zV.to ?_))
  refine zv_putF (j := 0) (o.xc hr (a := 2) (b := 120) (Nat.le_of_ble_eq_true rfl) (Nat.le_of_ble_eq_true rfl)) hin dX2_init_22 zp_X2_18 rfl rfl rfl (Nat.le_of_ble_eq_true rfl) ?_
  show zV (zXc X 2 120) B (w0 ++ [(q0, .inr (1, [.int u, .ref q1, .ref q2, .int 0])), (q1, .inl (zcy B 1, 60, .inl (fun _ => 0))), (q2, .inl (zcy B 1, 60, .inl (fun _ => 0)))]) 25 [(0, .ref q0), (1, .int u)] []
  exact kret [(q0, .inr (1, [.int u, .ref q1, .ref q2, .int 0])), (q1, .inl (zcy B 1, 60, .inl (fun _ => 0))), (q2, .inl (zcy B 1, 60, .inl (fun _ => 0)))] _ _ dX2_init_25 ⟨fun k => [q0, q1, q2].getD k 0, rfl, rfl⟩

def ctS (B : zB) (a : Nat → Nat) : va_W := [((a 0), .inr (3, [.ref (a 1), .int 0, .int 0])), ((a 1), .inl (zcy B 1, 24, .inl (fun _ => 0)))]
set_option maxHeartbeats 4000000 in
set_option maxRecDepth 100000 in
theorem n_X4_init {B : zB} (w0 : va_W) (q0 : Nat) : zCn B w0 q0 (.inr (3, [.null, .int 0, .int 0])) yX4_init cX4_init 1 1 1 24 [.ref q0] (fun w => ∃ a : Nat → Nat, a 0 = q0 ∧ w = ctS B a) := by
  refine zCn_of (by decide +kernel) rfl (Nat.le_of_ble_eq_true rfl) ?_
  intro X o hr hax hin kret
  show zV (zXc X 0 0) B (w0 ++ [(q0, .inr (3, [.null, .int 0, .int 0]))]) 0 [(0, .ref q0)] []
  refine zV.of (z_aload_n (j := 0) ((o.xc hr (a := 0) (b := 0) (Nat.le_of_ble_eq_true rfl) (Nat.le_of_ble_eq_true rfl)).bw _) dX4_init_0 rfl (zV.to ?_))
  refine zv_obj (o.xc hr (a := 0) (b := 0) (Nat.le_of_ble_eq_true rfl) (Nat.le_of_ble_eq_true rfl)) (by decide) dX4_init_1 (zTB_in (k := 288) (by decide +kernel) rfl) zoj_i zoj_c (Nat.le_of_ble_eq_true rfl) ?_
  refine zV.of (z_aload_n (j := 0) ((o.xc hr (a := 0) (b := 0) (Nat.le_of_ble_eq_true rfl) (Nat.le_of_ble_eq_true rfl)).bw _) dX4_init_4 rfl (zV.to ?_))
  refine zV.of (z_bipush (v := 24) ((o.xc hr (a := 0) (b := 0) (Nat.le_of_ble_eq_true rfl) (Nat.le_of_ble_eq_true rfl)).bw _) dX4_init_5 (by decide) (zV.to ?_))
  refine zv_newa (t := 1) (N' := 24) (ty := .int) (24, .inl (fun _ => 0)) o hr dX4_init_7 rfl (zTB_in (k := 142) (by decide +kernel) rfl) rfl (fun _ => rfl) (by decide) (by decide) (Nat.le_of_ble_eq_true rfl) (Nat.le_of_ble_eq_true rfl) (Nat.le_of_ble_eq_true rfl) (fun q1 => ?_)
  refine zv_asc ?_
  show zV (zXc X 1 24) B (w0 ++ [(q0, .inr (3, [.null, .int 0, .int 0])), (q1, .inl (zcy B 1, 24, .inl (fun _ => 0)))]) 9 [(0, .ref q0)] [.ref q1, .ref q0]
  refine zv_putF (j := 0) (o.xc hr (a := 1) (b := 24) (Nat.le_of_ble_eq_true rfl) (Nat.le_of_ble_eq_true rfl)) hin dX4_init_9 zp_X4_9 rfl rfl rfl (Nat.le_of_ble_eq_true rfl) ?_
  show zV (zXc X 1 24) B (w0 ++ [(q0, .inr (3, [.ref q1, .int 0, .int 0])), (q1, .inl (zcy B 1, 24, .inl (fun _ => 0)))]) 12 [(0, .ref q0)] []
  exact kret [(q0, .inr (3, [.ref q1, .int 0, .int 0])), (q1, .inl (zcy B 1, 24, .inl (fun _ => 0)))] _ _ dX4_init_12 ⟨fun k => [q0, q1].getD k 0, rfl, rfl⟩

def ctT (B : zB) (a : Nat → Nat) : va_W := [((a 0), .inr (4, [.ref (a 1), .int 0, .ref (a 2), .int 0, .int 0, .ref (zsq B 0)])), ((a 1), .inl (zcy B 1, 60, .inl (fun _ => 0))), ((a 2), .inl (zcy B 0, 0, .inl (fun _ => 0)))]
set_option maxHeartbeats 4000000 in
set_option maxRecDepth 100000 in
theorem n_X5_init {B : zB} (w0 : va_W) (q0 : Nat) : zCn B w0 q0 (.inr (4, [.null, .int 0, .null, .int 0, .int 0, .null])) yX5_init cX5_init 1 1 2 60 [.ref q0] (fun w => ∃ a : Nat → Nat, a 0 = q0 ∧ w = ctT B a) := by
  refine zCn_of (by decide +kernel) rfl (Nat.le_of_ble_eq_true rfl) ?_
  intro X o hr hax hin kret
  show zV (zXc X 0 0) B (w0 ++ [(q0, .inr (4, [.null, .int 0, .null, .int 0, .int 0, .null]))]) 0 [(0, .ref q0)] []
  refine zV.of (z_aload_n (j := 0) ((o.xc hr (a := 0) (b := 0) (Nat.le_of_ble_eq_true rfl) (Nat.le_of_ble_eq_true rfl)).bw _) dX5_init_0 rfl (zV.to ?_))
  refine zv_obj (o.xc hr (a := 0) (b := 0) (Nat.le_of_ble_eq_true rfl) (Nat.le_of_ble_eq_true rfl)) (by decide) dX5_init_1 (zTB_in (k := 231) (by decide +kernel) rfl) zoj_i zoj_c (Nat.le_of_ble_eq_true rfl) ?_
  refine zV.of (z_aload_n (j := 0) ((o.xc hr (a := 0) (b := 0) (Nat.le_of_ble_eq_true rfl) (Nat.le_of_ble_eq_true rfl)).bw _) dX5_init_4 rfl (zV.to ?_))
  refine zV.of (z_bipush (v := 60) ((o.xc hr (a := 0) (b := 0) (Nat.le_of_ble_eq_true rfl) (Nat.le_of_ble_eq_true rfl)).bw _) dX5_init_5 (by decide) (zV.to ?_))
  refine zv_newa (t := 1) (N' := 60) (ty := .int) (60, .inl (fun _ => 0)) o hr dX5_init_7 rfl (zTB_in (k := 142) (by decide +kernel) rfl) rfl (fun _ => rfl) (by decide) (by decide) (Nat.le_of_ble_eq_true rfl) (Nat.le_of_ble_eq_true rfl) (Nat.le_of_ble_eq_true rfl) (fun q1 => ?_)
  refine zv_asc ?_
  show zV (zXc X 1 60) B (w0 ++ [(q0, .inr (4, [.null, .int 0, .null, .int 0, .int 0, .null])), (q1, .inl (zcy B 1, 60, .inl (fun _ => 0)))]) 9 [(0, .ref q0)] [.ref q1, .ref q0]
  refine zv_putF (j := 0) (o.xc hr (a := 1) (b := 60) (Nat.le_of_ble_eq_true rfl) (Nat.le_of_ble_eq_true rfl)) hin dX5_init_9 zp_X5_9 rfl rfl rfl (Nat.le_of_ble_eq_true rfl) ?_
  show zV (zXc X 1 60) B (w0 ++ [(q0, .inr (4, [.ref q1, .int 0, .null, .int 0, .int 0, .null])), (q1, .inl (zcy B 1, 60, .inl (fun _ => 0)))]) 12 [(0, .ref q0)] []
  refine zV.of (z_aload_n (j := 0) ((o.xc hr (a := 1) (b := 60) (Nat.le_of_ble_eq_true rfl) (Nat.le_of_ble_eq_true rfl)).bw _) dX5_init_12 rfl (zV.to ?_))
  refine zV.of (z_iconst (v := 0) ((o.xc hr (a := 1) (b := 60) (Nat.le_of_ble_eq_true rfl) (Nat.le_of_ble_eq_true rfl)).bw _) dX5_init_13 (by decide) (zV.to ?_))
  refine zv_newa (t := 0) (N' := 0) (ty := .byte) (0, .inl (fun _ => 0)) o hr dX5_init_14 rfl (zTB_in (k := 143) (by decide +kernel) rfl) rfl (fun _ => rfl) (by decide) (by decide) (Nat.le_of_ble_eq_true rfl) (Nat.le_of_ble_eq_true rfl) (Nat.le_of_ble_eq_true rfl) (fun q2 => ?_)
  refine zv_asc ?_
  show zV (zXc X 2 60) B (w0 ++ [(q0, .inr (4, [.ref q1, .int 0, .null, .int 0, .int 0, .null])), (q1, .inl (zcy B 1, 60, .inl (fun _ => 0))), (q2, .inl (zcy B 0, 0, .inl (fun _ => 0)))]) 16 [(0, .ref q0)] [.ref q2, .ref q0]
  refine zv_put (j := 0) (o.xc hr (a := 2) (b := 60) (Nat.le_of_ble_eq_true rfl) (Nat.le_of_ble_eq_true rfl)) dX5_init_16 zp_X5_15 rfl rfl rfl (Nat.le_of_ble_eq_true rfl) ?_
  show zV (zXc X 2 60) B (w0 ++ [(q0, .inr (4, [.ref q1, .int 0, .ref q2, .int 0, .int 0, .null])), (q1, .inl (zcy B 1, 60, .inl (fun _ => 0))), (q2, .inl (zcy B 0, 0, .inl (fun _ => 0)))]) 19 [(0, .ref q0)] []
  refine zV.of (z_aload_n (j := 0) ((o.xc hr (a := 2) (b := 60) (Nat.le_of_ble_eq_true rfl) (Nat.le_of_ble_eq_true rfl)).bw _) dX5_init_19 rfl (zV.to ?_))
  refine zV.of (z_ldcS (k := 0) ((o.xc hr (a := 2) (b := 60) (Nat.le_of_ble_eq_true rfl) (Nat.le_of_ble_eq_true rfl)).bw _) dX5_init_20 zSt_nil (zV.to ?_))
  refine zv_put (j := 0) (o.xc hr (a := 2) (b := 60) (Nat.le_of_ble_eq_true rfl) (Nat.le_of_ble_eq_true rfl)) dX5_init_22 zp_X5_21 rfl rfl rfl (Nat.le_of_ble_eq_true rfl) ?_
  show zV (zXc X 2 60) B (w0 ++ [(q0, .inr (4, [.ref q1, .int 0, .ref q2, .int 0, .int 0, .ref (zsq B 0)])), (q1, .inl (zcy B 1, 60, .inl (fun _ => 0))), (q2, .inl (zcy B 0, 0, .inl (fun _ => 0)))]) 25 [(0, .ref q0)] []
  exact kret [(q0, .inr (4, [.ref q1, .int 0, .ref q2, .int 0, .int 0, .ref (zsq B 0)])), (q1, .inl (zcy B 1, 60, .inl (fun _ => 0))), (q2, .inl (zcy B 0, 0, .inl (fun _ => 0)))] _ _ dX5_init_25 ⟨fun k => [q0, q1, q2].getD k 0, rfl, rfl⟩

def ctV (B : zB) (a : Nat → Nat) : va_W := [((a 0), .inr (5, [.ref (a 1), .int 0, .int 0, .int 0, .int 0, .int 0])), ((a 1), .inl (zcy B 1, 30, .inl (fun _ => 0)))]
set_option maxHeartbeats 4000000 in
set_option maxRecDepth 100000 in
theorem n_X6_init {B : zB} (w0 : va_W) (q0 : Nat) : zCn B w0 q0 (.inr (5, [.null, .int 0, .int 0, .int 0, .int 0, .int 0])) yX6_init cX6_init 1 1 1 30 [.ref q0] (fun w => ∃ a : Nat → Nat, a 0 = q0 ∧ w = ctV B a) := by
  refine zCn_of (by decide +kernel) rfl (Nat.le_of_ble_eq_true rfl) ?_
  intro X o hr hax hin kret
  show zV (zXc X 0 0) B (w0 ++ [(q0, .inr (5, [.null, .int 0, .int 0, .int 0, .int 0, .int 0]))]) 0 [(0, .ref q0)] []
  refine zV.of (z_aload_n (j := 0) ((o.xc hr (a := 0) (b := 0) (Nat.le_of_ble_eq_true rfl) (Nat.le_of_ble_eq_true rfl)).bw _) dX6_init_0 rfl (zV.to ?_))
  refine zv_obj (o.xc hr (a := 0) (b := 0) (Nat.le_of_ble_eq_true rfl) (Nat.le_of_ble_eq_true rfl)) (by decide) dX6_init_1 (zTB_in (k := 259) (by decide +kernel) rfl) zoj_i zoj_c (Nat.le_of_ble_eq_true rfl) ?_
  refine zV.of (z_aload_n (j := 0) ((o.xc hr (a := 0) (b := 0) (Nat.le_of_ble_eq_true rfl) (Nat.le_of_ble_eq_true rfl)).bw _) dX6_init_4 rfl (zV.to ?_))
  refine zV.of (z_bipush (v := 30) ((o.xc hr (a := 0) (b := 0) (Nat.le_of_ble_eq_true rfl) (Nat.le_of_ble_eq_true rfl)).bw _) dX6_init_5 (by decide) (zV.to ?_))
  refine zv_newa (t := 1) (N' := 30) (ty := .int) (30, .inl (fun _ => 0)) o hr dX6_init_7 rfl (zTB_in (k := 142) (by decide +kernel) rfl) rfl (fun _ => rfl) (by decide) (by decide) (Nat.le_of_ble_eq_true rfl) (Nat.le_of_ble_eq_true rfl) (Nat.le_of_ble_eq_true rfl) (fun q1 => ?_)
  refine zv_asc ?_
  show zV (zXc X 1 30) B (w0 ++ [(q0, .inr (5, [.null, .int 0, .int 0, .int 0, .int 0, .int 0])), (q1, .inl (zcy B 1, 30, .inl (fun _ => 0)))]) 9 [(0, .ref q0)] [.ref q1, .ref q0]
  refine zv_putF (j := 0) (o.xc hr (a := 1) (b := 30) (Nat.le_of_ble_eq_true rfl) (Nat.le_of_ble_eq_true rfl)) hin dX6_init_9 zp_X6_11 rfl rfl rfl (Nat.le_of_ble_eq_true rfl) ?_
  show zV (zXc X 1 30) B (w0 ++ [(q0, .inr (5, [.ref q1, .int 0, .int 0, .int 0, .int 0, .int 0])), (q1, .inl (zcy B 1, 30, .inl (fun _ => 0)))]) 12 [(0, .ref q0)] []
  exact kret [(q0, .inr (5, [.ref q1, .int 0, .int 0, .int 0, .int 0, .int 0])), (q1, .inl (zcy B 1, 30, .inl (fun _ => 0)))] _ _ dX6_init_12 ⟨fun k => [q0, q1].getD k 0, rfl, rfl⟩

