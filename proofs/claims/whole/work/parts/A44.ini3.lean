set_option maxRecDepth 100000 in
set_option maxHeartbeats 4000000 in
theorem ct_X3_init {l : Launch} {D : va_G} {d0 : Nat}  : Ct (S := Nat × Nat × Nat × Nat × Nat × Nat) l D yX3_init cX3_init 1 none 2 61 6 249 [.ref d0] [(d0, .inr (4, [.null, .int 0, .int 0, .int 0, .int 0, .int 0, .null]))] (fun (rv : Option Value) (ugh : Nat × Nat × Nat × Nat × Nat × Nat) => match ugh with | (n1, n2, m1, m2, m3, m4) => rv = none) (fun (ugh : Nat × Nat × Nat × Nat × Nat × Nat) => match ugh with | (n1, n2, m1, m2, m3, m4) => ([(d0, .inr (4, [.ref n1, .int (nI 0), .int (nI 0), .int (nI 0), .int (nI 0), .int (-1), .ref n2])), (n1, .inl (D.1 101, 150, .inl (fun _ => 0))), (n2, .inr (6, [.int (nI 0), .ref m1, .ref m2, .ref m3, .ref m4, .int (nI 0)])), (m1, .inl (D.1 100, 16, .inl (sE r0))), (m2, .inl (D.1 100, 8, .inl (sB r0))), (m3, .inl (D.1 100, 5, .inl (sT r0))), (m4, .inl (D.1 100, 64, .inl (sG r0)))] : va_W)) := by
  refine Ct.ofG (by decide) (Nat.le_of_ble_eq_true rfl) ?_
  intro X hX
  have hX : CX X l D RX3 "<init>" cX3_init 1 none 2 61 6 249 := hX
  show G X (QM X 6 249 (fun (rv : Option Value) (ugh : Nat × Nat × Nat × Nat × Nat × Nat) => match ugh with | (n1, n2, m1, m2, m3, m4) => rv = none) (fun (ugh : Nat × Nat × Nat × Nat × Nat × Nat) => match ugh with | (n1, n2, m1, m2, m3, m4) => ([(d0, .inr (4, [.ref n1, .int (nI 0), .int (nI 0), .int (nI 0), .int (nI 0), .int (-1), .ref n2])), (n1, .inl (D.1 101, 150, .inl (fun _ => 0))), (n2, .inr (6, [.int (nI 0), .ref m1, .ref m2, .ref m3, .ref m4, .int (nI 0)])), (m1, .inl (D.1 100, 16, .inl (sE r0))), (m2, .inl (D.1 100, 8, .inl (sB r0))), (m3, .inl (D.1 100, 5, .inl (sT r0))), (m4, .inl (D.1 100, 64, .inl (sG r0)))] : va_W))) [(d0, .inr (4, [.null, .int 0, .int 0, .int 0, .int 0, .int 0, .null]))] 0 0 0 [some (.ref d0)] []
  generalize hQ : QM X 6 249 (fun (rv : Option Value) (ugh : Nat × Nat × Nat × Nat × Nat × Nat) => match ugh with | (n1, n2, m1, m2, m3, m4) => rv = none) (fun (ugh : Nat × Nat × Nat × Nat × Nat × Nat) => match ugh with | (n1, n2, m1, m2, m3, m4) => ([(d0, .inr (4, [.ref n1, .int (nI 0), .int (nI 0), .int (nI 0), .int (nI 0), .int (-1), .ref n2])), (n1, .inl (D.1 101, 150, .inl (fun _ => 0))), (n2, .inr (6, [.int (nI 0), .ref m1, .ref m2, .ref m3, .ref m4, .int (nI 0)])), (m1, .inl (D.1 100, 16, .inl (sE r0))), (m2, .inl (D.1 100, 8, .inl (sB r0))), (m3, .inl (D.1 100, 5, .inl (sT r0))), (m4, .inl (D.1 100, 64, .inl (sG r0)))] : va_W)) = Q
  refine g_aload_n hX dX3_init_0 rfl ?_
  refine g_objInit hX dX3_init_1 ml_X3_3 tw_oi tw_oc (by decide) (Nat.le_of_ble_eq_true rfl) ?_
  refine g_aload_n hX dX3_init_4 rfl ?_
  refine g_sipush hX dX3_init_5 kn_s_150 ?_
  refine g_newc hX dX3_init_8 tw_arr_char (by decide) (by decide) (by decide) (fun n1 => ?_)
  show G X Q [(d0, .inr (4, [.null, .int 0, .int 0, .int 0, .int 0, .int 0, .null])), (n1, .inl (D.1 101, 150, .inl (fun _ => 0)))] 1 150 10 [some (.ref d0)] [.ref n1, .ref d0]
  refine g_putF (ws' := [(d0, .inr (4, [.ref n1, .int 0, .int 0, .int 0, .int 0, .int 0, .null])), (n1, .inl (D.1 101, 150, .inl (fun _ => 0)))]) hX dX3_init_10 ff_X3_9 0 rfl (Nat.le_of_ble_eq_true rfl) rfl rfl rfl ?_
  refine g_aload_n hX dX3_init_13 rfl ?_
  refine g_iconst hX dX3_init_14 kn_i_0 ?_
  refine g_puti (ws' := [(d0, .inr (4, [.ref n1, .int (nI 0), .int 0, .int 0, .int 0, .int 0, .null])), (n1, .inl (D.1 101, 150, .inl (fun _ => 0)))]) hX dX3_init_15 fp_X3_15 0 rfl (Nat.le_of_ble_eq_true rfl) rfl ?_
  refine g_aload_n hX dX3_init_18 rfl ?_
  refine g_iconst hX dX3_init_19 kn_i_0 ?_
  refine g_puti (ws' := [(d0, .inr (4, [.ref n1, .int (nI 0), .int (nI 0), .int 0, .int 0, .int 0, .null])), (n1, .inl (D.1 101, 150, .inl (fun _ => 0)))]) hX dX3_init_20 fp_X3_19 0 rfl (Nat.le_of_ble_eq_true rfl) rfl ?_
  refine g_aload_n hX dX3_init_23 rfl ?_
  refine g_iconst hX dX3_init_24 kn_i_0 ?_
  refine g_puti (ws' := [(d0, .inr (4, [.ref n1, .int (nI 0), .int (nI 0), .int (nI 0), .int 0, .int 0, .null])), (n1, .inl (D.1 101, 150, .inl (fun _ => 0)))]) hX dX3_init_25 fp_X3_22 0 rfl (Nat.le_of_ble_eq_true rfl) rfl ?_
  refine g_aload_n hX dX3_init_28 rfl ?_
  refine g_iconst hX dX3_init_29 kn_i_0 ?_
  refine g_puti (ws' := [(d0, .inr (4, [.ref n1, .int (nI 0), .int (nI 0), .int (nI 0), .int (nI 0), .int 0, .null])), (n1, .inl (D.1 101, 150, .inl (fun _ => 0)))]) hX dX3_init_30 fp_X3_25 0 rfl (Nat.le_of_ble_eq_true rfl) rfl ?_
  refine g_aload_n hX dX3_init_33 rfl ?_
  refine g_iconst hX dX3_init_34 kn_i_m1 ?_
  refine g_puti (ws' := [(d0, .inr (4, [.ref n1, .int (nI 0), .int (nI 0), .int (nI 0), .int (nI 0), .int (-1), .null])), (n1, .inl (D.1 101, 150, .inl (fun _ => 0)))]) hX dX3_init_35 fp_X3_28 0 rfl (Nat.le_of_ble_eq_true rfl) rfl ?_
  refine g_aload_n hX dX3_init_38 rfl ?_
  refine g_new (fs := [.int 0, .null, .null, .null, .null, .int 0]) hX dX3_init_39 ck_X5 tw_cl_X3_31 tw_ins_X5 tw_ini_X5 (by decide) (by decide) (by decide) (fun n2 => ?_)
  show G X Q [(d0, .inr (4, [.ref n1, .int (nI 0), .int (nI 0), .int (nI 0), .int (nI 0), .int (-1), .null])), (n1, .inl (D.1 101, 150, .inl (fun _ => 0))), (n2, .inr (6, [.int 0, .null, .null, .null, .null, .int 0]))] 2 156 42 [some (.ref d0)] [.ref n2, .ref d0]
  refine g_dup hX dX3_init_42 rfl ?_
  refine g_callJ (fun ugh => match ugh with | (g_n1, g_n2, g_n3, g_n4) => ([(n2, .inr (6, [.int (nI 0), .ref g_n1, .ref g_n2, .ref g_n3, .ref g_n4, .int (nI 0)]))] : va_W)) (fun ugh => match ugh with | (g_n1, g_n2, g_n3, g_n4) => ([(g_n1, .inl (D.1 100, 16, .inl (sE r0))), (g_n2, .inl (D.1 100, 8, .inl (sB r0))), (g_n3, .inl (D.1 100, 5, .inl (sT r0))), (g_n4, .inl (D.1 100, 64, .inl (sG r0)))] : va_W)) (fun ⟨_, _, _, _⟩ => rfl) hX dX3_init_43 ci_X3_33 tw_ini_X5 rfl ⟨by decide, by decide, rfl⟩ ct_X5_init [2] rfl rfl (by decide) rfl (fun ⟨_, _, _, _⟩ => rfl) ⟨by decide, by decide⟩ (Nat.le_of_ble_eq_true rfl) ⟨by decide, by decide⟩ (fun vgh ugh hp => ?_)
  obtain ⟨n1_43_2, n2_43_2, n3_43_2, n4_43_2⟩ := ugh
  obtain rfl := hp
  show G X Q [(d0, .inr (4, [.ref n1, .int (nI 0), .int (nI 0), .int (nI 0), .int (nI 0), .int (-1), .null])), (n1, .inl (D.1 101, 150, .inl (fun _ => 0))), (n2, .inr (6, [.int (nI 0), .ref n1_43_2, .ref n2_43_2, .ref n3_43_2, .ref n4_43_2, .int (nI 0)])), (n1_43_2, .inl (D.1 100, 16, .inl (sE r0))), (n2_43_2, .inl (D.1 100, 8, .inl (sB r0))), (n3_43_2, .inl (D.1 100, 5, .inl (sT r0))), (n4_43_2, .inl (D.1 100, 64, .inl (sG r0)))] 6 249 46 [some (.ref d0)] [.ref n2, .ref d0]
  refine g_putF (ws' := [(d0, .inr (4, [.ref n1, .int (nI 0), .int (nI 0), .int (nI 0), .int (nI 0), .int (-1), .ref n2])), (n1, .inl (D.1 101, 150, .inl (fun _ => 0))), (n2, .inr (6, [.int (nI 0), .ref n1_43_2, .ref n2_43_2, .ref n3_43_2, .ref n4_43_2, .int (nI 0)])), (n1_43_2, .inl (D.1 100, 16, .inl (sE r0))), (n2_43_2, .inl (D.1 100, 8, .inl (sB r0))), (n3_43_2, .inl (D.1 100, 5, .inl (sT r0))), (n4_43_2, .inl (D.1 100, 64, .inl (sG r0)))]) hX dX3_init_46 ff_X3_34 0 rfl (Nat.le_of_ble_eq_true rfl) rfl rfl rfl ?_
  subst hQ
  exact g_vretU hX dX3_init_49 (n1, n2, n1_43_2, n2_43_2, n3_43_2, n4_43_2) (rfl) rfl (Nat.le_of_ble_eq_true rfl) (Nat.le_of_ble_eq_true rfl)
