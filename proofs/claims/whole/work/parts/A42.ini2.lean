theorem w0_r (k : Nat) : upd (upd (upd (upd (fun _ => 0) 1 (nI 4)) 2 (nI 2)) 3 (nI 9)) 4 (nI 30) k = r0 k := by
  unfold r0
  rw [upd_at, upd_at, upd_at, upd_at]
  by_cases h1 : k = 1
  · subst h1; rfl
  · by_cases h2 : k = 2
    · subst h2; rfl
    · by_cases h3 : k = 3
      · subst h3; rfl
      · by_cases h4 : k = 4
        · subst h4; rfl
        · rw [if_neg h4, if_neg h3, if_neg h2, if_neg h1, if_neg h1, if_neg h2, if_neg h3, if_neg h4]; rfl
set_option maxRecDepth 100000 in
set_option maxHeartbeats 4000000 in
theorem ct_X1_init {l : Launch} {D : va_G} {p0 : Nat}  : Ct (S := Nat × Nat × Nat) l D yX1_init cX1_init 1 none 1 40 3 24 [.ref p0] [(p0, .inr (2, [.null, .int 0, .null, .null]))] (fun (rv : Option Value) (ugh : Nat × Nat × Nat) => match ugh with | (n1, n2, n3) => rv = none) (fun (ugh : Nat × Nat × Nat) => match ugh with | (n1, n2, n3) => ([(p0, .inr (2, [.ref n1, .int (nI 0), .ref n2, .ref n3])), (n1, .inl (D.1 100, 8, .inl (fun _ => 0))), (n2, .inl (D.1 100, 8, .inl (fun _ => 0))), (n3, .inl (D.1 100, 8, .inl (fun _ => 0)))] : va_W)) := by
  refine Ct.ofG (by decide) (Nat.le_of_ble_eq_true rfl) ?_
  intro X hX
  have hX : CX X l D RX1 "<init>" cX1_init 1 none 1 40 3 24 := hX
  show G X (QM X 3 24 (fun (rv : Option Value) (ugh : Nat × Nat × Nat) => match ugh with | (n1, n2, n3) => rv = none) (fun (ugh : Nat × Nat × Nat) => match ugh with | (n1, n2, n3) => ([(p0, .inr (2, [.ref n1, .int (nI 0), .ref n2, .ref n3])), (n1, .inl (D.1 100, 8, .inl (fun _ => 0))), (n2, .inl (D.1 100, 8, .inl (fun _ => 0))), (n3, .inl (D.1 100, 8, .inl (fun _ => 0)))] : va_W))) [(p0, .inr (2, [.null, .int 0, .null, .null]))] 0 0 0 [some (.ref p0)] []
  generalize hQ : QM X 3 24 (fun (rv : Option Value) (ugh : Nat × Nat × Nat) => match ugh with | (n1, n2, n3) => rv = none) (fun (ugh : Nat × Nat × Nat) => match ugh with | (n1, n2, n3) => ([(p0, .inr (2, [.ref n1, .int (nI 0), .ref n2, .ref n3])), (n1, .inl (D.1 100, 8, .inl (fun _ => 0))), (n2, .inl (D.1 100, 8, .inl (fun _ => 0))), (n3, .inl (D.1 100, 8, .inl (fun _ => 0)))] : va_W)) = Q
  refine g_aload_n hX dX1_init_0 rfl ?_
  refine g_objInit hX dX1_init_1 ml_X1_3 tw_oi tw_oc (by decide) (Nat.le_of_ble_eq_true rfl) ?_
  refine g_aload_n hX dX1_init_4 rfl ?_
  refine g_bipush hX dX1_init_5 kn_b_8 ?_
  refine g_newi hX dX1_init_7 tw_arr_int (by decide) (by decide) (by decide) (fun n1 => ?_)
  show G X Q [(p0, .inr (2, [.null, .int 0, .null, .null])), (n1, .inl (D.1 100, 8, .inl (fun _ => 0)))] 1 8 9 [some (.ref p0)] [.ref n1, .ref p0]
  refine g_putF (ws' := [(p0, .inr (2, [.ref n1, .int 0, .null, .null])), (n1, .inl (D.1 100, 8, .inl (fun _ => 0)))]) hX dX1_init_9 ff_X1_9 0 rfl (Nat.le_of_ble_eq_true rfl) rfl rfl rfl ?_
  refine g_aload_n hX dX1_init_12 rfl ?_
  refine g_iconst hX dX1_init_13 kn_i_0 ?_
  refine g_puti (ws' := [(p0, .inr (2, [.ref n1, .int (nI 0), .null, .null])), (n1, .inl (D.1 100, 8, .inl (fun _ => 0)))]) hX dX1_init_14 fp_X1_15 0 rfl (Nat.le_of_ble_eq_true rfl) rfl ?_
  refine g_aload_n hX dX1_init_17 rfl ?_
  refine g_bipush hX dX1_init_18 kn_b_8 ?_
  refine g_newi hX dX1_init_20 tw_arr_int (by decide) (by decide) (by decide) (fun n2 => ?_)
  show G X Q [(p0, .inr (2, [.ref n1, .int (nI 0), .null, .null])), (n1, .inl (D.1 100, 8, .inl (fun _ => 0))), (n2, .inl (D.1 100, 8, .inl (fun _ => 0)))] 2 16 22 [some (.ref p0)] [.ref n2, .ref p0]
  refine g_putF (ws' := [(p0, .inr (2, [.ref n1, .int (nI 0), .ref n2, .null])), (n1, .inl (D.1 100, 8, .inl (fun _ => 0))), (n2, .inl (D.1 100, 8, .inl (fun _ => 0)))]) hX dX1_init_22 ff_X1_19 0 rfl (Nat.le_of_ble_eq_true rfl) rfl rfl rfl ?_
  refine g_aload_n hX dX1_init_25 rfl ?_
  refine g_bipush hX dX1_init_26 kn_b_8 ?_
  refine g_newi hX dX1_init_28 tw_arr_int (by decide) (by decide) (by decide) (fun n3 => ?_)
  show G X Q [(p0, .inr (2, [.ref n1, .int (nI 0), .ref n2, .null])), (n1, .inl (D.1 100, 8, .inl (fun _ => 0))), (n2, .inl (D.1 100, 8, .inl (fun _ => 0))), (n3, .inl (D.1 100, 8, .inl (fun _ => 0)))] 3 24 30 [some (.ref p0)] [.ref n3, .ref p0]
  refine g_putF (ws' := [(p0, .inr (2, [.ref n1, .int (nI 0), .ref n2, .ref n3])), (n1, .inl (D.1 100, 8, .inl (fun _ => 0))), (n2, .inl (D.1 100, 8, .inl (fun _ => 0))), (n3, .inl (D.1 100, 8, .inl (fun _ => 0)))]) hX dX1_init_30 ff_X1_22 0 rfl (Nat.le_of_ble_eq_true rfl) rfl rfl rfl ?_
  subst hQ
  exact g_vretU hX dX1_init_33 (n1, n2, n3) (rfl) rfl (Nat.le_of_ble_eq_true rfl) (Nat.le_of_ble_eq_true rfl)
set_option maxRecDepth 100000 in
set_option maxHeartbeats 4000000 in
theorem ct_X0_init {l : Launch} {D : va_G} {b0 : Nat}  : Ct (S := Nat × Nat × Nat) l D yX0_init cX0_init 1 none 1 40 3 60 [.ref b0] [(b0, .inr (1, [.null, .null, .null, .int 0]))] (fun (rv : Option Value) (ugh : Nat × Nat × Nat) => match ugh with | (n1, n2, n3) => rv = none) (fun (ugh : Nat × Nat × Nat) => match ugh with | (n1, n2, n3) => ([(b0, .inr (1, [.ref n1, .ref n2, .ref n3, .int (nI 0)])), (n1, .inl (D.1 100, 20, .inl (fun _ => 0))), (n2, .inl (D.1 100, 20, .inl (fun _ => 0))), (n3, .inl (D.1 100, 20, .inl (fun _ => 0)))] : va_W)) := by
  refine Ct.ofG (by decide) (Nat.le_of_ble_eq_true rfl) ?_
  intro X hX
  have hX : CX X l D RX0 "<init>" cX0_init 1 none 1 40 3 60 := hX
  show G X (QM X 3 60 (fun (rv : Option Value) (ugh : Nat × Nat × Nat) => match ugh with | (n1, n2, n3) => rv = none) (fun (ugh : Nat × Nat × Nat) => match ugh with | (n1, n2, n3) => ([(b0, .inr (1, [.ref n1, .ref n2, .ref n3, .int (nI 0)])), (n1, .inl (D.1 100, 20, .inl (fun _ => 0))), (n2, .inl (D.1 100, 20, .inl (fun _ => 0))), (n3, .inl (D.1 100, 20, .inl (fun _ => 0)))] : va_W))) [(b0, .inr (1, [.null, .null, .null, .int 0]))] 0 0 0 [some (.ref b0)] []
  generalize hQ : QM X 3 60 (fun (rv : Option Value) (ugh : Nat × Nat × Nat) => match ugh with | (n1, n2, n3) => rv = none) (fun (ugh : Nat × Nat × Nat) => match ugh with | (n1, n2, n3) => ([(b0, .inr (1, [.ref n1, .ref n2, .ref n3, .int (nI 0)])), (n1, .inl (D.1 100, 20, .inl (fun _ => 0))), (n2, .inl (D.1 100, 20, .inl (fun _ => 0))), (n3, .inl (D.1 100, 20, .inl (fun _ => 0)))] : va_W)) = Q
  refine g_aload_n hX dX0_init_0 rfl ?_
  refine g_objInit hX dX0_init_1 ml_X0_3 tw_oi tw_oc (by decide) (Nat.le_of_ble_eq_true rfl) ?_
  refine g_aload_n hX dX0_init_4 rfl ?_
  refine g_bipush hX dX0_init_5 kn_b_20 ?_
  refine g_newi hX dX0_init_7 tw_arr_int (by decide) (by decide) (by decide) (fun n1 => ?_)
  show G X Q [(b0, .inr (1, [.null, .null, .null, .int 0])), (n1, .inl (D.1 100, 20, .inl (fun _ => 0)))] 1 20 9 [some (.ref b0)] [.ref n1, .ref b0]
  refine g_putF (ws' := [(b0, .inr (1, [.ref n1, .null, .null, .int 0])), (n1, .inl (D.1 100, 20, .inl (fun _ => 0)))]) hX dX0_init_9 ff_X0_9 0 rfl (Nat.le_of_ble_eq_true rfl) rfl rfl rfl ?_
  refine g_aload_n hX dX0_init_12 rfl ?_
  refine g_bipush hX dX0_init_13 kn_b_20 ?_
  refine g_newi hX dX0_init_15 tw_arr_int (by decide) (by decide) (by decide) (fun n2 => ?_)
  show G X Q [(b0, .inr (1, [.ref n1, .null, .null, .int 0])), (n1, .inl (D.1 100, 20, .inl (fun _ => 0))), (n2, .inl (D.1 100, 20, .inl (fun _ => 0)))] 2 40 17 [some (.ref b0)] [.ref n2, .ref b0]
  refine g_putF (ws' := [(b0, .inr (1, [.ref n1, .ref n2, .null, .int 0])), (n1, .inl (D.1 100, 20, .inl (fun _ => 0))), (n2, .inl (D.1 100, 20, .inl (fun _ => 0)))]) hX dX0_init_17 ff_X0_15 0 rfl (Nat.le_of_ble_eq_true rfl) rfl rfl rfl ?_
  refine g_aload_n hX dX0_init_20 rfl ?_
  refine g_bipush hX dX0_init_21 kn_b_20 ?_
  refine g_newi hX dX0_init_23 tw_arr_int (by decide) (by decide) (by decide) (fun n3 => ?_)
  show G X Q [(b0, .inr (1, [.ref n1, .ref n2, .null, .int 0])), (n1, .inl (D.1 100, 20, .inl (fun _ => 0))), (n2, .inl (D.1 100, 20, .inl (fun _ => 0))), (n3, .inl (D.1 100, 20, .inl (fun _ => 0)))] 3 60 25 [some (.ref b0)] [.ref n3, .ref b0]
  refine g_putF (ws' := [(b0, .inr (1, [.ref n1, .ref n2, .ref n3, .int 0])), (n1, .inl (D.1 100, 20, .inl (fun _ => 0))), (n2, .inl (D.1 100, 20, .inl (fun _ => 0))), (n3, .inl (D.1 100, 20, .inl (fun _ => 0)))]) hX dX0_init_25 ff_X0_18 0 rfl (Nat.le_of_ble_eq_true rfl) rfl rfl rfl ?_
  refine g_aload_n hX dX0_init_28 rfl ?_
  refine g_iconst hX dX0_init_29 kn_i_0 ?_
  refine g_puti (ws' := [(b0, .inr (1, [.ref n1, .ref n2, .ref n3, .int (nI 0)])), (n1, .inl (D.1 100, 20, .inl (fun _ => 0))), (n2, .inl (D.1 100, 20, .inl (fun _ => 0))), (n3, .inl (D.1 100, 20, .inl (fun _ => 0)))]) hX dX0_init_30 fp_X0_21 0 rfl (Nat.le_of_ble_eq_true rfl) rfl ?_
  subst hQ
  exact g_vretU hX dX0_init_33 (n1, n2, n3) (rfl) rfl (Nat.le_of_ble_eq_true rfl) (Nat.le_of_ble_eq_true rfl)
set_option maxRecDepth 100000 in
set_option maxHeartbeats 4000000 in
theorem ct_X7_init {l : Launch} {D : va_G} {a0 : Nat}  : Ct (S := Nat × Nat × Nat × Nat × Nat × Nat × Nat × Nat × Nat × Nat) l D yX7_init cX7_init 1 none 1 40 10 3565 [.ref a0] [(a0, .inr (8, [.null, .int 0, .int 0, .int 0, .null, .null, .int 0, .int 0, .null, .null, .null, .int 0, .null, .null, .int 0, .int 0, .null, .int 0, .null]))] (fun (rv : Option Value) (ugh : Nat × Nat × Nat × Nat × Nat × Nat × Nat × Nat × Nat × Nat) => match ugh with | (n1, n2, n3, n4, n5, n6, n7, n8, n9, n10) => rv = none) (fun (ugh : Nat × Nat × Nat × Nat × Nat × Nat × Nat × Nat × Nat × Nat) => match ugh with | (n1, n2, n3, n4, n5, n6, n7, n8, n9, n10) => ([(a0, .inr (8, [.ref n1, .int 0, .int 0, .int 0, .ref n2, .ref n3, .int 0, .int (-1), .ref n4, .ref n5, .ref n6, .int 0, .ref n7, .ref n8, .int 0, .int 0, .ref n9, .int 0, .ref n10])), (n1, .inl (D.1 100, 3318, .inl r0)), (n2, .inl (D.1 100, 2, .inl (fun _ => 0))), (n3, .inl (D.1 100, 150, .inl (fun _ => 0))), (n4, .inl (D.1 100, 20, .inl (fun _ => 0))), (n5, .inl (D.1 100, 20, .inl (fun _ => 0))), (n6, .inl (D.1 100, 20, .inl (fun _ => 0))), (n7, .inl (D.1 100, 16, .inl (fun _ => 0))), (n8, .inl (D.1 100, 2, .inl (fun _ => 0))), (n9, .inl (D.1 100, 12, .inl (fun _ => 0))), (n10, .inl (D.1 100, 5, .inl (fun _ => 0)))] : va_W)) := by
  refine Ct.ofG (by decide) (Nat.le_of_ble_eq_true rfl) ?_
  intro X hX
  have hX : CX X l D RX7 "<init>" cX7_init 1 none 1 40 10 3565 := hX
  show G X (QM X 10 3565 (fun (rv : Option Value) (ugh : Nat × Nat × Nat × Nat × Nat × Nat × Nat × Nat × Nat × Nat) => match ugh with | (n1, n2, n3, n4, n5, n6, n7, n8, n9, n10) => rv = none) (fun (ugh : Nat × Nat × Nat × Nat × Nat × Nat × Nat × Nat × Nat × Nat) => match ugh with | (n1, n2, n3, n4, n5, n6, n7, n8, n9, n10) => ([(a0, .inr (8, [.ref n1, .int 0, .int 0, .int 0, .ref n2, .ref n3, .int 0, .int (-1), .ref n4, .ref n5, .ref n6, .int 0, .ref n7, .ref n8, .int 0, .int 0, .ref n9, .int 0, .ref n10])), (n1, .inl (D.1 100, 3318, .inl r0)), (n2, .inl (D.1 100, 2, .inl (fun _ => 0))), (n3, .inl (D.1 100, 150, .inl (fun _ => 0))), (n4, .inl (D.1 100, 20, .inl (fun _ => 0))), (n5, .inl (D.1 100, 20, .inl (fun _ => 0))), (n6, .inl (D.1 100, 20, .inl (fun _ => 0))), (n7, .inl (D.1 100, 16, .inl (fun _ => 0))), (n8, .inl (D.1 100, 2, .inl (fun _ => 0))), (n9, .inl (D.1 100, 12, .inl (fun _ => 0))), (n10, .inl (D.1 100, 5, .inl (fun _ => 0)))] : va_W))) [(a0, .inr (8, [.null, .int 0, .int 0, .int 0, .null, .null, .int 0, .int 0, .null, .null, .null, .int 0, .null, .null, .int 0, .int 0, .null, .int 0, .null]))] 0 0 0 [some (.ref a0)] []
  generalize hQ : QM X 10 3565 (fun (rv : Option Value) (ugh : Nat × Nat × Nat × Nat × Nat × Nat × Nat × Nat × Nat × Nat) => match ugh with | (n1, n2, n3, n4, n5, n6, n7, n8, n9, n10) => rv = none) (fun (ugh : Nat × Nat × Nat × Nat × Nat × Nat × Nat × Nat × Nat × Nat) => match ugh with | (n1, n2, n3, n4, n5, n6, n7, n8, n9, n10) => ([(a0, .inr (8, [.ref n1, .int 0, .int 0, .int 0, .ref n2, .ref n3, .int 0, .int (-1), .ref n4, .ref n5, .ref n6, .int 0, .ref n7, .ref n8, .int 0, .int 0, .ref n9, .int 0, .ref n10])), (n1, .inl (D.1 100, 3318, .inl r0)), (n2, .inl (D.1 100, 2, .inl (fun _ => 0))), (n3, .inl (D.1 100, 150, .inl (fun _ => 0))), (n4, .inl (D.1 100, 20, .inl (fun _ => 0))), (n5, .inl (D.1 100, 20, .inl (fun _ => 0))), (n6, .inl (D.1 100, 20, .inl (fun _ => 0))), (n7, .inl (D.1 100, 16, .inl (fun _ => 0))), (n8, .inl (D.1 100, 2, .inl (fun _ => 0))), (n9, .inl (D.1 100, 12, .inl (fun _ => 0))), (n10, .inl (D.1 100, 5, .inl (fun _ => 0)))] : va_W)) = Q
  refine g_aload_n hX dX7_init_0 rfl ?_
  refine g_objInit hX dX7_init_1 ml_X7_1 tw_oi tw_oc (by decide) (Nat.le_of_ble_eq_true rfl) ?_
  refine g_aload_n hX dX7_init_4 rfl ?_
  refine g_sipush hX dX7_init_5 kn_s_3318 ?_
  refine g_newi hX dX7_init_8 tw_arr_int (by decide) (by decide) (by decide) (fun n1 => ?_)
  show G X Q [(a0, .inr (8, [.null, .int 0, .int 0, .int 0, .null, .null, .int 0, .int 0, .null, .null, .null, .int 0, .null, .null, .int 0, .int 0, .null, .int 0, .null])), (n1, .inl (D.1 100, 3318, .inl (fun _ => 0)))] 1 3318 10 [some (.ref a0)] [.ref n1, .ref a0]
  refine g_putF (ws' := [(a0, .inr (8, [.ref n1, .int 0, .int 0, .int 0, .null, .null, .int 0, .int 0, .null, .null, .null, .int 0, .null, .null, .int 0, .int 0, .null, .int 0, .null])), (n1, .inl (D.1 100, 3318, .inl (fun _ => 0)))]) hX dX7_init_10 ff_X7_7 0 rfl (Nat.le_of_ble_eq_true rfl) rfl rfl rfl ?_
  refine g_aload_n hX dX7_init_13 rfl ?_
  refine g_iconst hX dX7_init_14 kn_i_2 ?_
  refine g_newi hX dX7_init_15 tw_arr_int (by decide) (by decide) (by decide) (fun n2 => ?_)
  show G X Q [(a0, .inr (8, [.ref n1, .int 0, .int 0, .int 0, .null, .null, .int 0, .int 0, .null, .null, .null, .int 0, .null, .null, .int 0, .int 0, .null, .int 0, .null])), (n1, .inl (D.1 100, 3318, .inl (fun _ => 0))), (n2, .inl (D.1 100, 2, .inl (fun _ => 0)))] 2 3320 17 [some (.ref a0)] [.ref n2, .ref a0]
  refine g_putF (ws' := [(a0, .inr (8, [.ref n1, .int 0, .int 0, .int 0, .ref n2, .null, .int 0, .int 0, .null, .null, .null, .int 0, .null, .null, .int 0, .int 0, .null, .int 0, .null])), (n1, .inl (D.1 100, 3318, .inl (fun _ => 0))), (n2, .inl (D.1 100, 2, .inl (fun _ => 0)))]) hX dX7_init_17 ff_X7_13 0 rfl (Nat.le_of_ble_eq_true rfl) rfl rfl rfl ?_
  refine g_aload_n hX dX7_init_20 rfl ?_
  refine g_sipush hX dX7_init_21 kn_s_150 ?_
  refine g_newi hX dX7_init_24 tw_arr_int (by decide) (by decide) (by decide) (fun n3 => ?_)
  show G X Q [(a0, .inr (8, [.ref n1, .int 0, .int 0, .int 0, .ref n2, .null, .int 0, .int 0, .null, .null, .null, .int 0, .null, .null, .int 0, .int 0, .null, .int 0, .null])), (n1, .inl (D.1 100, 3318, .inl (fun _ => 0))), (n2, .inl (D.1 100, 2, .inl (fun _ => 0))), (n3, .inl (D.1 100, 150, .inl (fun _ => 0)))] 3 3470 26 [some (.ref a0)] [.ref n3, .ref a0]
  refine g_putF (ws' := [(a0, .inr (8, [.ref n1, .int 0, .int 0, .int 0, .ref n2, .ref n3, .int 0, .int 0, .null, .null, .null, .int 0, .null, .null, .int 0, .int 0, .null, .int 0, .null])), (n1, .inl (D.1 100, 3318, .inl (fun _ => 0))), (n2, .inl (D.1 100, 2, .inl (fun _ => 0))), (n3, .inl (D.1 100, 150, .inl (fun _ => 0)))]) hX dX7_init_26 ff_X7_16 0 rfl (Nat.le_of_ble_eq_true rfl) rfl rfl rfl ?_
  refine g_aload_n hX dX7_init_29 rfl ?_
  refine g_iconst hX dX7_init_30 kn_i_m1 ?_
  refine g_puti (ws' := [(a0, .inr (8, [.ref n1, .int 0, .int 0, .int 0, .ref n2, .ref n3, .int 0, .int (-1), .null, .null, .null, .int 0, .null, .null, .int 0, .int 0, .null, .int 0, .null])), (n1, .inl (D.1 100, 3318, .inl (fun _ => 0))), (n2, .inl (D.1 100, 2, .inl (fun _ => 0))), (n3, .inl (D.1 100, 150, .inl (fun _ => 0)))]) hX dX7_init_31 fp_X7_19 0 rfl (Nat.le_of_ble_eq_true rfl) rfl ?_
  refine g_aload_n hX dX7_init_34 rfl ?_
  refine g_bipush hX dX7_init_35 kn_b_20 ?_
  refine g_newi hX dX7_init_37 tw_arr_int (by decide) (by decide) (by decide) (fun n4 => ?_)
  show G X Q [(a0, .inr (8, [.ref n1, .int 0, .int 0, .int 0, .ref n2, .ref n3, .int 0, .int (-1), .null, .null, .null, .int 0, .null, .null, .int 0, .int 0, .null, .int 0, .null])), (n1, .inl (D.1 100, 3318, .inl (fun _ => 0))), (n2, .inl (D.1 100, 2, .inl (fun _ => 0))), (n3, .inl (D.1 100, 150, .inl (fun _ => 0))), (n4, .inl (D.1 100, 20, .inl (fun _ => 0)))] 4 3490 39 [some (.ref a0)] [.ref n4, .ref a0]
  refine g_putF (ws' := [(a0, .inr (8, [.ref n1, .int 0, .int 0, .int 0, .ref n2, .ref n3, .int 0, .int (-1), .ref n4, .null, .null, .int 0, .null, .null, .int 0, .int 0, .null, .int 0, .null])), (n1, .inl (D.1 100, 3318, .inl (fun _ => 0))), (n2, .inl (D.1 100, 2, .inl (fun _ => 0))), (n3, .inl (D.1 100, 150, .inl (fun _ => 0))), (n4, .inl (D.1 100, 20, .inl (fun _ => 0)))]) hX dX7_init_39 ff_X7_23 0 rfl (Nat.le_of_ble_eq_true rfl) rfl rfl rfl ?_
  refine g_aload_n hX dX7_init_42 rfl ?_
  refine g_bipush hX dX7_init_43 kn_b_20 ?_
  refine g_newi hX dX7_init_45 tw_arr_int (by decide) (by decide) (by decide) (fun n5 => ?_)
  show G X Q [(a0, .inr (8, [.ref n1, .int 0, .int 0, .int 0, .ref n2, .ref n3, .int 0, .int (-1), .ref n4, .null, .null, .int 0, .null, .null, .int 0, .int 0, .null, .int 0, .null])), (n1, .inl (D.1 100, 3318, .inl (fun _ => 0))), (n2, .inl (D.1 100, 2, .inl (fun _ => 0))), (n3, .inl (D.1 100, 150, .inl (fun _ => 0))), (n4, .inl (D.1 100, 20, .inl (fun _ => 0))), (n5, .inl (D.1 100, 20, .inl (fun _ => 0)))] 5 3510 47 [some (.ref a0)] [.ref n5, .ref a0]
  refine g_putF (ws' := [(a0, .inr (8, [.ref n1, .int 0, .int 0, .int 0, .ref n2, .ref n3, .int 0, .int (-1), .ref n4, .ref n5, .null, .int 0, .null, .null, .int 0, .int 0, .null, .int 0, .null])), (n1, .inl (D.1 100, 3318, .inl (fun _ => 0))), (n2, .inl (D.1 100, 2, .inl (fun _ => 0))), (n3, .inl (D.1 100, 150, .inl (fun _ => 0))), (n4, .inl (D.1 100, 20, .inl (fun _ => 0))), (n5, .inl (D.1 100, 20, .inl (fun _ => 0)))]) hX dX7_init_47 ff_X7_26 0 rfl (Nat.le_of_ble_eq_true rfl) rfl rfl rfl ?_
  refine g_aload_n hX dX7_init_50 rfl ?_
  refine g_bipush hX dX7_init_51 kn_b_20 ?_
  refine g_newi hX dX7_init_53 tw_arr_int (by decide) (by decide) (by decide) (fun n6 => ?_)
  show G X Q [(a0, .inr (8, [.ref n1, .int 0, .int 0, .int 0, .ref n2, .ref n3, .int 0, .int (-1), .ref n4, .ref n5, .null, .int 0, .null, .null, .int 0, .int 0, .null, .int 0, .null])), (n1, .inl (D.1 100, 3318, .inl (fun _ => 0))), (n2, .inl (D.1 100, 2, .inl (fun _ => 0))), (n3, .inl (D.1 100, 150, .inl (fun _ => 0))), (n4, .inl (D.1 100, 20, .inl (fun _ => 0))), (n5, .inl (D.1 100, 20, .inl (fun _ => 0))), (n6, .inl (D.1 100, 20, .inl (fun _ => 0)))] 6 3530 55 [some (.ref a0)] [.ref n6, .ref a0]
  refine g_putF (ws' := [(a0, .inr (8, [.ref n1, .int 0, .int 0, .int 0, .ref n2, .ref n3, .int 0, .int (-1), .ref n4, .ref n5, .ref n6, .int 0, .null, .null, .int 0, .int 0, .null, .int 0, .null])), (n1, .inl (D.1 100, 3318, .inl (fun _ => 0))), (n2, .inl (D.1 100, 2, .inl (fun _ => 0))), (n3, .inl (D.1 100, 150, .inl (fun _ => 0))), (n4, .inl (D.1 100, 20, .inl (fun _ => 0))), (n5, .inl (D.1 100, 20, .inl (fun _ => 0))), (n6, .inl (D.1 100, 20, .inl (fun _ => 0)))]) hX dX7_init_55 ff_X7_29 0 rfl (Nat.le_of_ble_eq_true rfl) rfl rfl rfl ?_
  refine g_aload_n hX dX7_init_58 rfl ?_
  refine g_bipush hX dX7_init_59 kn_b_16 ?_
  refine g_newi hX dX7_init_61 tw_arr_int (by decide) (by decide) (by decide) (fun n7 => ?_)
  show G X Q [(a0, .inr (8, [.ref n1, .int 0, .int 0, .int 0, .ref n2, .ref n3, .int 0, .int (-1), .ref n4, .ref n5, .ref n6, .int 0, .null, .null, .int 0, .int 0, .null, .int 0, .null])), (n1, .inl (D.1 100, 3318, .inl (fun _ => 0))), (n2, .inl (D.1 100, 2, .inl (fun _ => 0))), (n3, .inl (D.1 100, 150, .inl (fun _ => 0))), (n4, .inl (D.1 100, 20, .inl (fun _ => 0))), (n5, .inl (D.1 100, 20, .inl (fun _ => 0))), (n6, .inl (D.1 100, 20, .inl (fun _ => 0))), (n7, .inl (D.1 100, 16, .inl (fun _ => 0)))] 7 3546 63 [some (.ref a0)] [.ref n7, .ref a0]
  refine g_putF (ws' := [(a0, .inr (8, [.ref n1, .int 0, .int 0, .int 0, .ref n2, .ref n3, .int 0, .int (-1), .ref n4, .ref n5, .ref n6, .int 0, .ref n7, .null, .int 0, .int 0, .null, .int 0, .null])), (n1, .inl (D.1 100, 3318, .inl (fun _ => 0))), (n2, .inl (D.1 100, 2, .inl (fun _ => 0))), (n3, .inl (D.1 100, 150, .inl (fun _ => 0))), (n4, .inl (D.1 100, 20, .inl (fun _ => 0))), (n5, .inl (D.1 100, 20, .inl (fun _ => 0))), (n6, .inl (D.1 100, 20, .inl (fun _ => 0))), (n7, .inl (D.1 100, 16, .inl (fun _ => 0)))]) hX dX7_init_63 ff_X7_32 0 rfl (Nat.le_of_ble_eq_true rfl) rfl rfl rfl ?_
  refine g_aload_n hX dX7_init_66 rfl ?_
  refine g_iconst hX dX7_init_67 kn_i_2 ?_
  refine g_newi hX dX7_init_68 tw_arr_int (by decide) (by decide) (by decide) (fun n8 => ?_)
  show G X Q [(a0, .inr (8, [.ref n1, .int 0, .int 0, .int 0, .ref n2, .ref n3, .int 0, .int (-1), .ref n4, .ref n5, .ref n6, .int 0, .ref n7, .null, .int 0, .int 0, .null, .int 0, .null])), (n1, .inl (D.1 100, 3318, .inl (fun _ => 0))), (n2, .inl (D.1 100, 2, .inl (fun _ => 0))), (n3, .inl (D.1 100, 150, .inl (fun _ => 0))), (n4, .inl (D.1 100, 20, .inl (fun _ => 0))), (n5, .inl (D.1 100, 20, .inl (fun _ => 0))), (n6, .inl (D.1 100, 20, .inl (fun _ => 0))), (n7, .inl (D.1 100, 16, .inl (fun _ => 0))), (n8, .inl (D.1 100, 2, .inl (fun _ => 0)))] 8 3548 70 [some (.ref a0)] [.ref n8, .ref a0]
  refine g_putF (ws' := [(a0, .inr (8, [.ref n1, .int 0, .int 0, .int 0, .ref n2, .ref n3, .int 0, .int (-1), .ref n4, .ref n5, .ref n6, .int 0, .ref n7, .ref n8, .int 0, .int 0, .null, .int 0, .null])), (n1, .inl (D.1 100, 3318, .inl (fun _ => 0))), (n2, .inl (D.1 100, 2, .inl (fun _ => 0))), (n3, .inl (D.1 100, 150, .inl (fun _ => 0))), (n4, .inl (D.1 100, 20, .inl (fun _ => 0))), (n5, .inl (D.1 100, 20, .inl (fun _ => 0))), (n6, .inl (D.1 100, 20, .inl (fun _ => 0))), (n7, .inl (D.1 100, 16, .inl (fun _ => 0))), (n8, .inl (D.1 100, 2, .inl (fun _ => 0)))]) hX dX7_init_70 ff_X7_35 0 rfl (Nat.le_of_ble_eq_true rfl) rfl rfl rfl ?_
  refine g_aload_n hX dX7_init_73 rfl ?_
  refine g_bipush hX dX7_init_74 kn_b_12 ?_
  refine g_newi hX dX7_init_76 tw_arr_int (by decide) (by decide) (by decide) (fun n9 => ?_)
  show G X Q [(a0, .inr (8, [.ref n1, .int 0, .int 0, .int 0, .ref n2, .ref n3, .int 0, .int (-1), .ref n4, .ref n5, .ref n6, .int 0, .ref n7, .ref n8, .int 0, .int 0, .null, .int 0, .null])), (n1, .inl (D.1 100, 3318, .inl (fun _ => 0))), (n2, .inl (D.1 100, 2, .inl (fun _ => 0))), (n3, .inl (D.1 100, 150, .inl (fun _ => 0))), (n4, .inl (D.1 100, 20, .inl (fun _ => 0))), (n5, .inl (D.1 100, 20, .inl (fun _ => 0))), (n6, .inl (D.1 100, 20, .inl (fun _ => 0))), (n7, .inl (D.1 100, 16, .inl (fun _ => 0))), (n8, .inl (D.1 100, 2, .inl (fun _ => 0))), (n9, .inl (D.1 100, 12, .inl (fun _ => 0)))] 9 3560 78 [some (.ref a0)] [.ref n9, .ref a0]
  refine g_putF (ws' := [(a0, .inr (8, [.ref n1, .int 0, .int 0, .int 0, .ref n2, .ref n3, .int 0, .int (-1), .ref n4, .ref n5, .ref n6, .int 0, .ref n7, .ref n8, .int 0, .int 0, .ref n9, .int 0, .null])), (n1, .inl (D.1 100, 3318, .inl (fun _ => 0))), (n2, .inl (D.1 100, 2, .inl (fun _ => 0))), (n3, .inl (D.1 100, 150, .inl (fun _ => 0))), (n4, .inl (D.1 100, 20, .inl (fun _ => 0))), (n5, .inl (D.1 100, 20, .inl (fun _ => 0))), (n6, .inl (D.1 100, 20, .inl (fun _ => 0))), (n7, .inl (D.1 100, 16, .inl (fun _ => 0))), (n8, .inl (D.1 100, 2, .inl (fun _ => 0))), (n9, .inl (D.1 100, 12, .inl (fun _ => 0)))]) hX dX7_init_78 ff_X7_38 0 rfl (Nat.le_of_ble_eq_true rfl) rfl rfl rfl ?_
  refine g_aload_n hX dX7_init_81 rfl ?_
  refine g_iconst hX dX7_init_82 kn_i_5 ?_
  refine g_newi hX dX7_init_83 tw_arr_int (by decide) (by decide) (by decide) (fun n10 => ?_)
  show G X Q [(a0, .inr (8, [.ref n1, .int 0, .int 0, .int 0, .ref n2, .ref n3, .int 0, .int (-1), .ref n4, .ref n5, .ref n6, .int 0, .ref n7, .ref n8, .int 0, .int 0, .ref n9, .int 0, .null])), (n1, .inl (D.1 100, 3318, .inl (fun _ => 0))), (n2, .inl (D.1 100, 2, .inl (fun _ => 0))), (n3, .inl (D.1 100, 150, .inl (fun _ => 0))), (n4, .inl (D.1 100, 20, .inl (fun _ => 0))), (n5, .inl (D.1 100, 20, .inl (fun _ => 0))), (n6, .inl (D.1 100, 20, .inl (fun _ => 0))), (n7, .inl (D.1 100, 16, .inl (fun _ => 0))), (n8, .inl (D.1 100, 2, .inl (fun _ => 0))), (n9, .inl (D.1 100, 12, .inl (fun _ => 0))), (n10, .inl (D.1 100, 5, .inl (fun _ => 0)))] 10 3565 85 [some (.ref a0)] [.ref n10, .ref a0]
  refine g_putF (ws' := [(a0, .inr (8, [.ref n1, .int 0, .int 0, .int 0, .ref n2, .ref n3, .int 0, .int (-1), .ref n4, .ref n5, .ref n6, .int 0, .ref n7, .ref n8, .int 0, .int 0, .ref n9, .int 0, .ref n10])), (n1, .inl (D.1 100, 3318, .inl (fun _ => 0))), (n2, .inl (D.1 100, 2, .inl (fun _ => 0))), (n3, .inl (D.1 100, 150, .inl (fun _ => 0))), (n4, .inl (D.1 100, 20, .inl (fun _ => 0))), (n5, .inl (D.1 100, 20, .inl (fun _ => 0))), (n6, .inl (D.1 100, 20, .inl (fun _ => 0))), (n7, .inl (D.1 100, 16, .inl (fun _ => 0))), (n8, .inl (D.1 100, 2, .inl (fun _ => 0))), (n9, .inl (D.1 100, 12, .inl (fun _ => 0))), (n10, .inl (D.1 100, 5, .inl (fun _ => 0)))]) hX dX7_init_85 ff_X7_41 0 rfl (Nat.le_of_ble_eq_true rfl) rfl rfl rfl ?_
  refine g_aload_n hX dX7_init_88 rfl ?_
  refine g_getf hX dX7_init_89 fk_X7_7 0 rfl rfl ?_
  refine g_iconst hX dX7_init_92 kn_i_1 ?_
  refine g_iconst hX dX7_init_93 kn_i_4 ?_
  refine g_iast (ws' := [(a0, .inr (8, [.ref n1, .int 0, .int 0, .int 0, .ref n2, .ref n3, .int 0, .int (-1), .ref n4, .ref n5, .ref n6, .int 0, .ref n7, .ref n8, .int 0, .int 0, .ref n9, .int 0, .ref n10])), (n1, .inl (D.1 100, 3318, .inl (upd (fun _ => 0) 1 (nI 4)))), (n2, .inl (D.1 100, 2, .inl (fun _ => 0))), (n3, .inl (D.1 100, 150, .inl (fun _ => 0))), (n4, .inl (D.1 100, 20, .inl (fun _ => 0))), (n5, .inl (D.1 100, 20, .inl (fun _ => 0))), (n6, .inl (D.1 100, 20, .inl (fun _ => 0))), (n7, .inl (D.1 100, 16, .inl (fun _ => 0))), (n8, .inl (D.1 100, 2, .inl (fun _ => 0))), (n9, .inl (D.1 100, 12, .inl (fun _ => 0))), (n10, .inl (D.1 100, 5, .inl (fun _ => 0)))]) hX dX7_init_94 1 rfl (by decide) (by omega) rfl ?_
  refine g_aload_n hX dX7_init_95 rfl ?_
  refine g_getf hX dX7_init_96 fk_X7_7 0 rfl rfl ?_
  refine g_iconst hX dX7_init_99 kn_i_2 ?_
  refine g_iconst hX dX7_init_100 kn_i_2 ?_
  refine g_iast (ws' := [(a0, .inr (8, [.ref n1, .int 0, .int 0, .int 0, .ref n2, .ref n3, .int 0, .int (-1), .ref n4, .ref n5, .ref n6, .int 0, .ref n7, .ref n8, .int 0, .int 0, .ref n9, .int 0, .ref n10])), (n1, .inl (D.1 100, 3318, .inl (upd (upd (fun _ => 0) 1 (nI 4)) 2 (nI 2)))), (n2, .inl (D.1 100, 2, .inl (fun _ => 0))), (n3, .inl (D.1 100, 150, .inl (fun _ => 0))), (n4, .inl (D.1 100, 20, .inl (fun _ => 0))), (n5, .inl (D.1 100, 20, .inl (fun _ => 0))), (n6, .inl (D.1 100, 20, .inl (fun _ => 0))), (n7, .inl (D.1 100, 16, .inl (fun _ => 0))), (n8, .inl (D.1 100, 2, .inl (fun _ => 0))), (n9, .inl (D.1 100, 12, .inl (fun _ => 0))), (n10, .inl (D.1 100, 5, .inl (fun _ => 0)))]) hX dX7_init_101 1 rfl (by decide) (by omega) rfl ?_
  refine g_aload_n hX dX7_init_102 rfl ?_
  refine g_getf hX dX7_init_103 fk_X7_7 0 rfl rfl ?_
  refine g_iconst hX dX7_init_106 kn_i_3 ?_
  refine g_bipush hX dX7_init_107 kn_b_9 ?_
  refine g_iast (ws' := [(a0, .inr (8, [.ref n1, .int 0, .int 0, .int 0, .ref n2, .ref n3, .int 0, .int (-1), .ref n4, .ref n5, .ref n6, .int 0, .ref n7, .ref n8, .int 0, .int 0, .ref n9, .int 0, .ref n10])), (n1, .inl (D.1 100, 3318, .inl (upd (upd (upd (fun _ => 0) 1 (nI 4)) 2 (nI 2)) 3 (nI 9)))), (n2, .inl (D.1 100, 2, .inl (fun _ => 0))), (n3, .inl (D.1 100, 150, .inl (fun _ => 0))), (n4, .inl (D.1 100, 20, .inl (fun _ => 0))), (n5, .inl (D.1 100, 20, .inl (fun _ => 0))), (n6, .inl (D.1 100, 20, .inl (fun _ => 0))), (n7, .inl (D.1 100, 16, .inl (fun _ => 0))), (n8, .inl (D.1 100, 2, .inl (fun _ => 0))), (n9, .inl (D.1 100, 12, .inl (fun _ => 0))), (n10, .inl (D.1 100, 5, .inl (fun _ => 0)))]) hX dX7_init_109 1 rfl (by decide) (by omega) rfl ?_
  refine g_aload_n hX dX7_init_110 rfl ?_
  refine g_getf hX dX7_init_111 fk_X7_7 0 rfl rfl ?_
  refine g_iconst hX dX7_init_114 kn_i_4 ?_
  refine g_bipush hX dX7_init_115 kn_b_30 ?_
  refine g_iast (ws' := [(a0, .inr (8, [.ref n1, .int 0, .int 0, .int 0, .ref n2, .ref n3, .int 0, .int (-1), .ref n4, .ref n5, .ref n6, .int 0, .ref n7, .ref n8, .int 0, .int 0, .ref n9, .int 0, .ref n10])), (n1, .inl (D.1 100, 3318, .inl (upd (upd (upd (upd (fun _ => 0) 1 (nI 4)) 2 (nI 2)) 3 (nI 9)) 4 (nI 30)))), (n2, .inl (D.1 100, 2, .inl (fun _ => 0))), (n3, .inl (D.1 100, 150, .inl (fun _ => 0))), (n4, .inl (D.1 100, 20, .inl (fun _ => 0))), (n5, .inl (D.1 100, 20, .inl (fun _ => 0))), (n6, .inl (D.1 100, 20, .inl (fun _ => 0))), (n7, .inl (D.1 100, 16, .inl (fun _ => 0))), (n8, .inl (D.1 100, 2, .inl (fun _ => 0))), (n9, .inl (D.1 100, 12, .inl (fun _ => 0))), (n10, .inl (D.1 100, 5, .inl (fun _ => 0)))]) hX dX7_init_117 1 rfl (by decide) (by omega) rfl ?_
  refine g_cong (ws' := [(a0, .inr (8, [.ref n1, .int 0, .int 0, .int 0, .ref n2, .ref n3, .int 0, .int (-1), .ref n4, .ref n5, .ref n6, .int 0, .ref n7, .ref n8, .int 0, .int 0, .ref n9, .int 0, .ref n10])), (n1, .inl (D.1 100, 3318, .inl r0)), (n2, .inl (D.1 100, 2, .inl (fun _ => 0))), (n3, .inl (D.1 100, 150, .inl (fun _ => 0))), (n4, .inl (D.1 100, 20, .inl (fun _ => 0))), (n5, .inl (D.1 100, 20, .inl (fun _ => 0))), (n6, .inl (D.1 100, 20, .inl (fun _ => 0))), (n7, .inl (D.1 100, 16, .inl (fun _ => 0))), (n8, .inl (D.1 100, 2, .inl (fun _ => 0))), (n9, .inl (D.1 100, 12, .inl (fun _ => 0))), (n10, .inl (D.1 100, 5, .inl (fun _ => 0)))]) (g := r0) 1 rfl (fun k _ => w0_r k) rfl ?_
  subst hQ
  exact g_vretU hX dX7_init_118 (n1, n2, n3, n4, n5, n6, n7, n8, n9, n10) (rfl) rfl (Nat.le_of_ble_eq_true rfl) (Nat.le_of_ble_eq_true rfl)
