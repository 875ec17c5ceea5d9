set_option maxRecDepth 100000 in
set_option maxHeartbeats 4000000 in
theorem ct_X5_init {l : Launch} {D : va_G} {s0 : Nat}  : Ct (S := Nat × Nat × Nat × Nat) l D yX5_init cX5_init 2 none 1 40 4 93 [.ref s0] [(s0, .inr (6, [.int 0, .null, .null, .null, .null, .int 0]))] (fun (rv : Option Value) (ugh : Nat × Nat × Nat × Nat) => match ugh with | (n1, n2, n3, n4) => rv = none) (fun (ugh : Nat × Nat × Nat × Nat) => match ugh with | (n1, n2, n3, n4) => ([(s0, .inr (6, [.int (nI 0), .ref n1, .ref n2, .ref n3, .ref n4, .int (nI 0)])), (n1, .inl (D.1 100, 16, .inl (sE r0))), (n2, .inl (D.1 100, 8, .inl (sB r0))), (n3, .inl (D.1 100, 5, .inl (sT r0))), (n4, .inl (D.1 100, 64, .inl (sG r0)))] : va_W)) := by
  refine Ct.ofG (by decide) (Nat.le_of_ble_eq_true rfl) ?_
  intro X hX
  have hX : CX X l D RX5 "<init>" cX5_init 2 none 1 40 4 93 := hX
  show G X (QM X 4 93 (fun (rv : Option Value) (ugh : Nat × Nat × Nat × Nat) => match ugh with | (n1, n2, n3, n4) => rv = none) (fun (ugh : Nat × Nat × Nat × Nat) => match ugh with | (n1, n2, n3, n4) => ([(s0, .inr (6, [.int (nI 0), .ref n1, .ref n2, .ref n3, .ref n4, .int (nI 0)])), (n1, .inl (D.1 100, 16, .inl (sE r0))), (n2, .inl (D.1 100, 8, .inl (sB r0))), (n3, .inl (D.1 100, 5, .inl (sT r0))), (n4, .inl (D.1 100, 64, .inl (sG r0)))] : va_W))) [(s0, .inr (6, [.int 0, .null, .null, .null, .null, .int 0]))] 0 0 0 [some (.ref s0), none] []
  generalize hQ : QM X 4 93 (fun (rv : Option Value) (ugh : Nat × Nat × Nat × Nat) => match ugh with | (n1, n2, n3, n4) => rv = none) (fun (ugh : Nat × Nat × Nat × Nat) => match ugh with | (n1, n2, n3, n4) => ([(s0, .inr (6, [.int (nI 0), .ref n1, .ref n2, .ref n3, .ref n4, .int (nI 0)])), (n1, .inl (D.1 100, 16, .inl (sE r0))), (n2, .inl (D.1 100, 8, .inl (sB r0))), (n3, .inl (D.1 100, 5, .inl (sT r0))), (n4, .inl (D.1 100, 64, .inl (sG r0)))] : va_W)) = Q
  refine g_aload_n hX dX5_init_0 rfl ?_
  refine g_objInit hX dX5_init_1 ml_X5_3 tw_oi tw_oc (by decide) (Nat.le_of_ble_eq_true rfl) ?_
  refine g_aload_n hX dX5_init_4 rfl ?_
  refine g_iconst hX dX5_init_5 kn_i_0 ?_
  refine g_puti (ws' := [(s0, .inr (6, [.int (nI 0), .null, .null, .null, .null, .int 0]))]) hX dX5_init_6 fp_X5_9 0 rfl (Nat.le_of_ble_eq_true rfl) rfl ?_
  refine g_aload_n hX dX5_init_9 rfl ?_
  refine g_bipush hX dX5_init_10 kn_b_16 ?_
  refine g_newi hX dX5_init_12 tw_arr_int (by decide) (by decide) (by decide) (fun n1 => ?_)
  show G X Q [(s0, .inr (6, [.int (nI 0), .null, .null, .null, .null, .int 0])), (n1, .inl (D.1 100, 16, .inl (fun _ => 0)))] 1 16 14 [some (.ref s0), none] [.ref n1, .ref s0]
  refine g_putF (ws' := [(s0, .inr (6, [.int (nI 0), .ref n1, .null, .null, .null, .int 0])), (n1, .inl (D.1 100, 16, .inl (fun _ => 0)))]) hX dX5_init_14 ff_X5_15 0 rfl (Nat.le_of_ble_eq_true rfl) rfl rfl rfl ?_
  refine g_aload_n hX dX5_init_17 rfl ?_
  refine g_bipush hX dX5_init_18 kn_b_8 ?_
  refine g_newi hX dX5_init_20 tw_arr_int (by decide) (by decide) (by decide) (fun n2 => ?_)
  show G X Q [(s0, .inr (6, [.int (nI 0), .ref n1, .null, .null, .null, .int 0])), (n1, .inl (D.1 100, 16, .inl (fun _ => 0))), (n2, .inl (D.1 100, 8, .inl (fun _ => 0)))] 2 24 22 [some (.ref s0), none] [.ref n2, .ref s0]
  refine g_putF (ws' := [(s0, .inr (6, [.int (nI 0), .ref n1, .ref n2, .null, .null, .int 0])), (n1, .inl (D.1 100, 16, .inl (fun _ => 0))), (n2, .inl (D.1 100, 8, .inl (fun _ => 0)))]) hX dX5_init_22 ff_X5_19 0 rfl (Nat.le_of_ble_eq_true rfl) rfl rfl rfl ?_
  refine g_aload_n hX dX5_init_25 rfl ?_
  refine g_iconst hX dX5_init_26 kn_i_5 ?_
  refine g_newi hX dX5_init_27 tw_arr_int (by decide) (by decide) (by decide) (fun n3 => ?_)
  show G X Q [(s0, .inr (6, [.int (nI 0), .ref n1, .ref n2, .null, .null, .int 0])), (n1, .inl (D.1 100, 16, .inl (fun _ => 0))), (n2, .inl (D.1 100, 8, .inl (fun _ => 0))), (n3, .inl (D.1 100, 5, .inl (fun _ => 0)))] 3 29 29 [some (.ref s0), none] [.ref n3, .ref s0]
  refine g_dup hX dX5_init_29 rfl ?_
  refine g_iconst hX dX5_init_30 kn_i_0 ?_
  refine g_iconst hX dX5_init_31 kn_i_4 ?_
  refine g_iast (ws' := [(s0, .inr (6, [.int (nI 0), .ref n1, .ref n2, .null, .null, .int 0])), (n1, .inl (D.1 100, 16, .inl (fun _ => 0))), (n2, .inl (D.1 100, 8, .inl (fun _ => 0))), (n3, .inl (D.1 100, 5, .inl (upd (fun _ => 0) 0 (nI 4))))]) hX dX5_init_32 3 rfl (by decide) (by omega) rfl ?_
  refine g_dup hX dX5_init_33 rfl ?_
  refine g_iconst hX dX5_init_34 kn_i_1 ?_
  refine g_iconst hX dX5_init_35 kn_i_2 ?_
  refine g_iast (ws' := [(s0, .inr (6, [.int (nI 0), .ref n1, .ref n2, .null, .null, .int 0])), (n1, .inl (D.1 100, 16, .inl (fun _ => 0))), (n2, .inl (D.1 100, 8, .inl (fun _ => 0))), (n3, .inl (D.1 100, 5, .inl (upd (upd (fun _ => 0) 0 (nI 4)) 1 (nI 2))))]) hX dX5_init_36 3 rfl (by decide) (by omega) rfl ?_
  refine g_dup hX dX5_init_37 rfl ?_
  refine g_iconst hX dX5_init_38 kn_i_2 ?_
  refine g_bipush hX dX5_init_39 kn_b_9 ?_
  refine g_iast (ws' := [(s0, .inr (6, [.int (nI 0), .ref n1, .ref n2, .null, .null, .int 0])), (n1, .inl (D.1 100, 16, .inl (fun _ => 0))), (n2, .inl (D.1 100, 8, .inl (fun _ => 0))), (n3, .inl (D.1 100, 5, .inl (upd (upd (upd (fun _ => 0) 0 (nI 4)) 1 (nI 2)) 2 (nI 9))))]) hX dX5_init_41 3 rfl (by decide) (by omega) rfl ?_
  refine g_dup hX dX5_init_42 rfl ?_
  refine g_iconst hX dX5_init_43 kn_i_3 ?_
  refine g_bipush hX dX5_init_44 kn_b_30 ?_
  refine g_iast (ws' := [(s0, .inr (6, [.int (nI 0), .ref n1, .ref n2, .null, .null, .int 0])), (n1, .inl (D.1 100, 16, .inl (fun _ => 0))), (n2, .inl (D.1 100, 8, .inl (fun _ => 0))), (n3, .inl (D.1 100, 5, .inl (upd (upd (upd (upd (fun _ => 0) 0 (nI 4)) 1 (nI 2)) 2 (nI 9)) 3 (nI 30))))]) hX dX5_init_46 3 rfl (by decide) (by omega) rfl ?_
  refine g_dup hX dX5_init_47 rfl ?_
  refine g_iconst hX dX5_init_48 kn_i_4 ?_
  refine g_iconst hX dX5_init_49 kn_i_0 ?_
  refine g_iast (ws' := [(s0, .inr (6, [.int (nI 0), .ref n1, .ref n2, .null, .null, .int 0])), (n1, .inl (D.1 100, 16, .inl (fun _ => 0))), (n2, .inl (D.1 100, 8, .inl (fun _ => 0))), (n3, .inl (D.1 100, 5, .inl (upd (upd (upd (upd (upd (fun _ => 0) 0 (nI 4)) 1 (nI 2)) 2 (nI 9)) 3 (nI 30)) 4 (nI 0))))]) hX dX5_init_50 3 rfl (by decide) (by omega) rfl ?_
  refine g_putF (ws' := [(s0, .inr (6, [.int (nI 0), .ref n1, .ref n2, .ref n3, .null, .int 0])), (n1, .inl (D.1 100, 16, .inl (fun _ => 0))), (n2, .inl (D.1 100, 8, .inl (fun _ => 0))), (n3, .inl (D.1 100, 5, .inl (upd (upd (upd (upd (upd (fun _ => 0) 0 (nI 4)) 1 (nI 2)) 2 (nI 9)) 3 (nI 30)) 4 (nI 0))))]) hX dX5_init_51 ff_X5_22 0 rfl (Nat.le_of_ble_eq_true rfl) rfl rfl rfl ?_
  refine g_aload_n hX dX5_init_54 rfl ?_
  refine g_bipush hX dX5_init_55 kn_b_64 ?_
  refine g_newi hX dX5_init_57 tw_arr_int (by decide) (by decide) (by decide) (fun n4 => ?_)
  show G X Q [(s0, .inr (6, [.int (nI 0), .ref n1, .ref n2, .ref n3, .null, .int 0])), (n1, .inl (D.1 100, 16, .inl (fun _ => 0))), (n2, .inl (D.1 100, 8, .inl (fun _ => 0))), (n3, .inl (D.1 100, 5, .inl (upd (upd (upd (upd (upd (fun _ => 0) 0 (nI 4)) 1 (nI 2)) 2 (nI 9)) 3 (nI 30)) 4 (nI 0)))), (n4, .inl (D.1 100, 64, .inl (fun _ => 0)))] 4 93 59 [some (.ref s0), none] [.ref n4, .ref s0]
  refine g_putF (ws' := [(s0, .inr (6, [.int (nI 0), .ref n1, .ref n2, .ref n3, .ref n4, .int 0])), (n1, .inl (D.1 100, 16, .inl (fun _ => 0))), (n2, .inl (D.1 100, 8, .inl (fun _ => 0))), (n3, .inl (D.1 100, 5, .inl (upd (upd (upd (upd (upd (fun _ => 0) 0 (nI 4)) 1 (nI 2)) 2 (nI 9)) 3 (nI 30)) 4 (nI 0)))), (n4, .inl (D.1 100, 64, .inl (fun _ => 0)))]) hX dX5_init_59 ff_X5_25 0 rfl (Nat.le_of_ble_eq_true rfl) rfl rfl rfl ?_
  refine g_aload_n hX dX5_init_62 rfl ?_
  refine g_iconst hX dX5_init_63 kn_i_0 ?_
  refine g_puti (ws' := [(s0, .inr (6, [.int (nI 0), .ref n1, .ref n2, .ref n3, .ref n4, .int (nI 0)])), (n1, .inl (D.1 100, 16, .inl (fun _ => 0))), (n2, .inl (D.1 100, 8, .inl (fun _ => 0))), (n3, .inl (D.1 100, 5, .inl (upd (upd (upd (upd (upd (fun _ => 0) 0 (nI 4)) 1 (nI 2)) 2 (nI 9)) 3 (nI 30)) 4 (nI 0)))), (n4, .inl (D.1 100, 64, .inl (fun _ => 0)))]) hX dX5_init_64 fp_X5_28 0 rfl (Nat.le_of_ble_eq_true rfl) rfl ?_
  refine g_iconst hX dX5_init_67 kn_i_0 ?_
  refine g_istore_n (L' := [some (.ref s0), some (.int (nI 0))]) hX dX5_init_68 (by decide) rfl ?_
  have loop69 : ∀ k : Nat, k ≤ 64 → G X Q [(s0, .inr (6, [.int (nI 0), .ref n1, .ref n2, .ref n3, .ref n4, .int (nI 0)])), (n1, .inl (D.1 100, 16, .inl (fun _ => 0))), (n2, .inl (D.1 100, 8, .inl (fun _ => 0))), (n3, .inl (D.1 100, 5, .inl (upd (upd (upd (upd (upd (fun _ => 0) 0 (nI 4)) 1 (nI 2)) 2 (nI 9)) 3 (nI 30)) 4 (nI 0)))), (n4, .inl (D.1 100, 64, .inl (kTo k)))] 4 93 69 [some (.ref s0), some (.int (nI k))] [] := by
    refine loopN 64 (fun k hh69 ih69 => ?_)
    refine g_iload_n hX dX5_init_69 rfl ?_
    refine g_aload_n hX dX5_init_70 rfl ?_
    refine g_getf hX dX5_init_71 fk_X5_25 0 rfl rfl ?_
    refine g_aleni hX dX5_init_74 4 rfl ?_
    refine g_icmpN_ge (tgt := 93) hX dX5_init_75 (by decide) (by omega) (by omega) (fun h75 => ?_) (fun h75 => ?_)
    · skip
      obtain rfl : k = 64 := by omega
      refine g_cong (ws' := [(s0, .inr (6, [.int (nI 0), .ref n1, .ref n2, .ref n3, .ref n4, .int (nI 0)])), (n1, .inl (D.1 100, 16, .inl (sE r0))), (n2, .inl (D.1 100, 8, .inl (fun _ => 0))), (n3, .inl (D.1 100, 5, .inl (upd (upd (upd (upd (upd (fun _ => 0) 0 (nI 4)) 1 (nI 2)) 2 (nI 9)) 3 (nI 30)) 4 (nI 0)))), (n4, .inl (D.1 100, 64, .inl (kTo 64)))]) (g := sE r0) 1 rfl (r0_E) rfl ?_
      refine g_cong (ws' := [(s0, .inr (6, [.int (nI 0), .ref n1, .ref n2, .ref n3, .ref n4, .int (nI 0)])), (n1, .inl (D.1 100, 16, .inl (sE r0))), (n2, .inl (D.1 100, 8, .inl (sB r0))), (n3, .inl (D.1 100, 5, .inl (upd (upd (upd (upd (upd (fun _ => 0) 0 (nI 4)) 1 (nI 2)) 2 (nI 9)) 3 (nI 30)) 4 (nI 0)))), (n4, .inl (D.1 100, 64, .inl (kTo 64)))]) (g := sB r0) 2 rfl (r0_B) rfl ?_
      refine g_cong (ws' := [(s0, .inr (6, [.int (nI 0), .ref n1, .ref n2, .ref n3, .ref n4, .int (nI 0)])), (n1, .inl (D.1 100, 16, .inl (sE r0))), (n2, .inl (D.1 100, 8, .inl (sB r0))), (n3, .inl (D.1 100, 5, .inl (sT r0))), (n4, .inl (D.1 100, 64, .inl (kTo 64)))]) (g := sT r0) 3 rfl (r0_T) rfl ?_
      refine g_cong (ws' := [(s0, .inr (6, [.int (nI 0), .ref n1, .ref n2, .ref n3, .ref n4, .int (nI 0)])), (n1, .inl (D.1 100, 16, .inl (sE r0))), (n2, .inl (D.1 100, 8, .inl (sB r0))), (n3, .inl (D.1 100, 5, .inl (sT r0))), (n4, .inl (D.1 100, 64, .inl (sG r0)))]) (g := sG r0) 4 rfl (r0_G) rfl ?_
      subst hQ
      exact g_vretU hX dX5_init_93 (n1, n2, n3, n4) (rfl) rfl (Nat.le_of_ble_eq_true rfl) (Nat.le_of_ble_eq_true rfl)
    · skip
      refine g_aload_n hX dX5_init_78 rfl ?_
      refine g_getf hX dX5_init_79 fk_X5_25 0 rfl rfl ?_
      refine g_iload_n hX dX5_init_82 rfl ?_
      refine g_sipush hX dX5_init_83 kn_s_1000 ?_
      refine g_iast (ws' := [(s0, .inr (6, [.int (nI 0), .ref n1, .ref n2, .ref n3, .ref n4, .int (nI 0)])), (n1, .inl (D.1 100, 16, .inl (fun _ => 0))), (n2, .inl (D.1 100, 8, .inl (fun _ => 0))), (n3, .inl (D.1 100, 5, .inl (upd (upd (upd (upd (upd (fun _ => 0) 0 (nI 4)) 1 (nI 2)) 2 (nI 9)) 3 (nI 30)) 4 (nI 0)))), (n4, .inl (D.1 100, 64, .inl (upd (kTo k) k (nI 1000))))]) hX dX5_init_86 4 rfl (by decide) (by omega) rfl ?_
      refine g_iincN (L' := [some (.ref s0), some (.int (nI (k + 1)))]) hX dX5_init_87 rfl (by decide) rfl ?_
      refine g_goto (tgt := 69) hX dX5_init_90 (by decide) ?_
      exact g_fin (ih69 (by omega) ) (by rw [kTo_s]) rfl ⟨rfl, rfl, trivial⟩
  exact g_fin (loop69 0 (by omega) ) (by rw [kTo_0]) rfl ⟨rfl, rfl, trivial⟩
