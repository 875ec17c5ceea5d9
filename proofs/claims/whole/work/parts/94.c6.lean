set_option maxRecDepth 100000 in
set_option maxHeartbeats 4000000 in
theorem ct_X0_enter {l : Launch} {D : va_G} {b0 b1 b2 b3 wr : Nat} {bo bt bs : Nat → Int32} {c d g : Int32} (hwr : wr ≤ 20) : Ct (S := Bool × (Nat → Int32) × (Nat → Int32) × (Nat → Int32) × Nat) l D yX0_enter cX0_enter 4 (some .boolean) 0 0 0 0 [.ref b0, .int c, .int d, .int g] [(b0, .inr (1, [.ref b1, .ref b2, .ref b3, .int (nI wr)])), (b1, .inl (D.1 100, 20, .inl bo)), (b2, .inl (D.1 100, 20, .inl bt)), (b3, .inl (D.1 100, 20, .inl bs))] (fun (r : Option Value) (u : Bool × (Nat → Int32) × (Nat → Int32) × (Nat → Int32) × Nat) => match u with | (b, Bo, Bt, Bs, Wr) => r = (some (.int (bI b))) ∧ ((b, Bo, Bt, Bs, Wr) = enterR bo bt bs wr c d g)) (fun (u : Bool × (Nat → Int32) × (Nat → Int32) × (Nat → Int32) × Nat) => match u with | (b, Bo, Bt, Bs, Wr) => ([(b0, .inr (1, [.ref b1, .ref b2, .ref b3, .int (nI Wr)])), (b1, .inl (D.1 100, 20, .inl Bo)), (b2, .inl (D.1 100, 20, .inl Bt)), (b3, .inl (D.1 100, 20, .inl Bs))] : va_W)) := by
  refine Ct.ofG (by decide) (Nat.le_of_ble_eq_true rfl) ?_
  intro X hX
  have hX : CX X l D RX0 "enter" cX0_enter 4 (some .boolean) 0 0 0 0 := hX
  show G X (QM X 0 0 (fun (r : Option Value) (u : Bool × (Nat → Int32) × (Nat → Int32) × (Nat → Int32) × Nat) => match u with | (b, Bo, Bt, Bs, Wr) => r = (some (.int (bI b))) ∧ ((b, Bo, Bt, Bs, Wr) = enterR bo bt bs wr c d g)) (fun (u : Bool × (Nat → Int32) × (Nat → Int32) × (Nat → Int32) × Nat) => match u with | (b, Bo, Bt, Bs, Wr) => ([(b0, .inr (1, [.ref b1, .ref b2, .ref b3, .int (nI Wr)])), (b1, .inl (D.1 100, 20, .inl Bo)), (b2, .inl (D.1 100, 20, .inl Bt)), (b3, .inl (D.1 100, 20, .inl Bs))] : va_W))) [(b0, .inr (1, [.ref b1, .ref b2, .ref b3, .int (nI wr)])), (b1, .inl (D.1 100, 20, .inl bo)), (b2, .inl (D.1 100, 20, .inl bt)), (b3, .inl (D.1 100, 20, .inl bs))] 0 0 0 [some (.ref b0), some (.int c), some (.int d), some (.int g)] []
  generalize hQ : QM X 0 0 (fun (r : Option Value) (u : Bool × (Nat → Int32) × (Nat → Int32) × (Nat → Int32) × Nat) => match u with | (b, Bo, Bt, Bs, Wr) => r = (some (.int (bI b))) ∧ ((b, Bo, Bt, Bs, Wr) = enterR bo bt bs wr c d g)) (fun (u : Bool × (Nat → Int32) × (Nat → Int32) × (Nat → Int32) × Nat) => match u with | (b, Bo, Bt, Bs, Wr) => ([(b0, .inr (1, [.ref b1, .ref b2, .ref b3, .int (nI Wr)])), (b1, .inl (D.1 100, 20, .inl Bo)), (b2, .inl (D.1 100, 20, .inl Bt)), (b3, .inl (D.1 100, 20, .inl Bs))] : va_W)) = Q
  refine g_aload_n hX dX0_enter_0 rfl ?_
  refine g_getf hX dX0_enter_1 fk_X0_21 0 rfl rfl ?_
  refine g_bipush hX dX0_enter_4 kn_b_20 ?_
  refine g_icmpN_lt (tgt := 11) hX dX0_enter_6 (by decide) (by omega) (by omega) (fun h6 => ?_) (fun h6 => ?_)
  · skip
    refine g_aload_n hX dX0_enter_11 rfl ?_
    refine g_getf hX dX0_enter_12 fk_X0_9 0 rfl rfl ?_
    refine g_aload_n hX dX0_enter_15 rfl ?_
    refine g_getf hX dX0_enter_16 fk_X0_21 0 rfl rfl ?_
    refine g_iload_n hX dX0_enter_19 rfl ?_
    refine g_iast (ws' := [(b0, .inr (1, [.ref b1, .ref b2, .ref b3, .int (nI wr)])), (b1, .inl (D.1 100, 20, .inl (upd bo wr c))), (b2, .inl (D.1 100, 20, .inl bt)), (b3, .inl (D.1 100, 20, .inl bs))]) hX dX0_enter_20 1 rfl (by decide) (by omega) rfl ?_
    refine g_aload_n hX dX0_enter_21 rfl ?_
    refine g_getf hX dX0_enter_22 fk_X0_15 0 rfl rfl ?_
    refine g_aload_n hX dX0_enter_25 rfl ?_
    refine g_getf hX dX0_enter_26 fk_X0_21 0 rfl rfl ?_
    refine g_iload_n hX dX0_enter_29 rfl ?_
    refine g_iast (ws' := [(b0, .inr (1, [.ref b1, .ref b2, .ref b3, .int (nI wr)])), (b1, .inl (D.1 100, 20, .inl (upd bo wr c))), (b2, .inl (D.1 100, 20, .inl (upd bt wr d))), (b3, .inl (D.1 100, 20, .inl bs))]) hX dX0_enter_30 2 rfl (by decide) (by omega) rfl ?_
    refine g_aload_n hX dX0_enter_31 rfl ?_
    refine g_getf hX dX0_enter_32 fk_X0_18 0 rfl rfl ?_
    refine g_aload_n hX dX0_enter_35 rfl ?_
    refine g_getf hX dX0_enter_36 fk_X0_21 0 rfl rfl ?_
    refine g_iload_n hX dX0_enter_39 rfl ?_
    refine g_iast (ws' := [(b0, .inr (1, [.ref b1, .ref b2, .ref b3, .int (nI wr)])), (b1, .inl (D.1 100, 20, .inl (upd bo wr c))), (b2, .inl (D.1 100, 20, .inl (upd bt wr d))), (b3, .inl (D.1 100, 20, .inl (upd bs wr g)))]) hX dX0_enter_40 3 rfl (by decide) (by omega) rfl ?_
    refine g_aload_n hX dX0_enter_41 rfl ?_
    refine g_dup hX dX0_enter_42 rfl ?_
    refine g_getf hX dX0_enter_43 fk_X0_21 0 rfl rfl ?_
    refine g_iconst hX dX0_enter_46 kn_i_1 ?_
    refine g_iaddN hX dX0_enter_47 ?_
    refine g_puti (ws' := [(b0, .inr (1, [.ref b1, .ref b2, .ref b3, .int (nI (wr + 1))])), (b1, .inl (D.1 100, 20, .inl (upd bo wr c))), (b2, .inl (D.1 100, 20, .inl (upd bt wr d))), (b3, .inl (D.1 100, 20, .inl (upd bs wr g)))]) hX dX0_enter_48 fp_X0_21 0 rfl (Nat.le_of_ble_eq_true rfl) rfl ?_
    refine g_iconst hX dX0_enter_51 kn_i_1 ?_
    subst hQ
    exact g_zretU hX dX0_enter_52 (by exact bI_nar true) (true, upd bo wr c, upd bt wr d, upd bs wr g, wr + 1) (⟨rfl, (if_pos h6).symm⟩) rfl (Nat.le_refl _) (Nat.le_refl _)
  · skip
    refine g_iconst hX dX0_enter_9 kn_i_0 ?_
    subst hQ
    exact g_zretU hX dX0_enter_10 (by exact bI_nar false) (false, bo, bt, bs, wr) (⟨rfl, (if_neg h6).symm⟩) rfl (Nat.le_refl _) (Nat.le_refl _)
