/-! SETS of letters, as numbers -/
def likTo (r : Nat → Int32) (kk : Int32) (c side : Nat) : Nat → Int32
  | 0 => nI 0
  | d + 1 => if kn kk d then (if r 1 < farOf r c d side then likTo r kk c side d else likTo r kk c side d ||| (nI 1 <<< (nI d &&& 31))) else likTo r kk c side d
set_option maxRecDepth 100000 in
set_option maxHeartbeats 4000000 in
theorem ct_X1_likeOnes {l : Launch} {D : va_G} {s0 s1 s2 s3 s4 : Nat} {r : Nat → Int32} {kk vn : Int32} {c side : Nat} (hD : okD r) (hc : c < 8) (hs : side < 2) : Cf l D yX1_likeOnes cX1_likeOnes 5 (some .int) 2 68 [.ref s0, .int (nI c), .int (nI side)] [(s0, .inr (6, [.int kk, .ref s1, .ref s2, .ref s3, .ref s4, .int vn])), (s1, .inl (D.1 100, 16, .inl (sE r))), (s3, .inl (D.1 100, 5, .inl (sT r)))] (some (.int (likTo r kk c side 8))) [(s0, .inr (6, [.int kk, .ref s1, .ref s2, .ref s3, .ref s4, .int vn])), (s1, .inl (D.1 100, 16, .inl (sE r))), (s3, .inl (D.1 100, 5, .inl (sT r)))] := by
  refine Ct.ofG (by decide) (Nat.le_of_ble_eq_true rfl) ?_
  intro X hX
  have hX : CX X l D RX1 "likeOnes" cX1_likeOnes 5 (some .int) 2 68 0 0 := hX
  show G X (QF X (some (.int (likTo r kk c side 8))) [(s0, .inr (6, [.int kk, .ref s1, .ref s2, .ref s3, .ref s4, .int vn])), (s1, .inl (D.1 100, 16, .inl (sE r))), (s3, .inl (D.1 100, 5, .inl (sT r)))]) [(s0, .inr (6, [.int kk, .ref s1, .ref s2, .ref s3, .ref s4, .int vn])), (s1, .inl (D.1 100, 16, .inl (sE r))), (s3, .inl (D.1 100, 5, .inl (sT r)))] 0 0 0 [some (.ref s0), some (.int (nI c)), some (.int (nI side)), none, none] []
  generalize hQ : QF X (some (.int (likTo r kk c side 8))) [(s0, .inr (6, [.int kk, .ref s1, .ref s2, .ref s3, .ref s4, .int vn])), (s1, .inl (D.1 100, 16, .inl (sE r))), (s3, .inl (D.1 100, 5, .inl (sT r)))] = Q
  refine g_iconst hX dX1_likeOnes_0 kn_i_0 ?_
  refine g_istore_n (L' := [some (.ref s0), some (.int (nI c)), some (.int (nI side)), some (.int (nI 0)), none]) hX dX1_likeOnes_1 (by decide) rfl ?_
  refine g_iconst hX dX1_likeOnes_2 kn_i_0 ?_
  refine g_istore (L' := [some (.ref s0), some (.int (nI c)), some (.int (nI side)), some (.int (nI 0)), some (.int (nI 0))]) hX dX1_likeOnes_3 (by decide) rfl ?_
  have loop5 : ∀ d : Nat, d ≤ 8 → G X Q [(s0, .inr (6, [.int kk, .ref s1, .ref s2, .ref s3, .ref s4, .int vn])), (s1, .inl (D.1 100, 16, .inl (sE r))), (s3, .inl (D.1 100, 5, .inl (sT r)))] 0 0 5 [some (.ref s0), some (.int (nI c)), some (.int (nI side)), some (.int (likTo r kk c side d)), some (.int (nI d))] [] := by
    refine loopN 8 (fun d hh5 ih5 => ?_)
    refine g_iload hX dX1_likeOnes_5 rfl ?_
    refine g_bipush hX dX1_likeOnes_7 kn_b_8 ?_
    refine g_icmpN_ge (tgt := 51) hX dX1_likeOnes_9 (by decide) (by omega) (by omega) (fun h9 => ?_) (fun h9 => ?_)
    · skip
      obtain rfl : d = 8 := by omega
      refine g_iload_n hX dX1_likeOnes_51 rfl ?_
      subst hQ
      exact g_iret hX dX1_likeOnes_52 (rfl) (rfl) rfl rfl
    · skip
      refine g_aload_n hX dX1_likeOnes_12 rfl ?_
      refine g_iload hX dX1_likeOnes_13 rfl ?_
      refine g_callRi hX dX1_likeOnes_15 cw_X1_25 (ct_X5_knows_N  (by omega)) 0 6 [0] rfl rfl rfl rfl (by decide) rfl ⟨by decide, by decide⟩ (Nat.le_of_ble_eq_true rfl) (Nat.le_refl _) (Nat.le_refl _) ?_
      have J18 : ∀ (v18_0 : Int32), (v18_0 = (if kn kk d then (if (r 1) < (farOf r c d side) then (likTo r kk c side d) else ((likTo r kk c side d) ||| ((nI 1) <<< ((nI d) &&& 31)))) else (likTo r kk c side d))) → G X Q [(s0, .inr (6, [.int kk, .ref s1, .ref s2, .ref s3, .ref s4, .int vn])), (s1, .inl (D.1 100, 16, .inl (sE r))), (s3, .inl (D.1 100, 5, .inl (sT r)))] 0 0 45 [some (.ref s0), some (.int (nI c)), some (.int (nI side)), some (.int v18_0), some (.int (nI d))] [] := by
        intro v18_0 ev18_0
        subst ev18_0
        refine g_iincN (L' := [some (.ref s0), some (.int (nI c)), some (.int (nI side)), some (.int (if kn kk d then (if (r 1) < (farOf r c d side) then (likTo r kk c side d) else ((likTo r kk c side d) ||| ((nI 1) <<< ((nI d) &&& 31)))) else (likTo r kk c side d))), some (.int (nI (d + 1)))]) hX dX1_likeOnes_45 rfl (by decide) rfl ?_
        refine g_goto (tgt := 5) hX dX1_likeOnes_48 (by decide) ?_
        exact g_fin (ih5 (by omega) ) (rfl) rfl ⟨rfl, rfl, rfl, rfl, rfl, trivial⟩
      refine g_ifb_eq (tgt := 45) hX dX1_likeOnes_18 (by decide) (fun h18 => ?_) (fun h18 => ?_)
      · skip
        exact g_to (J18 (likTo r kk c side d) (if_bf h18).symm) ⟨rfl, rfl, rfl, rfl, rfl, trivial⟩
      · skip
        refine g_aload_n hX dX1_likeOnes_21 rfl ?_
        refine g_iload_n hX dX1_likeOnes_22 rfl ?_
        refine g_iload hX dX1_likeOnes_23 rfl ?_
        refine g_iload_n hX dX1_likeOnes_25 rfl ?_
        refine g_callRi hX dX1_likeOnes_26 cw_X1_39 (ct_X5_apart  (by first | with_reducible assumption | assumption) (by omega) (by omega) (by omega)) 0 6 [0, 1, 2] rfl rfl rfl rfl (by decide) rfl ⟨by decide, by decide⟩ (Nat.le_of_ble_eq_true rfl) (Nat.le_refl _) (Nat.le_refl _) ?_
        refine g_aload_n hX dX1_likeOnes_29 rfl ?_
        refine g_getf hX dX1_likeOnes_30 fk_X1_43 0 rfl rfl ?_
        refine g_iconst hX dX1_likeOnes_33 kn_i_0 ?_
        refine g_iald hX dX1_likeOnes_34 2 rfl (by decide) (by omega) ?_
        refine g_top (v' := (r 1)) (sT_at (by decide)) ?_
        have J35 : ∀ (v35_0 : Int32), (v35_0 = (if (r 1) < (farOf r c d side) then (likTo r kk c side d) else ((likTo r kk c side d) ||| ((nI 1) <<< ((nI d) &&& 31))))) → G X Q [(s0, .inr (6, [.int kk, .ref s1, .ref s2, .ref s3, .ref s4, .int vn])), (s1, .inl (D.1 100, 16, .inl (sE r))), (s3, .inl (D.1 100, 5, .inl (sT r)))] 0 0 45 [some (.ref s0), some (.int (nI c)), some (.int (nI side)), some (.int v35_0), some (.int (nI d))] [] := by
          intro v35_0 ev35_0
          subst ev35_0
          exact g_to (J18 (if (r 1) < (farOf r c d side) then (likTo r kk c side d) else ((likTo r kk c side d) ||| ((nI 1) <<< ((nI d) &&& 31)))) (if_bt h18).symm) ⟨rfl, rfl, rfl, rfl, rfl, trivial⟩
        refine g_icmp_gt (tgt := 45) hX dX1_likeOnes_35 (by decide) (fun h35 => ?_) (fun h35 => ?_)
        · skip
          exact g_to (J35 (likTo r kk c side d) (if_pos h35).symm) ⟨rfl, rfl, rfl, rfl, rfl, trivial⟩
        · skip
          refine g_iload_n hX dX1_likeOnes_38 rfl ?_
          refine g_iconst hX dX1_likeOnes_39 kn_i_1 ?_
          refine g_iload hX dX1_likeOnes_40 rfl ?_
          refine g_ishl hX dX1_likeOnes_42 ?_
          refine g_ior hX dX1_likeOnes_43 ?_
          refine g_istore_n (L' := [some (.ref s0), some (.int (nI c)), some (.int (nI side)), some (.int ((likTo r kk c side d) ||| ((nI 1) <<< ((nI d) &&& 31)))), some (.int (nI d))]) hX dX1_likeOnes_44 (by decide) rfl ?_
          exact g_to (J35 ((likTo r kk c side d) ||| ((nI 1) <<< ((nI d) &&& 31))) (if_neg h35).symm) ⟨rfl, rfl, rfl, rfl, rfl, trivial⟩
  exact g_fin (loop5 0 (by omega) ) (rfl) rfl ⟨rfl, rfl, rfl, rfl, rfl, trivial⟩
