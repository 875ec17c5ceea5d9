theorem Met.ofWF {l : Launch} {y : MethodName} {ws ws' : List Cond} {rm : Room} {Pc : Array Value → State → Prop} {Qc : Array Value → State → Outcome → State → Prop} {mc ms : Nat} {free : Addr → Prop} {cc : ByteArray} {maxL : Nat} {ret : Option FieldType}
    (hy : plainFor y = true) (hw : ws = Cond.code y cc maxL ret :: ws')
    (body : ∀ p e s m args below meth c s₁, BodyLoose p l y (headSpec ws rm) cc maxL ret e s m args below meth c s₁ → c.maxLocals = maxL → Pc args s →
      W p l e (headSpec ws rm).room s m args below meth c s.heap [] 0 0 (MQ below Qc args s mc ms free) (entryFrame m args maxL)) : Met l y ws rm Pc Qc mc ms free := by
  refine MetFree.of_bodySF (code := cc) (maxLocals := maxL) (ret := ret) hy ?_ ?_
  · intro args s m h hn
    obtain ⟨meth, c, h1, h2, h3, h4, h5, h6, -, -⟩ := Cond.code_spec hn (atoms_spec (ws := ws) h _ (by rw [hw]; exact List.mem_cons_self))
    exact ⟨meth, c, h1, h2, h3, h4, h5, h6⟩
  · intro p e s m args below meth c s₁ B hml hP _
    have hh0 : s₁.heap = s.heap := by rw [B.state]; rfl
    obtain ⟨t, a1, o, b1, b2, b3⟩ := body p e s m args below meth c s₁ B hml hP s₁ hh0 (Stand.of_body B)
    exact ⟨t, o, a1, b1, b2, ⟨b3.1, b3.2⟩⟩
theorem Ct.ofGF {S : Type} {l : Launch} {D : va_G} {y : MethodName} {b : ByteArray} {maxL : Nat} {ret : Option FieldType} {rf rl mc ms : Nat} {av : List Value} {wc : va_W} {post : Option Value → S → Prop} {wf : S → va_W}
    (hy : plainFor y = true) (hav : (lg_sl av).length ≤ maxL)
    (body : ∀ X : CT, CX X l D y.cls y.name b maxL ret rf rl mc ms → G X (QM X mc ms post wf) wc 0 0 0 (lpos av maxL) []) : Ct l D y b maxL ret rf rl mc ms av wc post wf := by
  intro sz
  refine Met.ofWF (cc := b) (maxL := maxL) (ret := ret) hy rfl ?_
  intro p e s m args below meth c s₁ B hml hv
  obtain ⟨rfl, hsz, hP, hK, hD0, hR⟩ := hv
  subst hsz
  have hts := atoms_spec (ws := Cond.code y b maxL ret :: TB) B.pre
  have h := body (p, l, e, { frames := rf, cells := mc, slots := ms, locals := rl }, s, m, av.toArray, below, meth, c, D, va_A wc s.heap.size)
    ⟨B.exec, B.bytes, hml, findClass_of_methodNamed B.named, fun w hw => hts w (List.mem_cons_of_mem _ hw), hK, fun q h => Or.inr h, B.notSynchronized, B.returns, (name_of_methodNamed B.named B.method).1, hR, Nat.le_refl _, Nat.le_refl _, Nat.le_refl _, Nat.le_refl _, rfl, rfl⟩
  rw [lg_entry_eq]
  exact h s.heap [] _ hP (hD0.self (sz := s.heap.size)) va_S.rf (by rw [hml]; exact LH.entry av hav)
set_option maxRecDepth 100000 in
set_option maxHeartbeats 4000000 in
theorem ct_J9_floorDiv_7cf53 {l : Launch} {D : va_G} {x : Int32} {b : Nat} (h1 : 1 ≤ b) (hb : b < 2147483648) : Cf l D yJ9_floorDiv_7cf53 cJ9_floorDiv_7cf53 3 (some .int) 0 0 [.int x, .int (nI b)] [] (some (.int (fdI x b))) [] := by
  refine Ct.ofGF (by decide +kernel) (Nat.le_of_ble_eq_true rfl) ?_
  intro X hX
  have hX : CX X l D RJ9 "floorDiv" cJ9_floorDiv_7cf53 3 (some .int) 0 0 0 0 := hX
  show G X (QF X (some (.int (fdI x b))) []) [] 0 0 0 [some (.int x), some (.int (nI b)), none] []
  generalize hQ : QF X (some (.int (fdI x b))) [] = Q
  refine g_iload_n hX dJ9_floorDiv_7cf53_0 rfl ?_
  refine g_iload_n hX dJ9_floorDiv_7cf53_1 rfl ?_
  refine g_idiv hX dJ9_floorDiv_7cf53_2 (nI_ne0 (by omega) (by omega)) ?_
  refine g_istore_n (L' := [some (.int x), some (.int (nI b)), some (.int (x / (nI b)))]) hX dJ9_floorDiv_7cf53_3 (by decide) rfl ?_
  refine g_iload_n hX dJ9_floorDiv_7cf53_4 rfl ?_
  refine g_iload_n hX dJ9_floorDiv_7cf53_5 rfl ?_
  refine g_ixor hX dJ9_floorDiv_7cf53_6 ?_
  refine g_if_ge (tgt := 21) hX dJ9_floorDiv_7cf53_7 (by decide) (fun h7 => ?_) (fun h7 => ?_)
  · skip
    refine g_iload_n hX dJ9_floorDiv_7cf53_21 rfl ?_
    subst hQ
    exact g_iret hX dJ9_floorDiv_7cf53_22 (iR (fd_a h1 hb h7)) (rfl) rfl rfl
  · skip
    refine g_iload_n hX dJ9_floorDiv_7cf53_10 rfl ?_
    refine g_iload_n hX dJ9_floorDiv_7cf53_11 rfl ?_
    refine g_imul hX dJ9_floorDiv_7cf53_12 ?_
    refine g_iload_n hX dJ9_floorDiv_7cf53_13 rfl ?_
    refine g_icmp_eq (tgt := 21) hX dJ9_floorDiv_7cf53_14 (by decide) (fun h14 => ?_) (fun h14 => ?_)
    · skip
      refine g_iload_n hX dJ9_floorDiv_7cf53_21 rfl ?_
      subst hQ
      exact g_iret hX dJ9_floorDiv_7cf53_22 (iR (fd_b h1 hb h14)) (rfl) rfl rfl
    · skip
      refine g_iload_n hX dJ9_floorDiv_7cf53_17 rfl ?_
      refine g_iconst hX dJ9_floorDiv_7cf53_18 kn_i_1 ?_
      refine g_isub hX dJ9_floorDiv_7cf53_19 ?_
      subst hQ
      exact g_iret hX dJ9_floorDiv_7cf53_20 (iR (fd_c h1 hb h7 h14)) (rfl) rfl rfl
set_option maxRecDepth 100000 in
set_option maxHeartbeats 4000000 in
theorem ct_X4_commonDivisor {l : Launch} {D : va_G} {a b : Nat} (ha : a < 2147483648) (hb1 : 1 ≤ b) (hb : b < 2147483648) : Cf l D yX4_commonDivisor cX4_commonDivisor 3 (some .int) 0 0 [.int (nI a), .int (nI b)] [] (some (.int (nI (Nat.gcd a b)))) [] := by
  refine Ct.ofG (by decide) (Nat.le_of_ble_eq_true rfl) ?_
  intro X hX
  have hX : CX X l D RX4 "commonDivisor" cX4_commonDivisor 3 (some .int) 0 0 0 0 := hX
  show G X (QF X (some (.int (nI (Nat.gcd a b)))) []) [] 0 0 0 [some (.int (nI a)), some (.int (nI b)), none] []
  generalize hQ : QF X (some (.int (nI (Nat.gcd a b)))) [] = Q
  refine g_iload_n hX dX4_commonDivisor_0 rfl ?_
  refine g_istore_n (L' := [some (.int (nI a)), some (.int (nI b)), some (.int (nI b))]) hX dX4_commonDivisor_1 (by decide) rfl ?_
  have loop2 : ∀ h : Nat, (h ≤ b) → (∀ e, h < e → e ≤ b → ¬ (a % e = 0 ∧ b % e = 0)) → G X Q [] 0 0 2 [some (.int (nI a)), some (.int (nI b)), some (.int (nI h))] [] := by
    refine loopM (fun h : Nat => h) (fun h ih2 => ?_)
    intro hhb hno
    refine g_iload_n hX dX4_commonDivisor_2 rfl ?_
    refine g_iconst hX dX4_commonDivisor_3 kn_i_1 ?_
    refine g_icmpN_le (tgt := 27) hX dX4_commonDivisor_4 (by decide) (by omega) (by omega) (fun h4 => ?_) (fun h4 => ?_)
    · skip
      refine g_iconst hX dX4_commonDivisor_27 kn_i_1 ?_
      subst hQ
      exact g_iret hX dX4_commonDivisor_28 (iR (congrArg nI (cd_1 hb1 h4 hno))) (rfl) rfl rfl
    · skip
      obtain ⟨z, rfl⟩ : ∃ z, h = z + 1 := ⟨h - 1, by omega⟩
      have hm1 := Nat.mod_le a (z + 1)
      have hm2 := Nat.mod_le b (z + 1)
      refine g_iload_n hX dX4_commonDivisor_7 rfl ?_
      refine g_iload_n hX dX4_commonDivisor_8 rfl ?_
      refine g_iremN hX dX4_commonDivisor_9 (by omega) (by omega) (by omega) ?_
      refine g_ifN_ne (tgt := 21) hX dX4_commonDivisor_10 (by decide) (by omega) (fun h10 => ?_) (fun h10 => ?_)
      · skip
        refine g_iinc (L' := [some (.int (nI a)), some (.int (nI b)), some (.int (nI z))]) hX dX4_commonDivisor_21 rfl (pk_m1 z) (by decide) rfl ?_
        refine g_goto (tgt := 2) hX dX4_commonDivisor_24 (by decide) ?_
        exact g_fin (ih2 (z) (by show z < z + 1; omega) (by omega) (cd_s (fun q => h10 q.1) hno)) (rfl) rfl ⟨rfl, rfl, rfl, trivial⟩
      · skip
        refine g_iload_n hX dX4_commonDivisor_13 rfl ?_
        refine g_iload_n hX dX4_commonDivisor_14 rfl ?_
        refine g_iremN hX dX4_commonDivisor_15 (by omega) (by omega) (by omega) ?_
        refine g_ifN_ne (tgt := 21) hX dX4_commonDivisor_16 (by decide) (by omega) (fun h16 => ?_) (fun h16 => ?_)
        · skip
          refine g_iinc (L' := [some (.int (nI a)), some (.int (nI b)), some (.int (nI z))]) hX dX4_commonDivisor_21 rfl (pk_m1 z) (by decide) rfl ?_
          refine g_goto (tgt := 2) hX dX4_commonDivisor_24 (by decide) ?_
          exact g_fin (ih2 (z) (by show z < z + 1; omega) (by omega) (cd_s (fun q => h16 q.2) hno)) (rfl) rfl ⟨rfl, rfl, rfl, trivial⟩
        · skip
          refine g_iload_n hX dX4_commonDivisor_19 rfl ?_
          subst hQ
          exact g_iret hX dX4_commonDivisor_20 (iR (congrArg nI (cd_2 hb1 h10 h16 hno))) (rfl) rfl rfl
  exact g_fin (loop2 b (Nat.le_refl _) (fun e h1 h2 => absurd h1 (by omega))) (rfl) rfl ⟨rfl, rfl, rfl, trivial⟩
