theorem sw4 (k : Int32) : k = 0 ∨ k = 1 ∨ k = 2 ∨ k = 3 ∨ (k.toInt < 0 ∨ 3 < k.toInt) := by
  simp only [fa_eq, ti_0, ti_1, ti_2, ti_3]
  omega
def an_loadModel (w k g q : Int32) : Int32 := if sb_v w k g = -1 ∨ q < 0 ∨ ¬ q < 1 <<< (sb_v w k g &&& 31) then -2 else w
theorem nI_small {x : Int32} {n : Nat} (h0 : 0 ≤ x.toInt) (h1 : x.toInt ≤ n) : ∃ j : Nat, j ≤ n ∧ x = nI j := by
  obtain ⟨j, hj, rfl⟩ := nI_of (x := x) (by rw [fa_lt, ti_0]; omega)
  rw [nI_toInt hj] at h1
  exact ⟨j, by omega, rfl⟩
theorem sb_ok {w k g : Int32} (h : ¬ sb_v w k g = -1) : (∃ j : Nat, j ≤ 6 ∧ w = nI j) ∧ (∃ j : Nat, j ≤ 4 ∧ k = nI j) ∧ ∃ j : Nat, j ≤ 3 ∧ g = nI j := by
  unfold sb_v at h
  split at h
  · rename_i q
    obtain ⟨⟨a1, a2⟩, ⟨b1, b2⟩, ⟨c1, c2⟩, -⟩ := q
    exact ⟨nI_small (by omega) a2, nI_small b1 b2, nI_small c1 c2⟩
  · exact absurd rfl h
theorem dX3_decode_0 : decode cX3_decode 0 = .ok (.aload_n 0, 1) := by decide +kernel
theorem dX3_decode_1 : decode cX3_decode 1 = .ok (.iload_n 1, 1) := by decide +kernel
theorem dX3_decode_2 : decode cX3_decode 2 = .ok (.invokevirtual 48, 3) := by decide +kernel
theorem dX3_decode_5 : decode cX3_decode 5 = .ok (.iload 4, 2) := by decide +kernel
theorem dX3_decode_7 : decode cX3_decode 7 = .ok (.istore 5, 2) := by decide +kernel
theorem dX3_decode_9 : decode cX3_decode 9 = .ok (.iconst 0, 1) := by decide +kernel
theorem dX3_decode_10 : decode cX3_decode 10 = .ok (.istore 6, 2) := by decide +kernel
theorem dX3_decode_12 : decode cX3_decode 12 = .ok (.iload 6, 2) := by decide +kernel
theorem dX3_decode_14 : decode cX3_decode 14 = .ok (.iload_n 1, 1) := by decide +kernel
theorem dX3_decode_15 : decode cX3_decode 15 = .ok (.if_icmp .ge 51, 3) := by decide +kernel
theorem dX3_decode_18 : decode cX3_decode 18 = .ok (.iconst 0, 1) := by decide +kernel
theorem dX3_decode_19 : decode cX3_decode 19 = .ok (.istore 7, 2) := by decide +kernel
theorem dX3_decode_21 : decode cX3_decode 21 = .ok (.iload 7, 2) := by decide +kernel
theorem dX3_decode_23 : decode cX3_decode 23 = .ok (.iload_n 2, 1) := by decide +kernel
theorem dX3_decode_24 : decode cX3_decode 24 = .ok (.if_icmp .ge 36, 3) := by decide +kernel
theorem dX3_decode_27 : decode cX3_decode 27 = .ok (.aload_n 0, 1) := by decide +kernel
theorem dX3_decode_28 : decode cX3_decode 28 = .ok (.iload 7, 2) := by decide +kernel
theorem dX3_decode_30 : decode cX3_decode 30 = .ok (.iload 6, 2) := by decide +kernel
theorem dX3_decode_32 : decode cX3_decode 32 = .ok (.iload 5, 2) := by decide +kernel
theorem dX3_decode_34 : decode cX3_decode 34 = .ok (.iconst 1, 1) := by decide +kernel
theorem dX3_decode_35 : decode cX3_decode 35 = .ok (.iand, 1) := by decide +kernel
theorem dX3_decode_36 : decode cX3_decode 36 = .ok (.iconst 1, 1) := by decide +kernel
theorem dX3_decode_37 : decode cX3_decode 37 = .ok (.if_icmp .ne 7, 3) := by decide +kernel
theorem dX3_decode_40 : decode cX3_decode 40 = .ok (.iconst 1, 1) := by decide +kernel
theorem dX3_decode_41 : decode cX3_decode 41 = .ok (.goto 4, 3) := by decide +kernel
theorem dX3_decode_44 : decode cX3_decode 44 = .ok (.iconst 0, 1) := by decide +kernel
theorem dX3_decode_45 : decode cX3_decode 45 = .ok (.invokevirtual 52, 3) := by decide +kernel
theorem dX3_decode_48 : decode cX3_decode 48 = .ok (.iload 5, 2) := by decide +kernel
theorem dX3_decode_50 : decode cX3_decode 50 = .ok (.iconst 1, 1) := by decide +kernel
theorem dX3_decode_51 : decode cX3_decode 51 = .ok (.ishr, 1) := by decide +kernel
theorem dX3_decode_52 : decode cX3_decode 52 = .ok (.istore 5, 2) := by decide +kernel
theorem dX3_decode_54 : decode cX3_decode 54 = .ok (.iinc 7 1, 3) := by decide +kernel
theorem dX3_decode_57 : decode cX3_decode 57 = .ok (.goto (-36), 3) := by decide +kernel
theorem dX3_decode_60 : decode cX3_decode 60 = .ok (.iinc 6 1, 3) := by decide +kernel
theorem dX3_decode_63 : decode cX3_decode 63 = .ok (.goto (-51), 3) := by decide +kernel
theorem dX3_decode_66 : decode cX3_decode 66 = .ok (.iconst 0, 1) := by decide +kernel
theorem dX3_decode_67 : decode cX3_decode 67 = .ok (.istore 6, 2) := by decide +kernel
theorem dX3_decode_69 : decode cX3_decode 69 = .ok (.iload 6, 2) := by decide +kernel
theorem dX3_decode_71 : decode cX3_decode 71 = .ok (.iload_n 3, 1) := by decide +kernel
theorem dX3_decode_72 : decode cX3_decode 72 = .ok (.if_icmp .ge 52, 3) := by decide +kernel
theorem dX3_decode_75 : decode cX3_decode 75 = .ok (.iconst 0, 1) := by decide +kernel
theorem dX3_decode_76 : decode cX3_decode 76 = .ok (.istore 7, 2) := by decide +kernel
theorem dX3_decode_78 : decode cX3_decode 78 = .ok (.iload 7, 2) := by decide +kernel
theorem dX3_decode_80 : decode cX3_decode 80 = .ok (.iload_n 1, 1) := by decide +kernel
theorem dX3_decode_81 : decode cX3_decode 81 = .ok (.if_icmp .ge 37, 3) := by decide +kernel
theorem dX3_decode_84 : decode cX3_decode 84 = .ok (.aload_n 0, 1) := by decide +kernel
theorem dX3_decode_85 : decode cX3_decode 85 = .ok (.getfield 15, 3) := by decide +kernel
theorem dX3_decode_88 : decode cX3_decode 88 = .ok (.iload 6, 2) := by decide +kernel
theorem dX3_decode_90 : decode cX3_decode 90 = .ok (.bipush 6, 2) := by decide +kernel
theorem dX3_decode_92 : decode cX3_decode 92 = .ok (.imul, 1) := by decide +kernel
theorem dX3_decode_93 : decode cX3_decode 93 = .ok (.iload 7, 2) := by decide +kernel
theorem dX3_decode_95 : decode cX3_decode 95 = .ok (.iadd, 1) := by decide +kernel
theorem dX3_decode_96 : decode cX3_decode 96 = .ok (.iload 5, 2) := by decide +kernel
theorem dX3_decode_98 : decode cX3_decode 98 = .ok (.aload_n 0, 1) := by decide +kernel
theorem dX3_decode_99 : decode cX3_decode 99 = .ok (.invokevirtual 56, 3) := by decide +kernel
theorem dX3_decode_102 : decode cX3_decode 102 = .ok (.iand, 1) := by decide +kernel
theorem dX3_decode_103 : decode cX3_decode 103 = .ok (.invokestatic 38, 3) := by decide +kernel
theorem dX3_decode_106 : decode cX3_decode 106 = .ok (.iload 5, 2) := by decide +kernel
theorem dX3_decode_108 : decode cX3_decode 108 = .ok (.iload_n 1, 1) := by decide +kernel
theorem dX3_decode_109 : decode cX3_decode 109 = .ok (.ishr, 1) := by decide +kernel
theorem dX3_decode_110 : decode cX3_decode 110 = .ok (.istore 5, 2) := by decide +kernel
theorem dX3_decode_112 : decode cX3_decode 112 = .ok (.iinc 7 1, 3) := by decide +kernel
theorem dX3_decode_115 : decode cX3_decode 115 = .ok (.goto (-37), 3) := by decide +kernel
theorem dX3_decode_118 : decode cX3_decode 118 = .ok (.iinc 6 1, 3) := by decide +kernel
theorem dX3_decode_121 : decode cX3_decode 121 = .ok (.goto (-52), 3) := by decide +kernel
theorem dX3_decode_124 : decode cX3_decode 124 = .ok (.return_, 1) := by decide +kernel
def wo_X3_decode : List Cond := [.methodLink RX3 48 yX3_reset, .instanceMethod yX3_reset, .selects RX3 yX3_reset yX3_reset, .initialized RX3, .fieldLink RX3 15 "DynamicLogicProver$Model" "moves" "[I", .methodLink RX3 56 yX3_all, .instanceMethod yX3_all, .selects RX3 yX3_all yX3_all, .initialized RX11, .static yX11_put, .methodLink RX3 52 yX3_putTruth, .instanceMethod yX3_putTruth, .selects RX3 yX3_putTruth yX3_putTruth]
def wd_X3_decode : List Cond := .code yX3_decode cX3_decode 8 none :: (wo_X3_decode ++ (wd_X3_reset ++ (wd_X3_all ++ (wd_X11_put ++ (wd_X3_putTruth ++ (wsX30 ++ ([] : List Cond)))))))
theorem mo_X3_decode {w : Cond} (i : Nat) (h : wo_X3_decode[i]? = some w) : w ∈ wd_X3_decode := List.mem_cons_of_mem _ (List.mem_append_left _ (List.mem_of_getElem? h))
theorem mb_X3_decode_0 : ∀ w ∈ wd_X3_reset, w ∈ wd_X3_decode := fun w h => List.mem_cons_of_mem _ (List.mem_append_right _ (List.mem_append_left _ h))
theorem mb_X3_decode_1 : ∀ w ∈ wd_X3_all, w ∈ wd_X3_decode := fun w h => List.mem_cons_of_mem _ (List.mem_append_right _ (List.mem_append_right _ (List.mem_append_left _ h)))
theorem mb_X3_decode_2 : ∀ w ∈ wd_X11_put, w ∈ wd_X3_decode := fun w h => List.mem_cons_of_mem _ (List.mem_append_right _ (List.mem_append_right _ (List.mem_append_right _ (List.mem_append_left _ h))))
theorem mb_X3_decode_3 : ∀ w ∈ wd_X3_putTruth, w ∈ wd_X3_decode := fun w h => List.mem_cons_of_mem _ (List.mem_append_right _ (List.mem_append_right _ (List.mem_append_right _ (List.mem_append_right _ (List.mem_append_left _ h)))))
theorem mb_X3_decode_4 : ∀ w ∈ wsX30, w ∈ wd_X3_decode := fun w h => List.mem_cons_of_mem _ (List.mem_append_right _ (List.mem_append_right _ (List.mem_append_right _ (List.mem_append_right _ (List.mem_append_right _ (List.mem_append_left _ h))))))
theorem hd_X3_decode : yX3_decode.cls ≠ "java/lang/invoke/MethodHandle" ∧ yX3_decode.cls ≠ "java/lang/invoke/VarHandle" ∧ (parseMethodDescriptor yX3_decode.desc).map (fun d => d.parameters.length) = some 4 := by decide +kernel
set_option maxRecDepth 20000 in
theorem gw_X3_decode : wd_X3_decode.all goodWord = true := by decide +kernel
abbrev qc_X3_decode (D : va_G) (h : Nat) (t : Nat) (v : Nat) (kt : ClassId) (kv : ClassId) (f : Nat → Int32) (g : Nat → Int32) (n : Int32) (N : Nat) (L : Nat) (M : Nat) (cd : Int32) (A : Nat → Prop) : Array Value → State → Outcome → State → Prop := va_Qv (fun (uZ : (Nat → Int32) × (Nat → Int32)) => True) (fun uZ tZ => kc_pos D A [(h, .inr (3, [.ref t, .ref v, .int (nI N)])), (t, .inl (kt, 4, .inl uZ.1)), (v, .inl (kv, 18, .inl uZ.2))] [] tZ) A
set_option maxHeartbeats 4000000 in
set_option maxRecDepth 100000 in
theorem ct_X3_decode (l : Launch) (D : va_G) (h : Nat) (t : Nat) (v : Nat) (kt : ClassId) (kv : ClassId) (f : Nat → Int32) (g : Nat → Int32) (n : Int32) (N : Nat) (L : Nat) (M : Nat) (cd : Int32) (sz : Nat) (hN6 : N ≤ 6) (hL4 : L ≤ 4) (hM3 : M ≤ 3) : Met l yX3_decode wd_X3_decode ({ frames := 2, cells := 0, slots := 0, locals := 46 }) (va_Pc [.ref h, .int (nI N), .int (nI L), .int (nI M), .int cd] (kc_pre D [(kt, .int), (kv, .int)] [(h, .inr (3, [.ref t, .ref v, .int n])), (t, .inl (kt, 4, .inl f)), (v, .inl (kv, 18, .inl g))] sz)) (qc_X3_decode D h t v kt kv f g n N L M cd (va_A [(h, .inr (3, [.ref t, .ref v, .int n])), (t, .inl (kt, 4, .inl f)), (v, .inl (kv, 18, .inl g))] sz)) 0 0 (va_A [(h, .inr (3, [.ref t, .ref v, .int n])), (t, .inl (kt, 4, .inl f)), (v, .inl (kv, 18, .inl g))] sz) := by
  refine Met.ofW (cc := cX3_decode) (maxL := 8) (ret := none) (by decide) rfl ?_
  intro p e s m args below meth c s₁ B hml hv
  obtain ⟨rfl, hsz, hP, hK, hN, hD0⟩ := hv
  have hx := B.exec
  have hb := B.bytes
  have hr := B.returns
  have hts := atoms_spec (ws := wd_X3_decode) B.pre
  have hown : s.vm.findClass RX3 = some m.cls := findClass_of_methodNamed B.named
  have hlocks := B.notSynchronized
  subst hsz
  have hD := hD0.self (sz := s.heap.size)
  generalize hAe : va_A [(h, .inr (3, [.ref t, .ref v, .int n])), (t, .inl (kt, 4, .inl f)), (v, .inl (kv, 18, .inl g))] s.heap.size = A at hD ⊢
  have hA : ∀ q : Nat, s.heap.size ≤ q → A q := fun q h => by rw [← hAe]; exact Or.inr h
  have hS : va_S A s.heap s.heap [] := va_S.rf
  have hiX3 : ∀ w ∈ wsX30, w ∈ wd_X3_decode := mb_X3_decode_4
  have hl := lv_entry ([.ref h, .int (nI N), .int (nI L), .int (nI M), .int cd]) (n := 8) (Nat.le_of_ble_eq_true rfl)
  rw [lg_entry_eq]
  generalize (lg_sl ([.ref h, .int (nI N), .int (nI L), .int (nI M), .int cd]) ++ List.replicate (8 - (lg_sl ([.ref h, .int (nI N), .int (nI L), .int (nI M), .int cd])).length) Slot.unset).toArray = ls at hl ⊢
  have hl : lv_has ls 8 [(0, .ref h), (1, .int (nI N)), (2, .int (nI L)), (3, .int (nI M)), (4, .int cd)] := hl
  refine lv_aload_n hx hb dX3_decode_0 rfl (lv_at hl 0 rfl) ?_
  refine lv_iload_n hx hb dX3_decode_1 rfl (lv_at hl 1 rfl) ?_
  refine kc_Vv (As := [.int (nI N)]) (rest := []) (wr := []) ⟨hx, hb, hml, hown, hts⟩ (ct_X3_reset l D h t v kt kv f g n (nI N) _ ) (cwV 1 hts (kg_V (mo_X3_decode 0 rfl) (mo_X3_decode 1 rfl) (mo_X3_decode 2 rfl) (mo_X3_decode 3 rfl) (goodIn_sub mb_X3_decode_0 gw_X3_reset)) rfl rfl rfl ⟨rfl, hd_X3_reset⟩ ⟨Nat.le_of_ble_eq_true rfl, Nat.le_of_ble_eq_true rfl⟩) (RX3, TX3, 3) 3 0 rfl rfl rfl hK hN hP hD hS hA [0, 1, 2] [] [0, 1] rfl rfl (by decide) (by decide) (by decide) rfl rfl hl.1 rfl (Nat.le_of_ble_eq_true rfl) dX3_decode_2 ⟨Nat.le_of_ble_eq_true rfl, Nat.le_of_ble_eq_true rfl⟩ (fun u_2 H locs w_3 hP hD hK1 hS => ?_)
  obtain ⟨o_4, o_5⟩ := u_2
  have hP : va_P D vwCl [(h, .inr (3, [.ref t, .ref v, .int (nI N)])), (t, .inl (kt, 4, .inl o_4)), (v, .inl (kv, 18, .inl o_5))] H := hP
  have hD : va_D A [(h, .inr (3, [.ref t, .ref v, .int (nI N)])), (t, .inl (kt, 4, .inl o_4)), (v, .inl (kv, 18, .inl o_5))] := hD
  refine lv_iload hx hb dX3_decode_5 (lv_at hl 4 rfl) ?_
  refine lv_istore (lv' := [(5, .int cd), (0, .ref h), (1, .int (nI N)), (2, .int (nI L)), (3, .int (nI M)), (4, .int cd)]) hx hb dX3_decode_7 hl (by decide) rfl (fun ls hl => ?_)
  refine lv_iconst (v := 0) hx hb dX3_decode_9 (by decide) ?_
  refine lv_istore (lv' := [(6, .int 0), (5, .int cd), (0, .ref h), (1, .int (nI N)), (2, .int (nI L)), (3, .int (nI M)), (4, .int cd)]) hx hb dX3_decode_10 hl (by decide) rfl (fun ls hl => ?_)
  have lp_6 : ∀ (fu_8 : Nat) (a1 : Nat) (q1 : Int32) (f1 : Nat → Int32) (H : Heap) (locs : List Loc) (ls : Array Slot), (a1 ≤ N) → N - a1 < fu_8 → va_P D vwCl [(h, .inr (3, [.ref t, .ref v, .int (nI N)])), (t, .inl (kt, 4, .inl f1)), (v, .inl (kv, 18, .inl o_5))] H → va_D A [(h, .inr (3, [.ref t, .ref v, .int (nI N)])), (t, .inl (kt, 4, .inl f1)), (v, .inl (kv, 18, .inl o_5))] → va_S A s.heap H locs → lv_has ls 8 [(6, .int (nI a1)), (5, .int q1), (0, .ref h), (1, .int (nI N)), (2, .int (nI L)), (3, .int (nI M)), (4, .int cd)] → W p l e (headSpec wd_X3_decode ({ frames := 2, cells := 0, slots := 0, locals := 46 })).room s m [.ref h, .int (nI N), .int (nI L), .int (nI M), .int cd].toArray below meth c H locs 0 0 (MQ below (qc_X3_decode D h t v kt kv f g n N L M cd A) [.ref h, .int (nI N), .int (nI L), .int (nI M), .int cd].toArray s 0 0 A) (F0 m 12 ls []) := by
    intro fu_8
    induction fu_8 with
    | zero => intro a1 q1 f1 H locs ls ha1 hf; exact absurd hf (Nat.not_lt_zero _)
    | succ fu_8 ih_7 =>
      intro a1 q1 f1 H locs ls ha1 hf hP hD hS hl
      refine lv_iload hx hb dX3_decode_12 (lv_at hl 0 rfl) ?_
      refine lv_iload_n hx hb dX3_decode_14 rfl (lv_at hl 3 rfl) ?_
      refine lv_icmp_ge (tgt := 66) hx hb dX3_decode_15 (by decide) (fun c_9 => ?_) (fun c_9 => ?_)
      · refine lv_iconst (v := 0) hx hb dX3_decode_66 (by decide) ?_
        refine lv_istore (lv' := [(6, .int 0), (5, .int q1), (0, .ref h), (1, .int (nI N)), (2, .int (nI L)), (3, .int (nI M)), (4, .int cd)]) hx hb dX3_decode_67 hl (by decide) rfl (fun ls hl => ?_)
        have lp_10 : ∀ (fu_12 : Nat) (a3 : Nat) (q3 : Int32) (g3 : Nat → Int32) (H : Heap) (locs : List Loc) (ls : Array Slot), (a3 ≤ M) → M - a3 < fu_12 → va_P D vwCl [(h, .inr (3, [.ref t, .ref v, .int (nI N)])), (t, .inl (kt, 4, .inl f1)), (v, .inl (kv, 18, .inl g3))] H → va_D A [(h, .inr (3, [.ref t, .ref v, .int (nI N)])), (t, .inl (kt, 4, .inl f1)), (v, .inl (kv, 18, .inl g3))] → va_S A s.heap H locs → lv_has ls 8 [(6, .int (nI a3)), (5, .int q3), (0, .ref h), (1, .int (nI N)), (2, .int (nI L)), (3, .int (nI M)), (4, .int cd)] → W p l e (headSpec wd_X3_decode ({ frames := 2, cells := 0, slots := 0, locals := 46 })).room s m [.ref h, .int (nI N), .int (nI L), .int (nI M), .int cd].toArray below meth c H locs 0 0 (MQ below (qc_X3_decode D h t v kt kv f g n N L M cd A) [.ref h, .int (nI N), .int (nI L), .int (nI M), .int cd].toArray s 0 0 A) (F0 m 69 ls []) := by
          intro fu_12
          induction fu_12 with
          | zero => intro a3 q3 g3 H locs ls ha3 hf; exact absurd hf (Nat.not_lt_zero _)
          | succ fu_12 ih_11 =>
            intro a3 q3 g3 H locs ls ha3 hf hP hD hS hl
            refine lv_iload hx hb dX3_decode_69 (lv_at hl 0 rfl) ?_
            refine lv_iload_n hx hb dX3_decode_71 rfl (lv_at hl 5 rfl) ?_
            refine lv_icmp_ge (tgt := 124) hx hb dX3_decode_72 (by decide) (fun c_13 => ?_) (fun c_13 => ?_)
            · have hP9 := hP.sub (ws' := [(h, .inr (3, [.ref t, .ref v, .int (nI N)])), (t, .inl (kt, 4, .inl f1)), (v, .inl (kv, 18, .inl g3))]) [0, 1, 2] rfl
              have hD9 := hD.sub (ws' := [(h, .inr (3, [.ref t, .ref v, .int (nI N)])), (t, .inl (kt, 4, .inl f1)), (v, .inl (kv, 18, .inl g3))]) [0, 1, 2] (by decide) rfl
              have hK9 := hK.sub (tys' := []) [] rfl
              exact W.vret hx hb hr (fun tZ htZ hW => ⟨⟨(f1, g3), rfl, trivial, by rw [htZ]; exact hP9, va_K.moved hW.alike hK9, hD9⟩, hS.F htZ⟩) hS.2.2 dX3_decode_124
            · refine lv_iconst (v := 0) hx hb dX3_decode_75 (by decide) ?_
              refine lv_istore (lv' := [(7, .int 0), (6, .int (nI a3)), (5, .int q3), (0, .ref h), (1, .int (nI N)), (2, .int (nI L)), (3, .int (nI M)), (4, .int cd)]) hx hb dX3_decode_76 hl (by decide) rfl (fun ls hl => ?_)
              have lp_14 : ∀ (fu_16 : Nat) (a4 : Nat) (q4 : Int32) (g4 : Nat → Int32) (H : Heap) (locs : List Loc) (ls : Array Slot), (a4 ≤ N) → N - a4 < fu_16 → va_P D vwCl [(h, .inr (3, [.ref t, .ref v, .int (nI N)])), (t, .inl (kt, 4, .inl f1)), (v, .inl (kv, 18, .inl g4))] H → va_D A [(h, .inr (3, [.ref t, .ref v, .int (nI N)])), (t, .inl (kt, 4, .inl f1)), (v, .inl (kv, 18, .inl g4))] → va_S A s.heap H locs → lv_has ls 8 [(7, .int (nI a4)), (6, .int (nI a3)), (5, .int q4), (0, .ref h), (1, .int (nI N)), (2, .int (nI L)), (3, .int (nI M)), (4, .int cd)] → W p l e (headSpec wd_X3_decode ({ frames := 2, cells := 0, slots := 0, locals := 46 })).room s m [.ref h, .int (nI N), .int (nI L), .int (nI M), .int cd].toArray below meth c H locs 0 0 (MQ below (qc_X3_decode D h t v kt kv f g n N L M cd A) [.ref h, .int (nI N), .int (nI L), .int (nI M), .int cd].toArray s 0 0 A) (F0 m 78 ls []) := by
                intro fu_16
                induction fu_16 with
                | zero => intro a4 q4 g4 H locs ls ha4 hf; exact absurd hf (Nat.not_lt_zero _)
                | succ fu_16 ih_15 =>
                  intro a4 q4 g4 H locs ls ha4 hf hP hD hS hl
                  refine lv_iload hx hb dX3_decode_78 (lv_at hl 0 rfl) ?_
                  refine lv_iload_n hx hb dX3_decode_80 rfl (lv_at hl 4 rfl) ?_
                  refine lv_icmp_ge (tgt := 118) hx hb dX3_decode_81 (by decide) (fun c_17 => ?_) (fun c_17 => ?_)
                  · refine lv_iinc (v := nI (a3 + 1)) (lv' := [(6, .int (nI (a3 + 1))), (7, .int (nI a4)), (5, .int q4), (0, .ref h), (1, .int (nI N)), (2, .int (nI L)), (3, .int (nI M)), (4, .int cd)]) hx hb dX3_decode_118 hl (k := 1) rfl (by rw [← nI_1]; rfl) (by decide) rfl (fun ls hl => ?_)
                    refine lv_goto (tgt := 69) hx hb dX3_decode_121 (by decide) ?_
                    exact ih_11 (a3 + 1) q4 g4 _ _ _ (nk_lt (n := M) (by omega) ha3 c_13) (by have := nk_lt (n := M) (by omega) ha3 c_13; omega) (hP.sub [0, 1, 2] rfl) (hD.sub [0, 1, 2] (by decide) rfl) hS (lv_sub hl [0, 2, 3, 4, 5, 6, 7] rfl)
                  · refine lv_aload_n hx hb dX3_decode_84 rfl (lv_at hl 3 rfl) ?_
                    refine va_get (D := D) (ci := 3) (v := .ref v) (C := RX3) (T := TX3) (N := 3) hx hb hts hiX3 hown hK hP 0 rfl rfl 1 (by decide) (hts (.fieldLink RX3 15 "DynamicLogicProver$Model" "moves" "[I") (mo_X3_decode 4 rfl)) (fun _ h9 => h9) rfl dX3_decode_85 ?_
                    refine lv_iload hx hb dX3_decode_88 (lv_at hl 1 rfl) ?_
                    refine lv_bipush (v := 6) hx hb dX3_decode_90 (by decide) ?_
                    refine lv_imul hx hb dX3_decode_92 ?_
                    refine lv_topi (fun x_18 ex_18 => ?_)
                    refine lv_iload hx hb dX3_decode_93 (lv_at hl 0 rfl) ?_
                    refine lv_iadd hx hb dX3_decode_95 ?_
                    refine lv_topi (fun x_19 ex_19 => ?_)
                    refine lv_iload hx hb dX3_decode_96 (lv_at hl 2 rfl) ?_
                    refine lv_aload_n hx hb dX3_decode_98 rfl (lv_at hl 3 rfl) ?_
                    refine kc_Vi (As := []) (rest := [.int q4, .int x_19, .ref v]) (wr := [(t, .inl (kt, 4, .inl f1)), (v, .inl (kv, 18, .inl g4))]) ⟨hx, hb, hml, hown, hts⟩ (ct_X3_all l D h t v (nI N) _ ) (cwV 0 hts (kg_V (mo_X3_decode 5 rfl) (mo_X3_decode 6 rfl) (mo_X3_decode 7 rfl) (mo_X3_decode 3 rfl) (goodIn_sub mb_X3_decode_1 gw_X3_all)) rfl rfl rfl ⟨rfl, hd_X3_all⟩ ⟨Nat.le_of_ble_eq_true rfl, Nat.le_of_ble_eq_true rfl⟩) (RX3, TX3, 3) 3 0 rfl rfl rfl hK hN hP hD hS hA [0] [1, 2] [] rfl rfl (by decide) (by decide) (by decide) rfl rfl hl.1 rfl (Nat.le_of_ble_eq_true rfl) dX3_decode_99 ⟨Nat.le_of_ble_eq_true rfl, Nat.le_of_ble_eq_true rfl⟩ (fun r_20 u_21 H locs w_22 hP hD hK1 hS => ?_)
                    have hP : va_P D vwCl [(t, .inl (kt, 4, .inl f1)), (v, .inl (kv, 18, .inl g4)), (h, .inr (3, [.ref t, .ref v, .int (nI N)]))] H := hP
                    have hD : va_D A [(t, .inl (kt, 4, .inl f1)), (v, .inl (kv, 18, .inl g4)), (h, .inr (3, [.ref t, .ref v, .int (nI N)]))] := hD
                    refine lv_iand hx hb dX3_decode_102 ?_
                    refine lv_topi (fun x_23 ex_23 => ?_)
                    refine kc_Nv (As := [.ref v, .int x_19, .int x_23]) (rest := []) (wr := [(t, .inl (kt, 4, .inl f1)), (h, .inr (3, [.ref t, .ref v, .int (nI N)]))]) ⟨hx, hb, hml, hown, hts⟩ (ct_X11_put l D v kv 18 g4 x_19 x_23 _ (by decide)) ⟨va_cnB 3 hts (goodIn_sub mb_X3_decode_2 gw_X11_put) rfl rfl rfl (hN.1 (RX3, 38, yX11_put) (List.mem_of_getElem? (i := 14) rfl)) (hts (.initialized RX11) (mo_X3_decode 8 rfl)) hd_X11_put ⟨Nat.le_of_ble_eq_true rfl, Nat.le_of_ble_eq_true rfl⟩, (hts (.static yX11_put) (mo_X3_decode 9 rfl)), trivial⟩ hK hN hP hD hS hA [1] [0, 2] [1] rfl rfl (by decide) (by decide) (by decide) rfl rfl hl.1 rfl (Nat.le_of_ble_eq_true rfl) dX3_decode_103 ⟨Nat.le_of_ble_eq_true rfl, Nat.le_of_ble_eq_true rfl⟩ (fun u_25 H locs w_26 hP hD hK1 hS => ?_)
                    obtain ⟨o_27, rfl⟩ : ∃ z, z = u_25 := ⟨_, rfl⟩
                    have hP : va_P D vwCl [(t, .inl (kt, 4, .inl f1)), (h, .inr (3, [.ref t, .ref v, .int (nI N)])), (v, .inl (kv, 18, .inl o_27))] H := hP
                    have hD : va_D A [(t, .inl (kt, 4, .inl f1)), (h, .inr (3, [.ref t, .ref v, .int (nI N)])), (v, .inl (kv, 18, .inl o_27))] := hD
                    have w_26 : o_27 = put_v g4 18 x_19 x_23 := w_26
                    refine lv_iload hx hb dX3_decode_106 (lv_at hl 2 rfl) ?_
                    refine lv_iload_n hx hb dX3_decode_108 rfl (lv_at hl 4 rfl) ?_
                    refine lv_ishr hx hb dX3_decode_109 ?_
                    refine lv_topi (fun x_28 ex_28 => ?_)
                    refine lv_istore (lv' := [(5, .int x_28), (7, .int (nI a4)), (6, .int (nI a3)), (0, .ref h), (1, .int (nI N)), (2, .int (nI L)), (3, .int (nI M)), (4, .int cd)]) hx hb dX3_decode_110 hl (by decide) rfl (fun ls hl => ?_)
                    refine lv_iinc (v := nI (a4 + 1)) (lv' := [(7, .int (nI (a4 + 1))), (5, .int x_28), (6, .int (nI a3)), (0, .ref h), (1, .int (nI N)), (2, .int (nI L)), (3, .int (nI M)), (4, .int cd)]) hx hb dX3_decode_112 hl (k := 1) rfl (by rw [← nI_1]; rfl) (by decide) rfl (fun ls hl => ?_)
                    refine lv_goto (tgt := 78) hx hb dX3_decode_115 (by decide) ?_
                    exact ih_15 (a4 + 1) x_28 o_27 _ _ _ (nk_lt (n := N) (by omega) ha4 c_17) (by have := nk_lt (n := N) (by omega) ha4 c_17; omega) (hP.sub [1, 0, 2] rfl) (hD.sub [1, 0, 2] (by decide) rfl) hS (lv_sub hl [0, 2, 1, 3, 4, 5, 6, 7] rfl)
              exact lp_14 _ 0 q3 g3 _ _ _ (Nat.zero_le _) (Nat.lt_succ_self _) hP hD hS (lv_sub hl [0, 1, 2, 3, 4, 5, 6, 7] rfl)
        exact lp_10 _ 0 q1 o_5 _ _ _ (Nat.zero_le _) (Nat.lt_succ_self _) hP hD hS (lv_sub hl [0, 1, 2, 3, 4, 5, 6] rfl)
      · refine lv_iconst (v := 0) hx hb dX3_decode_18 (by decide) ?_
        refine lv_istore (lv' := [(7, .int 0), (6, .int (nI a1)), (5, .int q1), (0, .ref h), (1, .int (nI N)), (2, .int (nI L)), (3, .int (nI M)), (4, .int cd)]) hx hb dX3_decode_19 hl (by decide) rfl (fun ls hl => ?_)
        have lp_29 : ∀ (fu_31 : Nat) (a2 : Nat) (q2 : Int32) (f2 : Nat → Int32) (H : Heap) (locs : List Loc) (ls : Array Slot), (a2 ≤ L) → L - a2 < fu_31 → va_P D vwCl [(h, .inr (3, [.ref t, .ref v, .int (nI N)])), (t, .inl (kt, 4, .inl f2)), (v, .inl (kv, 18, .inl o_5))] H → va_D A [(h, .inr (3, [.ref t, .ref v, .int (nI N)])), (t, .inl (kt, 4, .inl f2)), (v, .inl (kv, 18, .inl o_5))] → va_S A s.heap H locs → lv_has ls 8 [(7, .int (nI a2)), (6, .int (nI a1)), (5, .int q2), (0, .ref h), (1, .int (nI N)), (2, .int (nI L)), (3, .int (nI M)), (4, .int cd)] → W p l e (headSpec wd_X3_decode ({ frames := 2, cells := 0, slots := 0, locals := 46 })).room s m [.ref h, .int (nI N), .int (nI L), .int (nI M), .int cd].toArray below meth c H locs 0 0 (MQ below (qc_X3_decode D h t v kt kv f g n N L M cd A) [.ref h, .int (nI N), .int (nI L), .int (nI M), .int cd].toArray s 0 0 A) (F0 m 21 ls []) := by
          intro fu_31
          induction fu_31 with
          | zero => intro a2 q2 f2 H locs ls ha2 hf; exact absurd hf (Nat.not_lt_zero _)
          | succ fu_31 ih_30 =>
            intro a2 q2 f2 H locs ls ha2 hf hP hD hS hl
            refine lv_iload hx hb dX3_decode_21 (lv_at hl 0 rfl) ?_
            refine lv_iload_n hx hb dX3_decode_23 rfl (lv_at hl 5 rfl) ?_
            refine lv_icmp_ge (tgt := 60) hx hb dX3_decode_24 (by decide) (fun c_32 => ?_) (fun c_32 => ?_)
            · refine lv_iinc (v := nI (a1 + 1)) (lv' := [(6, .int (nI (a1 + 1))), (7, .int (nI a2)), (5, .int q2), (0, .ref h), (1, .int (nI N)), (2, .int (nI L)), (3, .int (nI M)), (4, .int cd)]) hx hb dX3_decode_60 hl (k := 1) rfl (by rw [← nI_1]; rfl) (by decide) rfl (fun ls hl => ?_)
              refine lv_goto (tgt := 12) hx hb dX3_decode_63 (by decide) ?_
              exact ih_7 (a1 + 1) q2 f2 _ _ _ (nk_lt (n := N) (by omega) ha1 c_9) (by have := nk_lt (n := N) (by omega) ha1 c_9; omega) (hP.sub [0, 1, 2] rfl) (hD.sub [0, 1, 2] (by decide) rfl) hS (lv_sub hl [0, 2, 3, 4, 5, 6, 7] rfl)
            · refine lv_aload_n hx hb dX3_decode_27 rfl (lv_at hl 3 rfl) ?_
              refine lv_iload hx hb dX3_decode_28 (lv_at hl 0 rfl) ?_
              refine lv_iload hx hb dX3_decode_30 (lv_at hl 1 rfl) ?_
              refine lv_iload hx hb dX3_decode_32 (lv_at hl 2 rfl) ?_
              refine lv_iconst (v := 1) hx hb dX3_decode_34 (by decide) ?_
              refine lv_iand hx hb dX3_decode_35 ?_
              refine lv_topi (fun x_33 ex_33 => ?_)
              refine lv_iconst (v := 1) hx hb dX3_decode_36 (by decide) ?_
              refine lv_icmp_ne (tgt := 44) hx hb dX3_decode_37 (by decide) (fun c_34 => ?_) (fun c_34 => ?_)
              · refine lv_iconst (v := 0) hx hb dX3_decode_44 (by decide) ?_
                refine kc_Vv (As := [.int (nI a2), .int (nI a1), .int 0]) (rest := []) (wr := [(v, .inl (kv, 18, .inl o_5))]) ⟨hx, hb, hml, hown, hts⟩ (ct_X3_putTruth l D h t v kt f2 (nI N) (nI a2) (nI a1) 0 _ ) (cwV 3 hts (kg_V (mo_X3_decode 10 rfl) (mo_X3_decode 11 rfl) (mo_X3_decode 12 rfl) (mo_X3_decode 3 rfl) (goodIn_sub mb_X3_decode_3 gw_X3_putTruth)) rfl rfl rfl ⟨rfl, hd_X3_putTruth⟩ ⟨Nat.le_of_ble_eq_true rfl, Nat.le_of_ble_eq_true rfl⟩) (RX3, TX3, 3) 3 0 rfl rfl rfl hK hN hP hD hS hA [0, 1] [2] [0] rfl rfl (by decide) (by decide) (by decide) rfl rfl hl.1 rfl (Nat.le_of_ble_eq_true rfl) dX3_decode_45 ⟨Nat.le_of_ble_eq_true rfl, Nat.le_of_ble_eq_true rfl⟩ (fun u_36 H locs w_37 hP hD hK1 hS => ?_)
                obtain ⟨o_38, rfl⟩ : ∃ z, z = u_36 := ⟨_, rfl⟩
                have hP : va_P D vwCl [(v, .inl (kv, 18, .inl o_5)), (h, .inr (3, [.ref t, .ref v, .int (nI N)])), (t, .inl (kt, 4, .inl o_38))] H := hP
                have hD : va_D A [(v, .inl (kv, 18, .inl o_5)), (h, .inr (3, [.ref t, .ref v, .int (nI N)])), (t, .inl (kt, 4, .inl o_38))] := hD
                refine lv_iload hx hb dX3_decode_48 (lv_at hl 2 rfl) ?_
                refine lv_iconst (v := 1) hx hb dX3_decode_50 (by decide) ?_
                refine lv_ishr hx hb dX3_decode_51 ?_
                refine lv_topi (fun x_39 ex_39 => ?_)
                refine lv_istore (lv' := [(5, .int x_39), (7, .int (nI a2)), (6, .int (nI a1)), (0, .ref h), (1, .int (nI N)), (2, .int (nI L)), (3, .int (nI M)), (4, .int cd)]) hx hb dX3_decode_52 hl (by decide) rfl (fun ls hl => ?_)
                refine lv_iinc (v := nI (a2 + 1)) (lv' := [(7, .int (nI (a2 + 1))), (5, .int x_39), (6, .int (nI a1)), (0, .ref h), (1, .int (nI N)), (2, .int (nI L)), (3, .int (nI M)), (4, .int cd)]) hx hb dX3_decode_54 hl (k := 1) rfl (by rw [← nI_1]; rfl) (by decide) rfl (fun ls hl => ?_)
                refine lv_goto (tgt := 21) hx hb dX3_decode_57 (by decide) ?_
                exact ih_30 (a2 + 1) x_39 o_38 _ _ _ (nk_lt (n := L) (by omega) ha2 c_32) (by have := nk_lt (n := L) (by omega) ha2 c_32; omega) (hP.sub [1, 2, 0] rfl) (hD.sub [1, 2, 0] (by decide) rfl) hS (lv_sub hl [0, 2, 1, 3, 4, 5, 6, 7] rfl)
              · refine lv_iconst (v := 1) hx hb dX3_decode_40 (by decide) ?_
                refine lv_goto (tgt := 45) hx hb dX3_decode_41 (by decide) ?_
                refine kc_Vv (As := [.int (nI a2), .int (nI a1), .int 1]) (rest := []) (wr := [(v, .inl (kv, 18, .inl o_5))]) ⟨hx, hb, hml, hown, hts⟩ (ct_X3_putTruth l D h t v kt f2 (nI N) (nI a2) (nI a1) 1 _ ) (cwV 3 hts (kg_V (mo_X3_decode 10 rfl) (mo_X3_decode 11 rfl) (mo_X3_decode 12 rfl) (mo_X3_decode 3 rfl) (goodIn_sub mb_X3_decode_3 gw_X3_putTruth)) rfl rfl rfl ⟨rfl, hd_X3_putTruth⟩ ⟨Nat.le_of_ble_eq_true rfl, Nat.le_of_ble_eq_true rfl⟩) (RX3, TX3, 3) 3 0 rfl rfl rfl hK hN hP hD hS hA [0, 1] [2] [0] rfl rfl (by decide) (by decide) (by decide) rfl rfl hl.1 rfl (Nat.le_of_ble_eq_true rfl) dX3_decode_45 ⟨Nat.le_of_ble_eq_true rfl, Nat.le_of_ble_eq_true rfl⟩ (fun u_41 H locs w_42 hP hD hK1 hS => ?_)
                obtain ⟨o_43, rfl⟩ : ∃ z, z = u_41 := ⟨_, rfl⟩
                have hP : va_P D vwCl [(v, .inl (kv, 18, .inl o_5)), (h, .inr (3, [.ref t, .ref v, .int (nI N)])), (t, .inl (kt, 4, .inl o_43))] H := hP
                have hD : va_D A [(v, .inl (kv, 18, .inl o_5)), (h, .inr (3, [.ref t, .ref v, .int (nI N)])), (t, .inl (kt, 4, .inl o_43))] := hD
                refine lv_iload hx hb dX3_decode_48 (lv_at hl 2 rfl) ?_
                refine lv_iconst (v := 1) hx hb dX3_decode_50 (by decide) ?_
                refine lv_ishr hx hb dX3_decode_51 ?_
                refine lv_topi (fun x_44 ex_44 => ?_)
                refine lv_istore (lv' := [(5, .int x_44), (7, .int (nI a2)), (6, .int (nI a1)), (0, .ref h), (1, .int (nI N)), (2, .int (nI L)), (3, .int (nI M)), (4, .int cd)]) hx hb dX3_decode_52 hl (by decide) rfl (fun ls hl => ?_)
                refine lv_iinc (v := nI (a2 + 1)) (lv' := [(7, .int (nI (a2 + 1))), (5, .int x_44), (6, .int (nI a1)), (0, .ref h), (1, .int (nI N)), (2, .int (nI L)), (3, .int (nI M)), (4, .int cd)]) hx hb dX3_decode_54 hl (k := 1) rfl (by rw [← nI_1]; rfl) (by decide) rfl (fun ls hl => ?_)
                refine lv_goto (tgt := 21) hx hb dX3_decode_57 (by decide) ?_
                exact ih_30 (a2 + 1) x_44 o_43 _ _ _ (nk_lt (n := L) (by omega) ha2 c_32) (by have := nk_lt (n := L) (by omega) ha2 c_32; omega) (hP.sub [1, 2, 0] rfl) (hD.sub [1, 2, 0] (by decide) rfl) hS (lv_sub hl [0, 2, 1, 3, 4, 5, 6, 7] rfl)
        exact lp_29 _ 0 q1 f1 _ _ _ (Nat.zero_le _) (Nat.lt_succ_self _) hP hD hS (lv_sub hl [0, 1, 2, 3, 4, 5, 6, 7] rfl)
  exact lp_6 _ 0 cd o_4 _ _ _ (Nat.zero_le _) (Nat.lt_succ_self _) hP hD hS (lv_sub hl [0, 1, 2, 3, 4, 5, 6] rfl)
theorem dX11_spaceBits_0 : decode cX11_spaceBits 0 = .ok (.iload_n 0, 1) := by decide +kernel
theorem dX11_spaceBits_1 : decode cX11_spaceBits 1 = .ok (.iconst 1, 1) := by decide +kernel
theorem dX11_spaceBits_2 : decode cX11_spaceBits 2 = .ok (.if_icmp .lt 18, 3) := by decide +kernel
theorem dX11_spaceBits_5 : decode cX11_spaceBits 5 = .ok (.iload_n 0, 1) := by decide +kernel
theorem dX11_spaceBits_6 : decode cX11_spaceBits 6 = .ok (.bipush 6, 2) := by decide +kernel
theorem dX11_spaceBits_8 : decode cX11_spaceBits 8 = .ok (.if_icmp .gt 12, 3) := by decide +kernel
theorem dX11_spaceBits_11 : decode cX11_spaceBits 11 = .ok (.iload_n 1, 1) := by decide +kernel
theorem dX11_spaceBits_12 : decode cX11_spaceBits 12 = .ok (.ifCond .lt 8, 3) := by decide +kernel
theorem dX11_spaceBits_15 : decode cX11_spaceBits 15 = .ok (.iload_n 1, 1) := by decide +kernel
theorem dX11_spaceBits_16 : decode cX11_spaceBits 16 = .ok (.iconst 4, 1) := by decide +kernel
theorem dX11_spaceBits_17 : decode cX11_spaceBits 17 = .ok (.if_icmp .le 5, 3) := by decide +kernel
theorem dX11_spaceBits_20 : decode cX11_spaceBits 20 = .ok (.iconst (-1), 1) := by decide +kernel
theorem dX11_spaceBits_21 : decode cX11_spaceBits 21 = .ok (.ireturn, 1) := by decide +kernel
theorem dX11_spaceBits_22 : decode cX11_spaceBits 22 = .ok (.iload_n 2, 1) := by decide +kernel
theorem dX11_spaceBits_23 : decode cX11_spaceBits 23 = .ok (.ifCond .lt 8, 3) := by decide +kernel
theorem dX11_spaceBits_26 : decode cX11_spaceBits 26 = .ok (.iload_n 2, 1) := by decide +kernel
theorem dX11_spaceBits_27 : decode cX11_spaceBits 27 = .ok (.iconst 3, 1) := by decide +kernel
theorem dX11_spaceBits_28 : decode cX11_spaceBits 28 = .ok (.if_icmp .le 5, 3) := by decide +kernel
theorem dX11_spaceBits_31 : decode cX11_spaceBits 31 = .ok (.iconst (-1), 1) := by decide +kernel
theorem dX11_spaceBits_32 : decode cX11_spaceBits 32 = .ok (.ireturn, 1) := by decide +kernel
theorem dX11_spaceBits_33 : decode cX11_spaceBits 33 = .ok (.iload_n 0, 1) := by decide +kernel
theorem dX11_spaceBits_34 : decode cX11_spaceBits 34 = .ok (.iload_n 1, 1) := by decide +kernel
theorem dX11_spaceBits_35 : decode cX11_spaceBits 35 = .ok (.imul, 1) := by decide +kernel
theorem dX11_spaceBits_36 : decode cX11_spaceBits 36 = .ok (.iload_n 0, 1) := by decide +kernel
theorem dX11_spaceBits_37 : decode cX11_spaceBits 37 = .ok (.iload_n 0, 1) := by decide +kernel
theorem dX11_spaceBits_38 : decode cX11_spaceBits 38 = .ok (.imul, 1) := by decide +kernel
theorem dX11_spaceBits_39 : decode cX11_spaceBits 39 = .ok (.iload_n 2, 1) := by decide +kernel
theorem dX11_spaceBits_40 : decode cX11_spaceBits 40 = .ok (.imul, 1) := by decide +kernel
theorem dX11_spaceBits_41 : decode cX11_spaceBits 41 = .ok (.iadd, 1) := by decide +kernel
theorem dX11_spaceBits_42 : decode cX11_spaceBits 42 = .ok (.istore_n 3, 1) := by decide +kernel
theorem dX11_spaceBits_43 : decode cX11_spaceBits 43 = .ok (.iload_n 3, 1) := by decide +kernel
theorem dX11_spaceBits_44 : decode cX11_spaceBits 44 = .ok (.bipush 10, 2) := by decide +kernel
theorem dX11_spaceBits_46 : decode cX11_spaceBits 46 = .ok (.if_icmp .le 7, 3) := by decide +kernel
theorem dX11_spaceBits_49 : decode cX11_spaceBits 49 = .ok (.iconst (-1), 1) := by decide +kernel
theorem dX11_spaceBits_50 : decode cX11_spaceBits 50 = .ok (.goto 4, 3) := by decide +kernel
theorem dX11_spaceBits_53 : decode cX11_spaceBits 53 = .ok (.iload_n 3, 1) := by decide +kernel
theorem dX11_spaceBits_54 : decode cX11_spaceBits 54 = .ok (.ireturn, 1) := by decide +kernel
def wo_X11_spaceBits : List Cond := []
def wd_X11_spaceBits : List Cond := .code yX11_spaceBits cX11_spaceBits 4 (some .int) :: (wo_X11_spaceBits ++ ([] : List Cond))
theorem hd_X11_spaceBits : yX11_spaceBits.cls ≠ "java/lang/invoke/MethodHandle" ∧ yX11_spaceBits.cls ≠ "java/lang/invoke/VarHandle" ∧ (parseMethodDescriptor yX11_spaceBits.desc).map (fun d => d.parameters.length) = some 3 := by decide +kernel
set_option maxRecDepth 20000 in
theorem gw_X11_spaceBits : wd_X11_spaceBits.all goodWord = true := by decide +kernel
abbrev qc_X11_spaceBits (D : va_G) (w : Int32) (k : Int32) (g : Int32) (A : Nat → Prop) : Array Value → State → Outcome → State → Prop := va_Qi (fun (r : Int32) (uZ : Unit) => r = sb_v w k g) (fun uZ tZ => kc_pos D A [] [] tZ) A
set_option maxHeartbeats 4000000 in
set_option maxRecDepth 100000 in
theorem ct_X11_spaceBits (l : Launch) (D : va_G) (w : Int32) (k : Int32) (g : Int32) (sz : Nat)  : Met l yX11_spaceBits wd_X11_spaceBits ({ frames := 0, cells := 0, slots := 0, locals := 0 }) (va_Pc [.int w, .int k, .int g] (kc_pre D [] [] sz)) (qc_X11_spaceBits D w k g (va_A [] sz)) 0 0 (va_A [] sz) := by
  refine Met.ofW (cc := cX11_spaceBits) (maxL := 4) (ret := (some .int)) (by decide) rfl ?_
  intro p e s m args below meth c s₁ B hml hv
  obtain ⟨rfl, hsz, hP, hK, hN, hD0⟩ := hv
  have hx := B.exec
  have hb := B.bytes
  have hr := B.returns
  have hts := atoms_spec (ws := wd_X11_spaceBits) B.pre
  have hown : s.vm.findClass RX11 = some m.cls := findClass_of_methodNamed B.named
  have hlocks := B.notSynchronized
  subst hsz
  have hD := hD0.self (sz := s.heap.size)
  generalize hAe : va_A [] s.heap.size = A at hD ⊢
  have hA : ∀ q : Nat, s.heap.size ≤ q → A q := fun q h => by rw [← hAe]; exact Or.inr h
  have hS : va_S A s.heap s.heap [] := va_S.rf
  have hl := lv_entry ([.int w, .int k, .int g]) (n := 4) (Nat.le_of_ble_eq_true rfl)
  rw [lg_entry_eq]
  generalize (lg_sl ([.int w, .int k, .int g]) ++ List.replicate (4 - (lg_sl ([.int w, .int k, .int g])).length) Slot.unset).toArray = ls at hl ⊢
  have hl : lv_has ls 4 [(0, .int w), (1, .int k), (2, .int g)] := hl
  refine lv_iload_n hx hb dX11_spaceBits_0 rfl (lv_at hl 0 rfl) ?_
  refine lv_iconst (v := 1) hx hb dX11_spaceBits_1 (by decide) ?_
  refine lv_icmp_lt (tgt := 20) hx hb dX11_spaceBits_2 (by decide) (fun c_1 => ?_) (fun c_1 => ?_)
  · refine lv_iconst (v := (-1)) hx hb dX11_spaceBits_20 (by decide) ?_
    have hP9 := hP.sub (ws' := []) [] rfl
    have hD9 := hD.sub (ws' := []) [] (by decide) rfl
    have hK9 := hK.sub (tys' := []) [] rfl
    exact W.iret (v := (-1)) hx hb hr (fun tZ htZ hW => ⟨⟨(-1), (), rfl, (by unfold sb_v; rw [if_neg (by (try simp only [fa_lt, fa_le, fa_eq, ti_0, ti_1, ti_2, ti_3, ti_4, ti_5, ti_6, ti_8, ti_9, ti_10, ti_12, ti_18, ti_59, ti_60, ti_100, ti_127, ti_m1, ti_m2, ti_m3, ti_m4, ti_m5, ti_m10, ti_m11, ti_m12, ti_m13, ti_m14] at c_1); omega)]), by rw [htZ]; exact hP9, va_K.moved hW.alike hK9, hD9⟩, hS.F htZ⟩) hS.2.2 dX11_spaceBits_21
  · refine lv_iload_n hx hb dX11_spaceBits_5 rfl (lv_at hl 0 rfl) ?_
    refine lv_bipush (v := 6) hx hb dX11_spaceBits_6 (by decide) ?_
    refine lv_icmp_gt (tgt := 20) hx hb dX11_spaceBits_8 (by decide) (fun c_2 => ?_) (fun c_2 => ?_)
    · refine lv_iconst (v := (-1)) hx hb dX11_spaceBits_20 (by decide) ?_
      have hP9 := hP.sub (ws' := []) [] rfl
      have hD9 := hD.sub (ws' := []) [] (by decide) rfl
      have hK9 := hK.sub (tys' := []) [] rfl
      exact W.iret (v := (-1)) hx hb hr (fun tZ htZ hW => ⟨⟨(-1), (), rfl, (by unfold sb_v; rw [if_neg (by (try simp only [fa_lt, fa_le, fa_eq, ti_0, ti_1, ti_2, ti_3, ti_4, ti_5, ti_6, ti_8, ti_9, ti_10, ti_12, ti_18, ti_59, ti_60, ti_100, ti_127, ti_m1, ti_m2, ti_m3, ti_m4, ti_m5, ti_m10, ti_m11, ti_m12, ti_m13, ti_m14] at c_1); (try simp only [fa_lt, fa_le, fa_eq, ti_0, ti_1, ti_2, ti_3, ti_4, ti_5, ti_6, ti_8, ti_9, ti_10, ti_12, ti_18, ti_59, ti_60, ti_100, ti_127, ti_m1, ti_m2, ti_m3, ti_m4, ti_m5, ti_m10, ti_m11, ti_m12, ti_m13, ti_m14] at c_2); omega)]), by rw [htZ]; exact hP9, va_K.moved hW.alike hK9, hD9⟩, hS.F htZ⟩) hS.2.2 dX11_spaceBits_21
    · refine lv_iload_n hx hb dX11_spaceBits_11 rfl (lv_at hl 1 rfl) ?_
      refine lv_if_lt (tgt := 20) hx hb dX11_spaceBits_12 (by decide) (fun c_3 => ?_) (fun c_3 => ?_)
      · refine lv_iconst (v := (-1)) hx hb dX11_spaceBits_20 (by decide) ?_
        have hP9 := hP.sub (ws' := []) [] rfl
        have hD9 := hD.sub (ws' := []) [] (by decide) rfl
        have hK9 := hK.sub (tys' := []) [] rfl
        exact W.iret (v := (-1)) hx hb hr (fun tZ htZ hW => ⟨⟨(-1), (), rfl, (by unfold sb_v; rw [if_neg (by (try simp only [fa_lt, fa_le, fa_eq, ti_0, ti_1, ti_2, ti_3, ti_4, ti_5, ti_6, ti_8, ti_9, ti_10, ti_12, ti_18, ti_59, ti_60, ti_100, ti_127, ti_m1, ti_m2, ti_m3, ti_m4, ti_m5, ti_m10, ti_m11, ti_m12, ti_m13, ti_m14] at c_1); (try simp only [fa_lt, fa_le, fa_eq, ti_0, ti_1, ti_2, ti_3, ti_4, ti_5, ti_6, ti_8, ti_9, ti_10, ti_12, ti_18, ti_59, ti_60, ti_100, ti_127, ti_m1, ti_m2, ti_m3, ti_m4, ti_m5, ti_m10, ti_m11, ti_m12, ti_m13, ti_m14] at c_2); (try simp only [fa_lt, fa_le, fa_eq, ti_0, ti_1, ti_2, ti_3, ti_4, ti_5, ti_6, ti_8, ti_9, ti_10, ti_12, ti_18, ti_59, ti_60, ti_100, ti_127, ti_m1, ti_m2, ti_m3, ti_m4, ti_m5, ti_m10, ti_m11, ti_m12, ti_m13, ti_m14] at c_3); omega)]), by rw [htZ]; exact hP9, va_K.moved hW.alike hK9, hD9⟩, hS.F htZ⟩) hS.2.2 dX11_spaceBits_21
      · refine lv_iload_n hx hb dX11_spaceBits_15 rfl (lv_at hl 1 rfl) ?_
        refine lv_iconst (v := 4) hx hb dX11_spaceBits_16 (by decide) ?_
        refine lv_icmp_le (tgt := 22) hx hb dX11_spaceBits_17 (by decide) (fun c_4 => ?_) (fun c_4 => ?_)
        · refine lv_iload_n hx hb dX11_spaceBits_22 rfl (lv_at hl 2 rfl) ?_
          refine lv_if_lt (tgt := 31) hx hb dX11_spaceBits_23 (by decide) (fun c_5 => ?_) (fun c_5 => ?_)
          · refine lv_iconst (v := (-1)) hx hb dX11_spaceBits_31 (by decide) ?_
            have hP9 := hP.sub (ws' := []) [] rfl
            have hD9 := hD.sub (ws' := []) [] (by decide) rfl
            have hK9 := hK.sub (tys' := []) [] rfl
            exact W.iret (v := (-1)) hx hb hr (fun tZ htZ hW => ⟨⟨(-1), (), rfl, (by unfold sb_v; rw [if_neg (by (try simp only [fa_lt, fa_le, fa_eq, ti_0, ti_1, ti_2, ti_3, ti_4, ti_5, ti_6, ti_8, ti_9, ti_10, ti_12, ti_18, ti_59, ti_60, ti_100, ti_127, ti_m1, ti_m2, ti_m3, ti_m4, ti_m5, ti_m10, ti_m11, ti_m12, ti_m13, ti_m14] at c_1); (try simp only [fa_lt, fa_le, fa_eq, ti_0, ti_1, ti_2, ti_3, ti_4, ti_5, ti_6, ti_8, ti_9, ti_10, ti_12, ti_18, ti_59, ti_60, ti_100, ti_127, ti_m1, ti_m2, ti_m3, ti_m4, ti_m5, ti_m10, ti_m11, ti_m12, ti_m13, ti_m14] at c_2); (try simp only [fa_lt, fa_le, fa_eq, ti_0, ti_1, ti_2, ti_3, ti_4, ti_5, ti_6, ti_8, ti_9, ti_10, ti_12, ti_18, ti_59, ti_60, ti_100, ti_127, ti_m1, ti_m2, ti_m3, ti_m4, ti_m5, ti_m10, ti_m11, ti_m12, ti_m13, ti_m14] at c_3); (try simp only [fa_lt, fa_le, fa_eq, ti_0, ti_1, ti_2, ti_3, ti_4, ti_5, ti_6, ti_8, ti_9, ti_10, ti_12, ti_18, ti_59, ti_60, ti_100, ti_127, ti_m1, ti_m2, ti_m3, ti_m4, ti_m5, ti_m10, ti_m11, ti_m12, ti_m13, ti_m14] at c_4); (try simp only [fa_lt, fa_le, fa_eq, ti_0, ti_1, ti_2, ti_3, ti_4, ti_5, ti_6, ti_8, ti_9, ti_10, ti_12, ti_18, ti_59, ti_60, ti_100, ti_127, ti_m1, ti_m2, ti_m3, ti_m4, ti_m5, ti_m10, ti_m11, ti_m12, ti_m13, ti_m14] at c_5); omega)]), by rw [htZ]; exact hP9, va_K.moved hW.alike hK9, hD9⟩, hS.F htZ⟩) hS.2.2 dX11_spaceBits_32
          · refine lv_iload_n hx hb dX11_spaceBits_26 rfl (lv_at hl 2 rfl) ?_
            refine lv_iconst (v := 3) hx hb dX11_spaceBits_27 (by decide) ?_
            refine lv_icmp_le (tgt := 33) hx hb dX11_spaceBits_28 (by decide) (fun c_6 => ?_) (fun c_6 => ?_)
            · refine lv_iload_n hx hb dX11_spaceBits_33 rfl (lv_at hl 0 rfl) ?_
              refine lv_iload_n hx hb dX11_spaceBits_34 rfl (lv_at hl 1 rfl) ?_
              refine lv_imul hx hb dX11_spaceBits_35 ?_
              refine lv_topi (fun x_7 ex_7 => ?_)
              refine lv_iload_n hx hb dX11_spaceBits_36 rfl (lv_at hl 0 rfl) ?_
              refine lv_iload_n hx hb dX11_spaceBits_37 rfl (lv_at hl 0 rfl) ?_
              refine lv_imul hx hb dX11_spaceBits_38 ?_
              refine lv_topi (fun x_8 ex_8 => ?_)
              refine lv_iload_n hx hb dX11_spaceBits_39 rfl (lv_at hl 2 rfl) ?_
              refine lv_imul hx hb dX11_spaceBits_40 ?_
              refine lv_topi (fun x_9 ex_9 => ?_)
              refine lv_iadd hx hb dX11_spaceBits_41 ?_
              refine lv_topi (fun x_10 ex_10 => ?_)
              refine lv_istore_n (lv' := [(3, .int x_10), (0, .int w), (1, .int k), (2, .int g)]) hx hb dX11_spaceBits_42 rfl hl (by decide) rfl (fun ls hl => ?_)
              refine lv_iload_n hx hb dX11_spaceBits_43 rfl (lv_at hl 0 rfl) ?_
              refine lv_bipush (v := 10) hx hb dX11_spaceBits_44 (by decide) ?_
              refine lv_icmp_le (tgt := 53) hx hb dX11_spaceBits_46 (by decide) (fun c_11 => ?_) (fun c_11 => ?_)
              · refine lv_iload_n hx hb dX11_spaceBits_53 rfl (lv_at hl 0 rfl) ?_
                have hP9 := hP.sub (ws' := []) [] rfl
                have hD9 := hD.sub (ws' := []) [] (by decide) rfl
                have hK9 := hK.sub (tys' := []) [] rfl
                exact W.iret (v := x_10) hx hb hr (fun tZ htZ hW => ⟨⟨x_10, (), rfl, (by unfold sb_v; rw [if_pos (by (try rw [ex_10, ex_9, ex_8, ex_7] at c_11); (try simp only [fa_lt, fa_le, fa_eq, ti_0, ti_1, ti_2, ti_3, ti_4, ti_5, ti_6, ti_8, ti_9, ti_10, ti_12, ti_18, ti_59, ti_60, ti_100, ti_127, ti_m1, ti_m2, ti_m3, ti_m4, ti_m5, ti_m10, ti_m11, ti_m12, ti_m13, ti_m14] at c_1); (try simp only [fa_lt, fa_le, fa_eq, ti_0, ti_1, ti_2, ti_3, ti_4, ti_5, ti_6, ti_8, ti_9, ti_10, ti_12, ti_18, ti_59, ti_60, ti_100, ti_127, ti_m1, ti_m2, ti_m3, ti_m4, ti_m5, ti_m10, ti_m11, ti_m12, ti_m13, ti_m14] at c_2); (try simp only [fa_lt, fa_le, fa_eq, ti_0, ti_1, ti_2, ti_3, ti_4, ti_5, ti_6, ti_8, ti_9, ti_10, ti_12, ti_18, ti_59, ti_60, ti_100, ti_127, ti_m1, ti_m2, ti_m3, ti_m4, ti_m5, ti_m10, ti_m11, ti_m12, ti_m13, ti_m14] at c_3); (try simp only [fa_lt, fa_le, fa_eq, ti_0, ti_1, ti_2, ti_3, ti_4, ti_5, ti_6, ti_8, ti_9, ti_10, ti_12, ti_18, ti_59, ti_60, ti_100, ti_127, ti_m1, ti_m2, ti_m3, ti_m4, ti_m5, ti_m10, ti_m11, ti_m12, ti_m13, ti_m14] at c_4); (try simp only [fa_lt, fa_le, fa_eq, ti_0, ti_1, ti_2, ti_3, ti_4, ti_5, ti_6, ti_8, ti_9, ti_10, ti_12, ti_18, ti_59, ti_60, ti_100, ti_127, ti_m1, ti_m2, ti_m3, ti_m4, ti_m5, ti_m10, ti_m11, ti_m12, ti_m13, ti_m14] at c_5); (try simp only [fa_lt, fa_le, fa_eq, ti_0, ti_1, ti_2, ti_3, ti_4, ti_5, ti_6, ti_8, ti_9, ti_10, ti_12, ti_18, ti_59, ti_60, ti_100, ti_127, ti_m1, ti_m2, ti_m3, ti_m4, ti_m5, ti_m10, ti_m11, ti_m12, ti_m13, ti_m14] at c_6); (try simp only [fa_lt, fa_le, fa_eq, ti_0, ti_1, ti_2, ti_3, ti_4, ti_5, ti_6, ti_8, ti_9, ti_10, ti_12, ti_18, ti_59, ti_60, ti_100, ti_127, ti_m1, ti_m2, ti_m3, ti_m4, ti_m5, ti_m10, ti_m11, ti_m12, ti_m13, ti_m14] at c_11); omega)]; rw [ex_10, ex_9, ex_8, ex_7]), by rw [htZ]; exact hP9, va_K.moved hW.alike hK9, hD9⟩, hS.F htZ⟩) hS.2.2 dX11_spaceBits_54
              · refine lv_iconst (v := (-1)) hx hb dX11_spaceBits_49 (by decide) ?_
                refine lv_goto (tgt := 54) hx hb dX11_spaceBits_50 (by decide) ?_
                have hP9 := hP.sub (ws' := []) [] rfl
                have hD9 := hD.sub (ws' := []) [] (by decide) rfl
                have hK9 := hK.sub (tys' := []) [] rfl
                exact W.iret (v := (-1)) hx hb hr (fun tZ htZ hW => ⟨⟨(-1), (), rfl, (by unfold sb_v; rw [if_neg (by (try rw [ex_10, ex_9, ex_8, ex_7] at c_11); (try simp only [fa_lt, fa_le, fa_eq, ti_0, ti_1, ti_2, ti_3, ti_4, ti_5, ti_6, ti_8, ti_9, ti_10, ti_12, ti_18, ti_59, ti_60, ti_100, ti_127, ti_m1, ti_m2, ti_m3, ti_m4, ti_m5, ti_m10, ti_m11, ti_m12, ti_m13, ti_m14] at c_1); (try simp only [fa_lt, fa_le, fa_eq, ti_0, ti_1, ti_2, ti_3, ti_4, ti_5, ti_6, ti_8, ti_9, ti_10, ti_12, ti_18, ti_59, ti_60, ti_100, ti_127, ti_m1, ti_m2, ti_m3, ti_m4, ti_m5, ti_m10, ti_m11, ti_m12, ti_m13, ti_m14] at c_2); (try simp only [fa_lt, fa_le, fa_eq, ti_0, ti_1, ti_2, ti_3, ti_4, ti_5, ti_6, ti_8, ti_9, ti_10, ti_12, ti_18, ti_59, ti_60, ti_100, ti_127, ti_m1, ti_m2, ti_m3, ti_m4, ti_m5, ti_m10, ti_m11, ti_m12, ti_m13, ti_m14] at c_3); (try simp only [fa_lt, fa_le, fa_eq, ti_0, ti_1, ti_2, ti_3, ti_4, ti_5, ti_6, ti_8, ti_9, ti_10, ti_12, ti_18, ti_59, ti_60, ti_100, ti_127, ti_m1, ti_m2, ti_m3, ti_m4, ti_m5, ti_m10, ti_m11, ti_m12, ti_m13, ti_m14] at c_4); (try simp only [fa_lt, fa_le, fa_eq, ti_0, ti_1, ti_2, ti_3, ti_4, ti_5, ti_6, ti_8, ti_9, ti_10, ti_12, ti_18, ti_59, ti_60, ti_100, ti_127, ti_m1, ti_m2, ti_m3, ti_m4, ti_m5, ti_m10, ti_m11, ti_m12, ti_m13, ti_m14] at c_5); (try simp only [fa_lt, fa_le, fa_eq, ti_0, ti_1, ti_2, ti_3, ti_4, ti_5, ti_6, ti_8, ti_9, ti_10, ti_12, ti_18, ti_59, ti_60, ti_100, ti_127, ti_m1, ti_m2, ti_m3, ti_m4, ti_m5, ti_m10, ti_m11, ti_m12, ti_m13, ti_m14] at c_6); (try simp only [fa_lt, fa_le, fa_eq, ti_0, ti_1, ti_2, ti_3, ti_4, ti_5, ti_6, ti_8, ti_9, ti_10, ti_12, ti_18, ti_59, ti_60, ti_100, ti_127, ti_m1, ti_m2, ti_m3, ti_m4, ti_m5, ti_m10, ti_m11, ti_m12, ti_m13, ti_m14] at c_11); omega)]), by rw [htZ]; exact hP9, va_K.moved hW.alike hK9, hD9⟩, hS.F htZ⟩) hS.2.2 dX11_spaceBits_54
            · refine lv_iconst (v := (-1)) hx hb dX11_spaceBits_31 (by decide) ?_
              have hP9 := hP.sub (ws' := []) [] rfl
              have hD9 := hD.sub (ws' := []) [] (by decide) rfl
              have hK9 := hK.sub (tys' := []) [] rfl
              exact W.iret (v := (-1)) hx hb hr (fun tZ htZ hW => ⟨⟨(-1), (), rfl, (by unfold sb_v; rw [if_neg (by (try simp only [fa_lt, fa_le, fa_eq, ti_0, ti_1, ti_2, ti_3, ti_4, ti_5, ti_6, ti_8, ti_9, ti_10, ti_12, ti_18, ti_59, ti_60, ti_100, ti_127, ti_m1, ti_m2, ti_m3, ti_m4, ti_m5, ti_m10, ti_m11, ti_m12, ti_m13, ti_m14] at c_1); (try simp only [fa_lt, fa_le, fa_eq, ti_0, ti_1, ti_2, ti_3, ti_4, ti_5, ti_6, ti_8, ti_9, ti_10, ti_12, ti_18, ti_59, ti_60, ti_100, ti_127, ti_m1, ti_m2, ti_m3, ti_m4, ti_m5, ti_m10, ti_m11, ti_m12, ti_m13, ti_m14] at c_2); (try simp only [fa_lt, fa_le, fa_eq, ti_0, ti_1, ti_2, ti_3, ti_4, ti_5, ti_6, ti_8, ti_9, ti_10, ti_12, ti_18, ti_59, ti_60, ti_100, ti_127, ti_m1, ti_m2, ti_m3, ti_m4, ti_m5, ti_m10, ti_m11, ti_m12, ti_m13, ti_m14] at c_3); (try simp only [fa_lt, fa_le, fa_eq, ti_0, ti_1, ti_2, ti_3, ti_4, ti_5, ti_6, ti_8, ti_9, ti_10, ti_12, ti_18, ti_59, ti_60, ti_100, ti_127, ti_m1, ti_m2, ti_m3, ti_m4, ti_m5, ti_m10, ti_m11, ti_m12, ti_m13, ti_m14] at c_4); (try simp only [fa_lt, fa_le, fa_eq, ti_0, ti_1, ti_2, ti_3, ti_4, ti_5, ti_6, ti_8, ti_9, ti_10, ti_12, ti_18, ti_59, ti_60, ti_100, ti_127, ti_m1, ti_m2, ti_m3, ti_m4, ti_m5, ti_m10, ti_m11, ti_m12, ti_m13, ti_m14] at c_5); (try simp only [fa_lt, fa_le, fa_eq, ti_0, ti_1, ti_2, ti_3, ti_4, ti_5, ti_6, ti_8, ti_9, ti_10, ti_12, ti_18, ti_59, ti_60, ti_100, ti_127, ti_m1, ti_m2, ti_m3, ti_m4, ti_m5, ti_m10, ti_m11, ti_m12, ti_m13, ti_m14] at c_6); omega)]), by rw [htZ]; exact hP9, va_K.moved hW.alike hK9, hD9⟩, hS.F htZ⟩) hS.2.2 dX11_spaceBits_32
        · refine lv_iconst (v := (-1)) hx hb dX11_spaceBits_20 (by decide) ?_
          have hP9 := hP.sub (ws' := []) [] rfl
          have hD9 := hD.sub (ws' := []) [] (by decide) rfl
          have hK9 := hK.sub (tys' := []) [] rfl
          exact W.iret (v := (-1)) hx hb hr (fun tZ htZ hW => ⟨⟨(-1), (), rfl, (by unfold sb_v; rw [if_neg (by (try simp only [fa_lt, fa_le, fa_eq, ti_0, ti_1, ti_2, ti_3, ti_4, ti_5, ti_6, ti_8, ti_9, ti_10, ti_12, ti_18, ti_59, ti_60, ti_100, ti_127, ti_m1, ti_m2, ti_m3, ti_m4, ti_m5, ti_m10, ti_m11, ti_m12, ti_m13, ti_m14] at c_1); (try simp only [fa_lt, fa_le, fa_eq, ti_0, ti_1, ti_2, ti_3, ti_4, ti_5, ti_6, ti_8, ti_9, ti_10, ti_12, ti_18, ti_59, ti_60, ti_100, ti_127, ti_m1, ti_m2, ti_m3, ti_m4, ti_m5, ti_m10, ti_m11, ti_m12, ti_m13, ti_m14] at c_2); (try simp only [fa_lt, fa_le, fa_eq, ti_0, ti_1, ti_2, ti_3, ti_4, ti_5, ti_6, ti_8, ti_9, ti_10, ti_12, ti_18, ti_59, ti_60, ti_100, ti_127, ti_m1, ti_m2, ti_m3, ti_m4, ti_m5, ti_m10, ti_m11, ti_m12, ti_m13, ti_m14] at c_3); (try simp only [fa_lt, fa_le, fa_eq, ti_0, ti_1, ti_2, ti_3, ti_4, ti_5, ti_6, ti_8, ti_9, ti_10, ti_12, ti_18, ti_59, ti_60, ti_100, ti_127, ti_m1, ti_m2, ti_m3, ti_m4, ti_m5, ti_m10, ti_m11, ti_m12, ti_m13, ti_m14] at c_4); omega)]), by rw [htZ]; exact hP9, va_K.moved hW.alike hK9, hD9⟩, hS.F htZ⟩) hS.2.2 dX11_spaceBits_21
theorem dX11_loadModel_0 : decode cX11_loadModel 0 = .ok (.iload_n 1, 1) := by decide +kernel
theorem dX11_loadModel_1 : decode cX11_loadModel 1 = .ok (.iload_n 2, 1) := by decide +kernel
theorem dX11_loadModel_2 : decode cX11_loadModel 2 = .ok (.iload_n 3, 1) := by decide +kernel
theorem dX11_loadModel_3 : decode cX11_loadModel 3 = .ok (.invokestatic 151, 3) := by decide +kernel
theorem dX11_loadModel_6 : decode cX11_loadModel 6 = .ok (.istore 5, 2) := by decide +kernel
theorem dX11_loadModel_8 : decode cX11_loadModel 8 = .ok (.iload 5, 2) := by decide +kernel
theorem dX11_loadModel_10 : decode cX11_loadModel 10 = .ok (.iconst (-1), 1) := by decide +kernel
theorem dX11_loadModel_11 : decode cX11_loadModel 11 = .ok (.if_icmp .eq 17, 3) := by decide +kernel
theorem dX11_loadModel_14 : decode cX11_loadModel 14 = .ok (.iload 4, 2) := by decide +kernel
theorem dX11_loadModel_16 : decode cX11_loadModel 16 = .ok (.ifCond .lt 12, 3) := by decide +kernel
theorem dX11_loadModel_19 : decode cX11_loadModel 19 = .ok (.iload 4, 2) := by decide +kernel
theorem dX11_loadModel_21 : decode cX11_loadModel 21 = .ok (.iconst 1, 1) := by decide +kernel
theorem dX11_loadModel_22 : decode cX11_loadModel 22 = .ok (.iload 5, 2) := by decide +kernel
theorem dX11_loadModel_24 : decode cX11_loadModel 24 = .ok (.ishl, 1) := by decide +kernel
theorem dX11_loadModel_25 : decode cX11_loadModel 25 = .ok (.if_icmp .lt 6, 3) := by decide +kernel
theorem dX11_loadModel_28 : decode cX11_loadModel 28 = .ok (.bipush (-2), 2) := by decide +kernel
theorem dX11_loadModel_30 : decode cX11_loadModel 30 = .ok (.ireturn, 1) := by decide +kernel
theorem dX11_loadModel_31 : decode cX11_loadModel 31 = .ok (.aload_n 0, 1) := by decide +kernel
theorem dX11_loadModel_32 : decode cX11_loadModel 32 = .ok (.getfield 12, 3) := by decide +kernel
theorem dX11_loadModel_35 : decode cX11_loadModel 35 = .ok (.iload_n 1, 1) := by decide +kernel
theorem dX11_loadModel_36 : decode cX11_loadModel 36 = .ok (.iload_n 2, 1) := by decide +kernel
theorem dX11_loadModel_37 : decode cX11_loadModel 37 = .ok (.iload_n 3, 1) := by decide +kernel
theorem dX11_loadModel_38 : decode cX11_loadModel 38 = .ok (.iload 4, 2) := by decide +kernel
theorem dX11_loadModel_40 : decode cX11_loadModel 40 = .ok (.invokevirtual 155, 3) := by decide +kernel
theorem dX11_loadModel_43 : decode cX11_loadModel 43 = .ok (.iload_n 1, 1) := by decide +kernel
theorem dX11_loadModel_44 : decode cX11_loadModel 44 = .ok (.ireturn, 1) := by decide +kernel
def wo_X11_loadModel : List Cond := [.methodLink RX11 151 yX11_spaceBits, .static yX11_spaceBits, .initialized RX11, .fieldLink RX11 12 "DynamicLogicProver" "model" "LDynamicLogicProver$Model;", .methodLink RX11 155 yX3_decode, .instanceMethod yX3_decode, .selects RX3 yX3_decode yX3_decode, .initialized RX3]
def wd_X11_loadModel : List Cond := .code yX11_loadModel cX11_loadModel 6 (some .int) :: (wo_X11_loadModel ++ (wd_X11_spaceBits ++ (wd_X3_decode ++ (wsX110 ++ ([] : List Cond)))))
theorem mo_X11_loadModel {w : Cond} (i : Nat) (h : wo_X11_loadModel[i]? = some w) : w ∈ wd_X11_loadModel := List.mem_cons_of_mem _ (List.mem_append_left _ (List.mem_of_getElem? h))
theorem mb_X11_loadModel_0 : ∀ w ∈ wd_X11_spaceBits, w ∈ wd_X11_loadModel := fun w h => List.mem_cons_of_mem _ (List.mem_append_right _ (List.mem_append_left _ h))
theorem mb_X11_loadModel_1 : ∀ w ∈ wd_X3_decode, w ∈ wd_X11_loadModel := fun w h => List.mem_cons_of_mem _ (List.mem_append_right _ (List.mem_append_right _ (List.mem_append_left _ h)))
theorem mb_X11_loadModel_2 : ∀ w ∈ wsX110, w ∈ wd_X11_loadModel := fun w h => List.mem_cons_of_mem _ (List.mem_append_right _ (List.mem_append_right _ (List.mem_append_right _ (List.mem_append_left _ h))))
theorem hd_X11_loadModel : yX11_loadModel.cls ≠ "java/lang/invoke/MethodHandle" ∧ yX11_loadModel.cls ≠ "java/lang/invoke/VarHandle" ∧ (parseMethodDescriptor yX11_loadModel.desc).map (fun d => d.parameters.length) = some 4 := by decide +kernel
set_option maxRecDepth 20000 in
theorem gw_X11_loadModel : wd_X11_loadModel.all goodWord = true := by decide +kernel
abbrev qc_X11_loadModel (D : va_G) (x : Nat) (mo : Nat) (sm : Nat) (sc : Nat) (fo : Nat) (sf : Nat) (bu : Nat) (po : Nat) (te : Nat) (pa : Nat) (rw : Nat) (tr : Nat) (cl : Nat) (pt : Nat) (ru : Nat) (de : Nat) (mt : Nat) (mv : Nat) (kmt : ClassId) (kmv : ClassId) (w : Int32) (k : Int32) (g : Int32) (q : Int32) (A : Nat → Prop) : Array Value → State → Outcome → State → Prop := va_Qi (fun (r : Int32) (uZ : Unit) => r = an_loadModel w k g q) (fun uZ tZ => kc_pos D A [] [] tZ) A
set_option maxHeartbeats 4000000 in
set_option maxRecDepth 100000 in
theorem ct_X11_loadModel (l : Launch) (D : va_G) (x : Nat) (mo : Nat) (sm : Nat) (sc : Nat) (fo : Nat) (sf : Nat) (bu : Nat) (po : Nat) (te : Nat) (pa : Nat) (rw : Nat) (tr : Nat) (cl : Nat) (pt : Nat) (ru : Nat) (de : Nat) (mt : Nat) (mv : Nat) (kmt : ClassId) (kmv : ClassId) (w : Int32) (k : Int32) (g : Int32) (q : Int32) (sz : Nat)  : Met l yX11_loadModel wd_X11_loadModel ({ frames := 3, cells := 0, slots := 0, locals := 73 }) (va_Pc [.ref x, .int w, .int k, .int g, .int q] (kc_pre D [(kmt, .int), (kmv, .int)] [(x, .inr (11, [.ref mo, .ref sm, .ref sc, .ref fo, .ref sf, .ref bu, .ref po, .ref te, .ref pa, .ref rw, .ref tr, .ref cl, .ref pt, .ref ru, .ref de, .int 0, .int 0])), (mo, .inr (3, [.ref mt, .ref mv, .int 1])), (mt, .inl (kmt, 4, .inl (fun _ => 0))), (mv, .inl (kmv, 18, .inl (fun _ => 0)))] sz)) (qc_X11_loadModel D x mo sm sc fo sf bu po te pa rw tr cl pt ru de mt mv kmt kmv w k g q (va_A [(x, .inr (11, [.ref mo, .ref sm, .ref sc, .ref fo, .ref sf, .ref bu, .ref po, .ref te, .ref pa, .ref rw, .ref tr, .ref cl, .ref pt, .ref ru, .ref de, .int 0, .int 0])), (mo, .inr (3, [.ref mt, .ref mv, .int 1])), (mt, .inl (kmt, 4, .inl (fun _ => 0))), (mv, .inl (kmv, 18, .inl (fun _ => 0)))] sz)) 0 0 (va_A [(x, .inr (11, [.ref mo, .ref sm, .ref sc, .ref fo, .ref sf, .ref bu, .ref po, .ref te, .ref pa, .ref rw, .ref tr, .ref cl, .ref pt, .ref ru, .ref de, .int 0, .int 0])), (mo, .inr (3, [.ref mt, .ref mv, .int 1])), (mt, .inl (kmt, 4, .inl (fun _ => 0))), (mv, .inl (kmv, 18, .inl (fun _ => 0)))] sz) := by
  refine Met.ofW (cc := cX11_loadModel) (maxL := 6) (ret := (some .int)) (by decide) rfl ?_
  intro p e s m args below meth c s₁ B hml hv
  obtain ⟨rfl, hsz, hP, hK, hN, hD0⟩ := hv
  have hx := B.exec
  have hb := B.bytes
  have hr := B.returns
  have hts := atoms_spec (ws := wd_X11_loadModel) B.pre
  have hown : s.vm.findClass RX11 = some m.cls := findClass_of_methodNamed B.named
  have hlocks := B.notSynchronized
  subst hsz
  have hD := hD0.self (sz := s.heap.size)
  generalize hAe : va_A [(x, .inr (11, [.ref mo, .ref sm, .ref sc, .ref fo, .ref sf, .ref bu, .ref po, .ref te, .ref pa, .ref rw, .ref tr, .ref cl, .ref pt, .ref ru, .ref de, .int 0, .int 0])), (mo, .inr (3, [.ref mt, .ref mv, .int 1])), (mt, .inl (kmt, 4, .inl (fun _ => 0))), (mv, .inl (kmv, 18, .inl (fun _ => 0)))] s.heap.size = A at hD ⊢
  have hA : ∀ q : Nat, s.heap.size ≤ q → A q := fun q h => by rw [← hAe]; exact Or.inr h
  have hS : va_S A s.heap s.heap [] := va_S.rf
  have hiX11 : ∀ w ∈ wsX110, w ∈ wd_X11_loadModel := mb_X11_loadModel_2
  have hl := lv_entry ([.ref x, .int w, .int k, .int g, .int q]) (n := 6) (Nat.le_of_ble_eq_true rfl)
  rw [lg_entry_eq]
  generalize (lg_sl ([.ref x, .int w, .int k, .int g, .int q]) ++ List.replicate (6 - (lg_sl ([.ref x, .int w, .int k, .int g, .int q])).length) Slot.unset).toArray = ls at hl ⊢
  have hl : lv_has ls 6 [(0, .ref x), (1, .int w), (2, .int k), (3, .int g), (4, .int q)] := hl
  refine lv_iload_n hx hb dX11_loadModel_0 rfl (lv_at hl 1 rfl) ?_
  refine lv_iload_n hx hb dX11_loadModel_1 rfl (lv_at hl 2 rfl) ?_
  refine lv_iload_n hx hb dX11_loadModel_2 rfl (lv_at hl 3 rfl) ?_
  refine kc_Si (As := [.int w, .int k, .int g]) (rest := []) (wr := [(x, .inr (11, [.ref mo, .ref sm, .ref sc, .ref fo, .ref sf, .ref bu, .ref po, .ref te, .ref pa, .ref rw, .ref tr, .ref cl, .ref pt, .ref ru, .ref de, .int 0, .int 0])), (mo, .inr (3, [.ref mt, .ref mv, .int 1])), (mt, .inl (kmt, 4, .inl (fun _ => 0))), (mv, .inl (kmv, 18, .inl (fun _ => 0)))]) ⟨hx, hb, hml, hown, hts⟩ (ct_X11_spaceBits l D w k g _ ) (va_cwS 3 hts (kg_S (mo_X11_loadModel 0 rfl) (mo_X11_loadModel 1 rfl) (mo_X11_loadModel 2 rfl) (goodIn_sub mb_X11_loadModel_0 gw_X11_spaceBits)) rfl rfl rfl hd_X11_spaceBits ⟨Nat.le_of_ble_eq_true rfl, Nat.le_of_ble_eq_true rfl⟩) hK hN hP hD hS hA [] [0, 1, 2, 3] [] rfl rfl (by decide) (by decide) (by decide) rfl rfl hl.1 rfl (Nat.le_of_ble_eq_true rfl) dX11_loadModel_3 ⟨Nat.le_of_ble_eq_true rfl, Nat.le_of_ble_eq_true rfl⟩ (fun r_1 u_2 H locs w_3 hP hD hK1 hS => ?_)
  have hP : va_P D vwCl [(x, .inr (11, [.ref mo, .ref sm, .ref sc, .ref fo, .ref sf, .ref bu, .ref po, .ref te, .ref pa, .ref rw, .ref tr, .ref cl, .ref pt, .ref ru, .ref de, .int 0, .int 0])), (mo, .inr (3, [.ref mt, .ref mv, .int 1])), (mt, .inl (kmt, 4, .inl (fun _ => 0))), (mv, .inl (kmv, 18, .inl (fun _ => 0)))] H := hP
  have hD : va_D A [(x, .inr (11, [.ref mo, .ref sm, .ref sc, .ref fo, .ref sf, .ref bu, .ref po, .ref te, .ref pa, .ref rw, .ref tr, .ref cl, .ref pt, .ref ru, .ref de, .int 0, .int 0])), (mo, .inr (3, [.ref mt, .ref mv, .int 1])), (mt, .inl (kmt, 4, .inl (fun _ => 0))), (mv, .inl (kmv, 18, .inl (fun _ => 0)))] := hD
  have w_3 : r_1 = sb_v w k g := w_3
  refine lv_istore (lv' := [(5, .int r_1), (0, .ref x), (1, .int w), (2, .int k), (3, .int g), (4, .int q)]) hx hb dX11_loadModel_6 hl (by decide) rfl (fun ls hl => ?_)
  refine lv_iload hx hb dX11_loadModel_8 (lv_at hl 0 rfl) ?_
  refine lv_iconst (v := (-1)) hx hb dX11_loadModel_10 (by decide) ?_
  refine lv_icmp_eq (tgt := 28) hx hb dX11_loadModel_11 (by decide) (fun c_4 => ?_) (fun c_4 => ?_)
  · refine lv_bipush (v := (-2)) hx hb dX11_loadModel_28 (by decide) ?_
    have hP9 := hP.sub (ws' := []) [] rfl
    have hD9 := hD.sub (ws' := []) [] (by decide) rfl
    have hK9 := hK.sub (tys' := []) [] rfl
    exact W.iret (v := (-2)) hx hb hr (fun tZ htZ hW => ⟨⟨(-2), (), rfl, (by unfold an_loadModel; rw [← w_3]; exact (if_pos (Or.inl c_4)).symm), by rw [htZ]; exact hP9, va_K.moved hW.alike hK9, hD9⟩, hS.F htZ⟩) hS.2.2 dX11_loadModel_30
  · refine lv_iload hx hb dX11_loadModel_14 (lv_at hl 5 rfl) ?_
    refine lv_if_lt (tgt := 28) hx hb dX11_loadModel_16 (by decide) (fun c_5 => ?_) (fun c_5 => ?_)
    · refine lv_bipush (v := (-2)) hx hb dX11_loadModel_28 (by decide) ?_
      have hP9 := hP.sub (ws' := []) [] rfl
      have hD9 := hD.sub (ws' := []) [] (by decide) rfl
      have hK9 := hK.sub (tys' := []) [] rfl
      exact W.iret (v := (-2)) hx hb hr (fun tZ htZ hW => ⟨⟨(-2), (), rfl, (by unfold an_loadModel; rw [← w_3]; exact (if_pos (Or.inr (Or.inl c_5))).symm), by rw [htZ]; exact hP9, va_K.moved hW.alike hK9, hD9⟩, hS.F htZ⟩) hS.2.2 dX11_loadModel_30
    · refine lv_iload hx hb dX11_loadModel_19 (lv_at hl 5 rfl) ?_
      refine lv_iconst (v := 1) hx hb dX11_loadModel_21 (by decide) ?_
      refine lv_iload hx hb dX11_loadModel_22 (lv_at hl 0 rfl) ?_
      refine lv_ishl hx hb dX11_loadModel_24 ?_
      refine lv_topi (fun x_6 ex_6 => ?_)
      refine lv_icmp_lt (tgt := 31) hx hb dX11_loadModel_25 (by decide) (fun c_7 => ?_) (fun c_7 => ?_)
      · obtain ⟨⟨N, hN6, eN⟩, ⟨L, hL4, eL⟩, ⟨M, hM3, eM⟩⟩ := sb_ok (fun q => c_4 (w_3.trans q))
        subst eN eL eM
        refine lv_aload_n hx hb dX11_loadModel_31 rfl (lv_at hl 1 rfl) ?_
        refine va_get (D := D) (ci := 11) (v := .ref mo) (C := RX11) (T := TX11) (N := 17) hx hb hts hiX11 hown hK hP 0 rfl rfl 0 (by decide) (hts (.fieldLink RX11 12 "DynamicLogicProver" "model" "LDynamicLogicProver$Model;") (mo_X11_loadModel 3 rfl)) (fun _ h9 => h9) rfl dX11_loadModel_32 ?_
        refine lv_iload_n hx hb dX11_loadModel_35 rfl (lv_at hl 2 rfl) ?_
        refine lv_iload_n hx hb dX11_loadModel_36 rfl (lv_at hl 3 rfl) ?_
        refine lv_iload_n hx hb dX11_loadModel_37 rfl (lv_at hl 4 rfl) ?_
        refine lv_iload hx hb dX11_loadModel_38 (lv_at hl 5 rfl) ?_
        refine kc_Vv (As := [.int (nI N), .int (nI L), .int (nI M), .int q]) (rest := []) (wr := [(x, .inr (11, [.ref mo, .ref sm, .ref sc, .ref fo, .ref sf, .ref bu, .ref po, .ref te, .ref pa, .ref rw, .ref tr, .ref cl, .ref pt, .ref ru, .ref de, .int 0, .int 0]))]) ⟨hx, hb, hml, hown, hts⟩ (ct_X3_decode l D mo mt mv kmt kmv (fun _ => 0) (fun _ => 0) 1 N L M q _ hN6 hL4 hM3) (cwV 4 hts (kg_V (mo_X11_loadModel 4 rfl) (mo_X11_loadModel 5 rfl) (mo_X11_loadModel 6 rfl) (mo_X11_loadModel 7 rfl) (goodIn_sub mb_X11_loadModel_1 gw_X3_decode)) rfl rfl rfl ⟨rfl, hd_X3_decode⟩ ⟨Nat.le_of_ble_eq_true rfl, Nat.le_of_ble_eq_true rfl⟩) (RX3, TX3, 3) 3 1 rfl rfl rfl hK hN hP hD hS hA [1, 2, 3] [0] [0, 1] rfl rfl (by decide) (by decide) (by decide) rfl rfl hl.1 rfl (Nat.le_of_ble_eq_true rfl) dX11_loadModel_40 ⟨Nat.le_of_ble_eq_true rfl, Nat.le_of_ble_eq_true rfl⟩ (fun u_9 H locs w_10 hP hD hK1 hS => ?_)
        obtain ⟨o_11, o_12⟩ := u_9
        have hP : va_P D vwCl [(x, .inr (11, [.ref mo, .ref sm, .ref sc, .ref fo, .ref sf, .ref bu, .ref po, .ref te, .ref pa, .ref rw, .ref tr, .ref cl, .ref pt, .ref ru, .ref de, .int 0, .int 0])), (mo, .inr (3, [.ref mt, .ref mv, .int (nI N)])), (mt, .inl (kmt, 4, .inl o_11)), (mv, .inl (kmv, 18, .inl o_12))] H := hP
        have hD : va_D A [(x, .inr (11, [.ref mo, .ref sm, .ref sc, .ref fo, .ref sf, .ref bu, .ref po, .ref te, .ref pa, .ref rw, .ref tr, .ref cl, .ref pt, .ref ru, .ref de, .int 0, .int 0])), (mo, .inr (3, [.ref mt, .ref mv, .int (nI N)])), (mt, .inl (kmt, 4, .inl o_11)), (mv, .inl (kmv, 18, .inl o_12))] := hD
        refine lv_iload_n hx hb dX11_loadModel_43 rfl (lv_at hl 2 rfl) ?_
        have hP9 := hP.sub (ws' := []) [] rfl
        have hD9 := hD.sub (ws' := []) [] (by decide) rfl
        have hK9 := hK.sub (tys' := []) [] rfl
        exact W.iret (v := nI N) hx hb hr (fun tZ htZ hW => ⟨⟨nI N, (), rfl, (by (rw [ex_6] at c_7); unfold an_loadModel; rw [← w_3]; exact (if_neg (fun q => by rcases q with q | q | q; exact c_4 q; exact c_5 q; exact q c_7)).symm), by rw [htZ]; exact hP9, va_K.moved hW.alike hK9, hD9⟩, hS.F htZ⟩) hS.2.2 dX11_loadModel_44
      · refine lv_bipush (v := (-2)) hx hb dX11_loadModel_28 (by decide) ?_
        have hP9 := hP.sub (ws' := []) [] rfl
        have hD9 := hD.sub (ws' := []) [] (by decide) rfl
        have hK9 := hK.sub (tys' := []) [] rfl
        exact W.iret (v := (-2)) hx hb hr (fun tZ htZ hW => ⟨⟨(-2), (), rfl, (by (try rw [ex_6] at c_7); unfold an_loadModel; rw [← w_3]; exact (if_pos (Or.inr (Or.inr c_7))).symm), by rw [htZ]; exact hP9, va_K.moved hW.alike hK9, hD9⟩, hS.F htZ⟩) hS.2.2 dX11_loadModel_30
theorem dX11_count_0 : decode cX11_count 0 = .ok (.iload_n 1, 1) := by decide +kernel
theorem dX11_count_1 : decode cX11_count 1 = .ok (.tableswitch 60 0 3 #[31, 39, 47, 55], 31) := by decide +kernel
theorem dX11_count_32 : decode cX11_count 32 = .ok (.aload_n 0, 1) := by decide +kernel
theorem dX11_count_33 : decode cX11_count 33 = .ok (.getfield 12, 3) := by decide +kernel
theorem dX11_count_36 : decode cX11_count 36 = .ok (.invokevirtual 117, 3) := by decide +kernel
theorem dX11_count_39 : decode cX11_count 39 = .ok (.ireturn, 1) := by decide +kernel
theorem dX11_count_40 : decode cX11_count 40 = .ok (.aload_n 0, 1) := by decide +kernel
theorem dX11_count_41 : decode cX11_count 41 = .ok (.getfield 12, 3) := by decide +kernel
theorem dX11_count_44 : decode cX11_count 44 = .ok (.invokevirtual 325, 3) := by decide +kernel
theorem dX11_count_47 : decode cX11_count 47 = .ok (.ireturn, 1) := by decide +kernel
theorem dX11_count_48 : decode cX11_count 48 = .ok (.aload_n 0, 1) := by decide +kernel
theorem dX11_count_49 : decode cX11_count 49 = .ok (.getfield 27, 3) := by decide +kernel
theorem dX11_count_52 : decode cX11_count 52 = .ok (.invokevirtual 219, 3) := by decide +kernel
theorem dX11_count_55 : decode cX11_count 55 = .ok (.ireturn, 1) := by decide +kernel
theorem dX11_count_56 : decode cX11_count 56 = .ok (.aload_n 0, 1) := by decide +kernel
theorem dX11_count_57 : decode cX11_count 57 = .ok (.getfield 109, 3) := by decide +kernel
theorem dX11_count_60 : decode cX11_count 60 = .ok (.ireturn, 1) := by decide +kernel
theorem dX11_count_61 : decode cX11_count 61 = .ok (.iconst (-1), 1) := by decide +kernel
theorem dX11_count_62 : decode cX11_count 62 = .ok (.ireturn, 1) := by decide +kernel
def wo_X11_count : List Cond := [.fieldLink RX11 12 "DynamicLogicProver" "model" "LDynamicLogicProver$Model;", .methodLink RX11 117 yX3_size, .instanceMethod yX3_size, .selects RX3 yX3_size yX3_size, .initialized RX3, .methodLink RX11 325 yX3_transitions, .instanceMethod yX3_transitions, .selects RX3 yX3_transitions yX3_transitions, .fieldLink RX11 27 "DynamicLogicProver" "formulas" "LDynamicLogicProver$Shelf;", .methodLink RX11 219 yX9_size, .instanceMethod yX9_size, .selects RX9 yX9_size yX9_size, .initialized RX9, .fieldLink RX11 109 "DynamicLogicProver" "textUsed" "I"]
def wd_X11_count : List Cond := .code yX11_count cX11_count 2 (some .int) :: (wo_X11_count ++ (wd_X3_size ++ (wd_X3_transitions0 ++ (wd_X9_size ++ (wsX110 ++ ([] : List Cond))))))
theorem mo_X11_count {w : Cond} (i : Nat) (h : wo_X11_count[i]? = some w) : w ∈ wd_X11_count := List.mem_cons_of_mem _ (List.mem_append_left _ (List.mem_of_getElem? h))
theorem mb_X11_count_0 : ∀ w ∈ wd_X3_size, w ∈ wd_X11_count := fun w h => List.mem_cons_of_mem _ (List.mem_append_right _ (List.mem_append_left _ h))
theorem mb_X11_count_1 : ∀ w ∈ wd_X3_transitions0, w ∈ wd_X11_count := fun w h => List.mem_cons_of_mem _ (List.mem_append_right _ (List.mem_append_right _ (List.mem_append_left _ h)))
theorem mb_X11_count_2 : ∀ w ∈ wd_X9_size, w ∈ wd_X11_count := fun w h => List.mem_cons_of_mem _ (List.mem_append_right _ (List.mem_append_right _ (List.mem_append_right _ (List.mem_append_left _ h))))
theorem mb_X11_count_3 : ∀ w ∈ wsX110, w ∈ wd_X11_count := fun w h => List.mem_cons_of_mem _ (List.mem_append_right _ (List.mem_append_right _ (List.mem_append_right _ (List.mem_append_right _ (List.mem_append_left _ h)))))
theorem hd_X11_count : yX11_count.cls ≠ "java/lang/invoke/MethodHandle" ∧ yX11_count.cls ≠ "java/lang/invoke/VarHandle" ∧ (parseMethodDescriptor yX11_count.desc).map (fun d => d.parameters.length) = some 1 := by decide +kernel
set_option maxRecDepth 20000 in
theorem gw_X11_count : wd_X11_count.all goodWord = true := by decide +kernel
abbrev qc_X11_count (D : va_G) (x : Nat) (mo : Nat) (sm : Nat) (sc : Nat) (fo : Nat) (sf : Nat) (bu : Nat) (po : Nat) (te : Nat) (pa : Nat) (rw : Nat) (tr : Nat) (cl : Nat) (pt : Nat) (ru : Nat) (de : Nat) (mt : Nat) (mv : Nat) (kmt : ClassId) (kmv : ClassId) (fa : Nat) (fb : Nat) (fd : Nat) (k : Int32) (A : Nat → Prop) : Array Value → State → Outcome → State → Prop := va_Qi (fun (r : Int32) (uZ : Unit) => r = an_count k) (fun uZ tZ => kc_pos D A [] [] tZ) A
set_option maxHeartbeats 4000000 in
set_option maxRecDepth 100000 in
theorem ct_X11_count (l : Launch) (D : va_G) (x : Nat) (mo : Nat) (sm : Nat) (sc : Nat) (fo : Nat) (sf : Nat) (bu : Nat) (po : Nat) (te : Nat) (pa : Nat) (rw : Nat) (tr : Nat) (cl : Nat) (pt : Nat) (ru : Nat) (de : Nat) (mt : Nat) (mv : Nat) (kmt : ClassId) (kmv : ClassId) (fa : Nat) (fb : Nat) (fd : Nat) (k : Int32) (sz : Nat)  : Met l yX11_count wd_X11_count ({ frames := 2, cells := 0, slots := 0, locals := 43 }) (va_Pc [.ref x, .int k] (kc_pre D [(kmt, .int), (kmv, .int)] [(x, .inr (11, [.ref mo, .ref sm, .ref sc, .ref fo, .ref sf, .ref bu, .ref po, .ref te, .ref pa, .ref rw, .ref tr, .ref cl, .ref pt, .ref ru, .ref de, .int 0, .int 0])), (mo, .inr (3, [.ref mt, .ref mv, .int 1])), (mt, .inl (kmt, 4, .inl (fun _ => 0))), (mv, .inl (kmv, 18, .inl (fun _ => 0))), (fo, .inr (9, [.ref fa, .ref fb, .ref fd, .int 0]))] sz)) (qc_X11_count D x mo sm sc fo sf bu po te pa rw tr cl pt ru de mt mv kmt kmv fa fb fd k (va_A [(x, .inr (11, [.ref mo, .ref sm, .ref sc, .ref fo, .ref sf, .ref bu, .ref po, .ref te, .ref pa, .ref rw, .ref tr, .ref cl, .ref pt, .ref ru, .ref de, .int 0, .int 0])), (mo, .inr (3, [.ref mt, .ref mv, .int 1])), (mt, .inl (kmt, 4, .inl (fun _ => 0))), (mv, .inl (kmv, 18, .inl (fun _ => 0))), (fo, .inr (9, [.ref fa, .ref fb, .ref fd, .int 0]))] sz)) 0 0 (va_A [(x, .inr (11, [.ref mo, .ref sm, .ref sc, .ref fo, .ref sf, .ref bu, .ref po, .ref te, .ref pa, .ref rw, .ref tr, .ref cl, .ref pt, .ref ru, .ref de, .int 0, .int 0])), (mo, .inr (3, [.ref mt, .ref mv, .int 1])), (mt, .inl (kmt, 4, .inl (fun _ => 0))), (mv, .inl (kmv, 18, .inl (fun _ => 0))), (fo, .inr (9, [.ref fa, .ref fb, .ref fd, .int 0]))] sz) := by
  refine Met.ofW (cc := cX11_count) (maxL := 2) (ret := (some .int)) (by decide) rfl ?_
  intro p e s m args below meth c s₁ B hml hv
  obtain ⟨rfl, hsz, hP, hK, hN, hD0⟩ := hv
  have hx := B.exec
  have hb := B.bytes
  have hr := B.returns
  have hts := atoms_spec (ws := wd_X11_count) B.pre
  have hown : s.vm.findClass RX11 = some m.cls := findClass_of_methodNamed B.named
  have hlocks := B.notSynchronized
  subst hsz
  have hD := hD0.self (sz := s.heap.size)
  generalize hAe : va_A [(x, .inr (11, [.ref mo, .ref sm, .ref sc, .ref fo, .ref sf, .ref bu, .ref po, .ref te, .ref pa, .ref rw, .ref tr, .ref cl, .ref pt, .ref ru, .ref de, .int 0, .int 0])), (mo, .inr (3, [.ref mt, .ref mv, .int 1])), (mt, .inl (kmt, 4, .inl (fun _ => 0))), (mv, .inl (kmv, 18, .inl (fun _ => 0))), (fo, .inr (9, [.ref fa, .ref fb, .ref fd, .int 0]))] s.heap.size = A at hD ⊢
  have hA : ∀ q : Nat, s.heap.size ≤ q → A q := fun q h => by rw [← hAe]; exact Or.inr h
  have hS : va_S A s.heap s.heap [] := va_S.rf
  have hiX11 : ∀ w ∈ wsX110, w ∈ wd_X11_count := mb_X11_count_3
  have hl := lv_entry ([.ref x, .int k]) (n := 2) (Nat.le_of_ble_eq_true rfl)
  rw [lg_entry_eq]
  generalize (lg_sl ([.ref x, .int k]) ++ List.replicate (2 - (lg_sl ([.ref x, .int k])).length) Slot.unset).toArray = ls at hl ⊢
  have hl : lv_has ls 2 [(0, .ref x), (1, .int k)] := hl
  refine lv_iload_n hx hb dX11_count_0 rfl (lv_at hl 1 rfl) ?_
  rcases sw4 k with rfl | rfl | rfl | rfl | hk
  · refine lv_tableIn (tgt := 32) hx hb dX11_count_1 (by decide) (by decide) rfl (by decide) ?_
    refine lv_aload_n hx hb dX11_count_32 rfl (lv_at hl 0 rfl) ?_
    refine va_get (D := D) (ci := 11) (v := .ref mo) (C := RX11) (T := TX11) (N := 17) hx hb hts hiX11 hown hK hP 0 rfl rfl 0 (by decide) (hts (.fieldLink RX11 12 "DynamicLogicProver" "model" "LDynamicLogicProver$Model;") (mo_X11_count 0 rfl)) (fun _ h9 => h9) rfl dX11_count_33 ?_
    refine kc_Vi (As := []) (rest := []) (wr := [(x, .inr (11, [.ref mo, .ref sm, .ref sc, .ref fo, .ref sf, .ref bu, .ref po, .ref te, .ref pa, .ref rw, .ref tr, .ref cl, .ref pt, .ref ru, .ref de, .int 0, .int 0])), (mt, .inl (kmt, 4, .inl (fun _ => 0))), (mv, .inl (kmv, 18, .inl (fun _ => 0))), (fo, .inr (9, [.ref fa, .ref fb, .ref fd, .int 0]))]) ⟨hx, hb, hml, hown, hts⟩ (ct_X3_size l D mo mt mv 1 _ ) (cwV 0 hts (kg_V (mo_X11_count 1 rfl) (mo_X11_count 2 rfl) (mo_X11_count 3 rfl) (mo_X11_count 4 rfl) (goodIn_sub mb_X11_count_0 gw_X3_size)) rfl rfl rfl ⟨rfl, hd_X3_size⟩ ⟨Nat.le_of_ble_eq_true rfl, Nat.le_of_ble_eq_true rfl⟩) (RX3, TX3, 3) 3 1 rfl rfl rfl hK hN hP hD hS hA [1] [0, 2, 3, 4] [] rfl rfl (by decide) (by decide) (by decide) rfl rfl hl.1 rfl (Nat.le_of_ble_eq_true rfl) dX11_count_36 ⟨Nat.le_of_ble_eq_true rfl, Nat.le_of_ble_eq_true rfl⟩ (fun r_1 u_2 H locs w_3 hP hD hK1 hS => ?_)
    have hP : va_P D vwCl [(x, .inr (11, [.ref mo, .ref sm, .ref sc, .ref fo, .ref sf, .ref bu, .ref po, .ref te, .ref pa, .ref rw, .ref tr, .ref cl, .ref pt, .ref ru, .ref de, .int 0, .int 0])), (mt, .inl (kmt, 4, .inl (fun _ => 0))), (mv, .inl (kmv, 18, .inl (fun _ => 0))), (fo, .inr (9, [.ref fa, .ref fb, .ref fd, .int 0])), (mo, .inr (3, [.ref mt, .ref mv, .int 1]))] H := hP
    have hD : va_D A [(x, .inr (11, [.ref mo, .ref sm, .ref sc, .ref fo, .ref sf, .ref bu, .ref po, .ref te, .ref pa, .ref rw, .ref tr, .ref cl, .ref pt, .ref ru, .ref de, .int 0, .int 0])), (mt, .inl (kmt, 4, .inl (fun _ => 0))), (mv, .inl (kmv, 18, .inl (fun _ => 0))), (fo, .inr (9, [.ref fa, .ref fb, .ref fd, .int 0])), (mo, .inr (3, [.ref mt, .ref mv, .int 1]))] := hD
    have w_3 : r_1 = 1 := w_3
    subst w_3
    have hP9 := hP.sub (ws' := []) [] rfl
    have hD9 := hD.sub (ws' := []) [] (by decide) rfl
    have hK9 := hK.sub (tys' := []) [] rfl
    exact W.iret (v := 1) hx hb hr (fun tZ htZ hW => ⟨⟨1, (), rfl, (by decide), by rw [htZ]; exact hP9, va_K.moved hW.alike hK9, hD9⟩, hS.F htZ⟩) hS.2.2 dX11_count_39
  · refine lv_tableIn (tgt := 40) hx hb dX11_count_1 (by decide) (by decide) rfl (by decide) ?_
    refine lv_aload_n hx hb dX11_count_40 rfl (lv_at hl 0 rfl) ?_
    refine va_get (D := D) (ci := 11) (v := .ref mo) (C := RX11) (T := TX11) (N := 17) hx hb hts hiX11 hown hK hP 0 rfl rfl 0 (by decide) (hts (.fieldLink RX11 12 "DynamicLogicProver" "model" "LDynamicLogicProver$Model;") (mo_X11_count 0 rfl)) (fun _ h9 => h9) rfl dX11_count_41 ?_
    refine kc_Vi (As := []) (rest := []) (wr := [(x, .inr (11, [.ref mo, .ref sm, .ref sc, .ref fo, .ref sf, .ref bu, .ref po, .ref te, .ref pa, .ref rw, .ref tr, .ref cl, .ref pt, .ref ru, .ref de, .int 0, .int 0])), (mt, .inl (kmt, 4, .inl (fun _ => 0))), (fo, .inr (9, [.ref fa, .ref fb, .ref fd, .int 0]))]) ⟨hx, hb, hml, hown, hts⟩ (ct_X3_transitions0 l D mo mt mv kmv 1 _ ) (cwV 0 hts (kg_V (mo_X11_count 5 rfl) (mo_X11_count 6 rfl) (mo_X11_count 7 rfl) (mo_X11_count 4 rfl) (goodIn_sub mb_X11_count_1 gw_X3_transitions0)) rfl rfl rfl ⟨rfl, hd_X3_transitions⟩ ⟨Nat.le_of_ble_eq_true rfl, Nat.le_of_ble_eq_true rfl⟩) (RX3, TX3, 3) 3 1 rfl rfl rfl hK hN hP hD hS hA [1, 3] [0, 2, 4] [1] rfl rfl (by decide) (by decide) (by decide) rfl rfl hl.1 rfl (Nat.le_of_ble_eq_true rfl) dX11_count_44 ⟨Nat.le_of_ble_eq_true rfl, Nat.le_of_ble_eq_true rfl⟩ (fun r_4 u_5 H locs w_6 hP hD hK1 hS => ?_)
    have hP : va_P D vwCl [(x, .inr (11, [.ref mo, .ref sm, .ref sc, .ref fo, .ref sf, .ref bu, .ref po, .ref te, .ref pa, .ref rw, .ref tr, .ref cl, .ref pt, .ref ru, .ref de, .int 0, .int 0])), (mt, .inl (kmt, 4, .inl (fun _ => 0))), (fo, .inr (9, [.ref fa, .ref fb, .ref fd, .int 0])), (mo, .inr (3, [.ref mt, .ref mv, .int 1])), (mv, .inl (kmv, 18, .inl (fun _ => 0)))] H := hP
    have hD : va_D A [(x, .inr (11, [.ref mo, .ref sm, .ref sc, .ref fo, .ref sf, .ref bu, .ref po, .ref te, .ref pa, .ref rw, .ref tr, .ref cl, .ref pt, .ref ru, .ref de, .int 0, .int 0])), (mt, .inl (kmt, 4, .inl (fun _ => 0))), (fo, .inr (9, [.ref fa, .ref fb, .ref fd, .int 0])), (mo, .inr (3, [.ref mt, .ref mv, .int 1])), (mv, .inl (kmv, 18, .inl (fun _ => 0)))] := hD
    have w_6 : r_4 = 0 := w_6
    subst w_6
    have hP9 := hP.sub (ws' := []) [] rfl
    have hD9 := hD.sub (ws' := []) [] (by decide) rfl
    have hK9 := hK.sub (tys' := []) [] rfl
    exact W.iret (v := 0) hx hb hr (fun tZ htZ hW => ⟨⟨0, (), rfl, (by decide), by rw [htZ]; exact hP9, va_K.moved hW.alike hK9, hD9⟩, hS.F htZ⟩) hS.2.2 dX11_count_47
  · refine lv_tableIn (tgt := 48) hx hb dX11_count_1 (by decide) (by decide) rfl (by decide) ?_
    refine lv_aload_n hx hb dX11_count_48 rfl (lv_at hl 0 rfl) ?_
    refine va_get (D := D) (ci := 11) (v := .ref fo) (C := RX11) (T := TX11) (N := 17) hx hb hts hiX11 hown hK hP 0 rfl rfl 3 (by decide) (hts (.fieldLink RX11 27 "DynamicLogicProver" "formulas" "LDynamicLogicProver$Shelf;") (mo_X11_count 8 rfl)) (fun _ h9 => h9) rfl dX11_count_49 ?_
    refine kc_Vi (As := []) (rest := []) (wr := [(x, .inr (11, [.ref mo, .ref sm, .ref sc, .ref fo, .ref sf, .ref bu, .ref po, .ref te, .ref pa, .ref rw, .ref tr, .ref cl, .ref pt, .ref ru, .ref de, .int 0, .int 0])), (mo, .inr (3, [.ref mt, .ref mv, .int 1])), (mt, .inl (kmt, 4, .inl (fun _ => 0))), (mv, .inl (kmv, 18, .inl (fun _ => 0)))]) ⟨hx, hb, hml, hown, hts⟩ (ct_X9_size l D fo fa fb fd 0 _ ) (cwV 0 hts (kg_V (mo_X11_count 9 rfl) (mo_X11_count 10 rfl) (mo_X11_count 11 rfl) (mo_X11_count 12 rfl) (goodIn_sub mb_X11_count_2 gw_X9_size)) rfl rfl rfl ⟨rfl, hd_X9_size⟩ ⟨Nat.le_of_ble_eq_true rfl, Nat.le_of_ble_eq_true rfl⟩) (RX9, TX9, 4) 9 4 rfl rfl rfl hK hN hP hD hS hA [4] [0, 1, 2, 3] [] rfl rfl (by decide) (by decide) (by decide) rfl rfl hl.1 rfl (Nat.le_of_ble_eq_true rfl) dX11_count_52 ⟨Nat.le_of_ble_eq_true rfl, Nat.le_of_ble_eq_true rfl⟩ (fun r_7 u_8 H locs w_9 hP hD hK1 hS => ?_)
    have hP : va_P D vwCl [(x, .inr (11, [.ref mo, .ref sm, .ref sc, .ref fo, .ref sf, .ref bu, .ref po, .ref te, .ref pa, .ref rw, .ref tr, .ref cl, .ref pt, .ref ru, .ref de, .int 0, .int 0])), (mo, .inr (3, [.ref mt, .ref mv, .int 1])), (mt, .inl (kmt, 4, .inl (fun _ => 0))), (mv, .inl (kmv, 18, .inl (fun _ => 0))), (fo, .inr (9, [.ref fa, .ref fb, .ref fd, .int 0]))] H := hP
    have hD : va_D A [(x, .inr (11, [.ref mo, .ref sm, .ref sc, .ref fo, .ref sf, .ref bu, .ref po, .ref te, .ref pa, .ref rw, .ref tr, .ref cl, .ref pt, .ref ru, .ref de, .int 0, .int 0])), (mo, .inr (3, [.ref mt, .ref mv, .int 1])), (mt, .inl (kmt, 4, .inl (fun _ => 0))), (mv, .inl (kmv, 18, .inl (fun _ => 0))), (fo, .inr (9, [.ref fa, .ref fb, .ref fd, .int 0]))] := hD
    have w_9 : r_7 = 0 := w_9
    subst w_9
    have hP9 := hP.sub (ws' := []) [] rfl
    have hD9 := hD.sub (ws' := []) [] (by decide) rfl
    have hK9 := hK.sub (tys' := []) [] rfl
    exact W.iret (v := 0) hx hb hr (fun tZ htZ hW => ⟨⟨0, (), rfl, (by decide), by rw [htZ]; exact hP9, va_K.moved hW.alike hK9, hD9⟩, hS.F htZ⟩) hS.2.2 dX11_count_55
  · refine lv_tableIn (tgt := 56) hx hb dX11_count_1 (by decide) (by decide) rfl (by decide) ?_
    refine lv_aload_n hx hb dX11_count_56 rfl (lv_at hl 0 rfl) ?_
    refine va_get (D := D) (ci := 11) (v := .int 0) (C := RX11) (T := TX11) (N := 17) hx hb hts hiX11 hown hK hP 0 rfl rfl 15 (by decide) (hts (.fieldLink RX11 109 "DynamicLogicProver" "textUsed" "I") (mo_X11_count 13 rfl)) (fun _ h9 => h9) rfl dX11_count_57 ?_
    have hP9 := hP.sub (ws' := []) [] rfl
    have hD9 := hD.sub (ws' := []) [] (by decide) rfl
    have hK9 := hK.sub (tys' := []) [] rfl
    exact W.iret (v := 0) hx hb hr (fun tZ htZ hW => ⟨⟨0, (), rfl, (by decide), by rw [htZ]; exact hP9, va_K.moved hW.alike hK9, hD9⟩, hS.F htZ⟩) hS.2.2 dX11_count_60
  · refine lv_tableOut (tgt := 61) hx hb dX11_count_1 hk (by decide) ?_
    refine lv_iconst (v := (-1)) hx hb dX11_count_61 (by decide) ?_
    have hP9 := hP.sub (ws' := []) [] rfl
    have hD9 := hD.sub (ws' := []) [] (by decide) rfl
    have hK9 := hK.sub (tys' := []) [] rfl
    exact W.iret (v := (-1)) hx hb hr (fun tZ htZ hW => ⟨⟨(-1), (), rfl, (by unfold an_count; rw [if_neg (by omega), if_neg (by omega)]), by rw [htZ]; exact hP9, va_K.moved hW.alike hK9, hD9⟩, hS.F htZ⟩) hS.2.2 dX11_count_62
