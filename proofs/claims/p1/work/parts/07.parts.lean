theorem put_v00 (f : Nat → Int32) : put_v f 6 0 0 0 = 0 := by unfold put_v; rw [if_neg (by decide)]; rfl
theorem at_m1 {f : Nat → Int32} {b : Int32} (hf : ∀ k, k < 6 → f k = -1) (hb : 0 ≤ b ∧ b < 6) : at_v f 6 b = -1 := by
  have h0 : ¬ b < 0 := fun q => by
    have h1 := hb.1
    rw [fa_le, ti_0] at h1
    rw [fa_lt, ti_0] at q
    omega
  have h2 : ¬ nI 6 ≤ b := fun q => by
    have h3 := hb.2
    rw [fa_lt] at h3
    have q2 : (6 : Int32) ≤ b := q
    rw [fa_le] at q2
    omega
  have h4 := in_of (n := 6) (by decide) h0 h2
  rw [← at_in h4]
  obtain ⟨j, hj, rfl⟩ := vp_in_of h4 (by decide)
  rw [nI_clamp (by omega)]
  exact hf j hj
theorem dJ6_bitCount_0f7a4_0 : decode cJ6_bitCount_0f7a4 0 = .ok (.iload_n 0, 1) := by decide +kernel
theorem dJ6_bitCount_0f7a4_1 : decode cJ6_bitCount_0f7a4 1 = .ok (.iload_n 0, 1) := by decide +kernel
theorem dJ6_bitCount_0f7a4_2 : decode cJ6_bitCount_0f7a4 2 = .ok (.iconst 1, 1) := by decide +kernel
theorem dJ6_bitCount_0f7a4_3 : decode cJ6_bitCount_0f7a4 3 = .ok (.iushr, 1) := by decide +kernel
theorem dJ6_bitCount_0f7a4_4 : decode cJ6_bitCount_0f7a4 4 = .ok (.ldc_w 265, 3) := by decide +kernel
theorem dJ6_bitCount_0f7a4_7 : decode cJ6_bitCount_0f7a4 7 = .ok (.iand, 1) := by decide +kernel
theorem dJ6_bitCount_0f7a4_8 : decode cJ6_bitCount_0f7a4 8 = .ok (.isub, 1) := by decide +kernel
theorem dJ6_bitCount_0f7a4_9 : decode cJ6_bitCount_0f7a4 9 = .ok (.istore_n 0, 1) := by decide +kernel
theorem dJ6_bitCount_0f7a4_10 : decode cJ6_bitCount_0f7a4 10 = .ok (.iload_n 0, 1) := by decide +kernel
theorem dJ6_bitCount_0f7a4_11 : decode cJ6_bitCount_0f7a4 11 = .ok (.ldc_w 266, 3) := by decide +kernel
theorem dJ6_bitCount_0f7a4_14 : decode cJ6_bitCount_0f7a4 14 = .ok (.iand, 1) := by decide +kernel
theorem dJ6_bitCount_0f7a4_15 : decode cJ6_bitCount_0f7a4 15 = .ok (.iload_n 0, 1) := by decide +kernel
theorem dJ6_bitCount_0f7a4_16 : decode cJ6_bitCount_0f7a4 16 = .ok (.iconst 2, 1) := by decide +kernel
theorem dJ6_bitCount_0f7a4_17 : decode cJ6_bitCount_0f7a4 17 = .ok (.iushr, 1) := by decide +kernel
theorem dJ6_bitCount_0f7a4_18 : decode cJ6_bitCount_0f7a4 18 = .ok (.ldc_w 266, 3) := by decide +kernel
theorem dJ6_bitCount_0f7a4_21 : decode cJ6_bitCount_0f7a4 21 = .ok (.iand, 1) := by decide +kernel
theorem dJ6_bitCount_0f7a4_22 : decode cJ6_bitCount_0f7a4 22 = .ok (.iadd, 1) := by decide +kernel
theorem dJ6_bitCount_0f7a4_23 : decode cJ6_bitCount_0f7a4 23 = .ok (.istore_n 0, 1) := by decide +kernel
theorem dJ6_bitCount_0f7a4_24 : decode cJ6_bitCount_0f7a4 24 = .ok (.iload_n 0, 1) := by decide +kernel
theorem dJ6_bitCount_0f7a4_25 : decode cJ6_bitCount_0f7a4 25 = .ok (.iload_n 0, 1) := by decide +kernel
theorem dJ6_bitCount_0f7a4_26 : decode cJ6_bitCount_0f7a4 26 = .ok (.iconst 4, 1) := by decide +kernel
theorem dJ6_bitCount_0f7a4_27 : decode cJ6_bitCount_0f7a4 27 = .ok (.iushr, 1) := by decide +kernel
theorem dJ6_bitCount_0f7a4_28 : decode cJ6_bitCount_0f7a4 28 = .ok (.iadd, 1) := by decide +kernel
theorem dJ6_bitCount_0f7a4_29 : decode cJ6_bitCount_0f7a4 29 = .ok (.ldc_w 267, 3) := by decide +kernel
theorem dJ6_bitCount_0f7a4_32 : decode cJ6_bitCount_0f7a4 32 = .ok (.iand, 1) := by decide +kernel
theorem dJ6_bitCount_0f7a4_33 : decode cJ6_bitCount_0f7a4 33 = .ok (.istore_n 0, 1) := by decide +kernel
theorem dJ6_bitCount_0f7a4_34 : decode cJ6_bitCount_0f7a4 34 = .ok (.iload_n 0, 1) := by decide +kernel
theorem dJ6_bitCount_0f7a4_35 : decode cJ6_bitCount_0f7a4 35 = .ok (.iload_n 0, 1) := by decide +kernel
theorem dJ6_bitCount_0f7a4_36 : decode cJ6_bitCount_0f7a4 36 = .ok (.bipush 8, 2) := by decide +kernel
theorem dJ6_bitCount_0f7a4_38 : decode cJ6_bitCount_0f7a4 38 = .ok (.iushr, 1) := by decide +kernel
theorem dJ6_bitCount_0f7a4_39 : decode cJ6_bitCount_0f7a4 39 = .ok (.iadd, 1) := by decide +kernel
theorem dJ6_bitCount_0f7a4_40 : decode cJ6_bitCount_0f7a4 40 = .ok (.istore_n 0, 1) := by decide +kernel
theorem dJ6_bitCount_0f7a4_41 : decode cJ6_bitCount_0f7a4 41 = .ok (.iload_n 0, 1) := by decide +kernel
theorem dJ6_bitCount_0f7a4_42 : decode cJ6_bitCount_0f7a4 42 = .ok (.iload_n 0, 1) := by decide +kernel
theorem dJ6_bitCount_0f7a4_43 : decode cJ6_bitCount_0f7a4 43 = .ok (.bipush 16, 2) := by decide +kernel
theorem dJ6_bitCount_0f7a4_45 : decode cJ6_bitCount_0f7a4 45 = .ok (.iushr, 1) := by decide +kernel
theorem dJ6_bitCount_0f7a4_46 : decode cJ6_bitCount_0f7a4 46 = .ok (.iadd, 1) := by decide +kernel
theorem dJ6_bitCount_0f7a4_47 : decode cJ6_bitCount_0f7a4 47 = .ok (.istore_n 0, 1) := by decide +kernel
theorem dJ6_bitCount_0f7a4_48 : decode cJ6_bitCount_0f7a4 48 = .ok (.iload_n 0, 1) := by decide +kernel
theorem dJ6_bitCount_0f7a4_49 : decode cJ6_bitCount_0f7a4 49 = .ok (.bipush 63, 2) := by decide +kernel
theorem dJ6_bitCount_0f7a4_51 : decode cJ6_bitCount_0f7a4 51 = .ok (.iand, 1) := by decide +kernel
theorem dJ6_bitCount_0f7a4_52 : decode cJ6_bitCount_0f7a4 52 = .ok (.ireturn, 1) := by decide +kernel
def wo_bitCount0 : List Cond := [.constant RJ6 265 1431655765, .constant RJ6 266 858993459, .constant RJ6 267 252645135]
def wd_bitCount0 : List Cond := .code yJ6_bitCount_0f7a4 cJ6_bitCount_0f7a4 1 (some .int) :: (wo_bitCount0 ++ ([] : List Cond))
theorem mo_bitCount0 {w : Cond} (i : Nat) (h : wo_bitCount0[i]? = some w) : w ∈ wd_bitCount0 := List.mem_cons_of_mem _ (List.mem_append_left _ (List.mem_of_getElem? h))
theorem hd_J6_bitCount_0f7a4 : yJ6_bitCount_0f7a4.cls ≠ "java/lang/invoke/MethodHandle" ∧ yJ6_bitCount_0f7a4.cls ≠ "java/lang/invoke/VarHandle" ∧ (parseMethodDescriptor yJ6_bitCount_0f7a4.desc).map (fun d => d.parameters.length) = some 1 := by decide +kernel
set_option maxRecDepth 20000 in
theorem gw_bitCount0 : wd_bitCount0.all goodWord = true := by decide +kernel
abbrev qc_bitCount0 (D : va_G)  (A : Nat → Prop) : Array Value → State → Outcome → State → Prop := va_Qi (fun (r : Int32) (uZ : Unit) => r = 0) (fun uZ tZ => kc_pos D A [] [] tZ) A
set_option maxHeartbeats 4000000 in
set_option maxRecDepth 100000 in
theorem ct_bitCount0 (l : Launch) (D : va_G)  (sz : Nat)  : Met l yJ6_bitCount_0f7a4 wd_bitCount0 ({ frames := 0, cells := 0, slots := 0, locals := 0 }) (va_Pc [.int 0] (kc_pre D [] [] sz)) (qc_bitCount0 D  (va_A [] sz)) 0 0 (va_A [] sz) := by
  refine Met.ofW (cc := cJ6_bitCount_0f7a4) (maxL := 1) (ret := (some .int)) (by decide) rfl ?_
  intro p e s m args below meth c s₁ B hml hv
  obtain ⟨rfl, hsz, hP, hK, hN, hD0⟩ := hv
  have hx := B.exec
  have hb := B.bytes
  have hr := B.returns
  have hts := atoms_spec (ws := wd_bitCount0) B.pre
  have hown : s.vm.findClass RJ6 = some m.cls := findClass_of_methodNamed B.named
  have hlocks := B.notSynchronized
  subst hsz
  have hD := hD0.self (sz := s.heap.size)
  generalize hAe : va_A [] s.heap.size = A at hD ⊢
  have hA : ∀ q : Nat, s.heap.size ≤ q → A q := fun q h => by rw [← hAe]; exact Or.inr h
  have hS : va_S A s.heap s.heap [] := va_S.rf
  have hl := lv_entry ([.int 0]) (n := 1) (Nat.le_of_ble_eq_true rfl)
  rw [lg_entry_eq]
  generalize (lg_sl ([.int 0]) ++ List.replicate (1 - (lg_sl ([.int 0])).length) Slot.unset).toArray = ls at hl ⊢
  have hl : lv_has ls 1 [(0, .int 0)] := hl
  refine lv_iload_n hx hb dJ6_bitCount_0f7a4_0 rfl (lv_at hl 0 rfl) ?_
  refine lv_iload_n hx hb dJ6_bitCount_0f7a4_1 rfl (lv_at hl 0 rfl) ?_
  refine lv_iconst (v := 1) hx hb dJ6_bitCount_0f7a4_2 (by decide) ?_
  refine lv_iushr (v := 0) hx hb dJ6_bitCount_0f7a4_3 (by decide) ?_
  refine lv_ldcw hx hb hown (hts (.constant RJ6 265 1431655765) (mo_bitCount0 0 rfl)) dJ6_bitCount_0f7a4_4 ?_
  refine lv_iand hx hb dJ6_bitCount_0f7a4_7 ?_
  refine lv_topi (fun x_1 ex_1 => ?_)
  obtain rfl : x_1 = 0 := ex_1.trans (by decide)
  refine lv_isub hx hb dJ6_bitCount_0f7a4_8 ?_
  refine lv_topi (fun x_2 ex_2 => ?_)
  obtain rfl : x_2 = 0 := ex_2.trans (by decide)
  refine lv_istore_n (lv' := [(0, .int 0)]) hx hb dJ6_bitCount_0f7a4_9 rfl hl (by decide) rfl (fun ls hl => ?_)
  refine lv_iload_n hx hb dJ6_bitCount_0f7a4_10 rfl (lv_at hl 0 rfl) ?_
  refine lv_ldcw hx hb hown (hts (.constant RJ6 266 858993459) (mo_bitCount0 1 rfl)) dJ6_bitCount_0f7a4_11 ?_
  refine lv_iand hx hb dJ6_bitCount_0f7a4_14 ?_
  refine lv_topi (fun x_3 ex_3 => ?_)
  obtain rfl : x_3 = 0 := ex_3.trans (by decide)
  refine lv_iload_n hx hb dJ6_bitCount_0f7a4_15 rfl (lv_at hl 0 rfl) ?_
  refine lv_iconst (v := 2) hx hb dJ6_bitCount_0f7a4_16 (by decide) ?_
  refine lv_iushr (v := 0) hx hb dJ6_bitCount_0f7a4_17 (by decide) ?_
  refine lv_ldcw hx hb hown (hts (.constant RJ6 266 858993459) (mo_bitCount0 1 rfl)) dJ6_bitCount_0f7a4_18 ?_
  refine lv_iand hx hb dJ6_bitCount_0f7a4_21 ?_
  refine lv_topi (fun x_4 ex_4 => ?_)
  obtain rfl : x_4 = 0 := ex_4.trans (by decide)
  refine lv_iadd hx hb dJ6_bitCount_0f7a4_22 ?_
  refine lv_topi (fun x_5 ex_5 => ?_)
  obtain rfl : x_5 = 0 := ex_5.trans (by decide)
  refine lv_istore_n (lv' := [(0, .int 0)]) hx hb dJ6_bitCount_0f7a4_23 rfl hl (by decide) rfl (fun ls hl => ?_)
  refine lv_iload_n hx hb dJ6_bitCount_0f7a4_24 rfl (lv_at hl 0 rfl) ?_
  refine lv_iload_n hx hb dJ6_bitCount_0f7a4_25 rfl (lv_at hl 0 rfl) ?_
  refine lv_iconst (v := 4) hx hb dJ6_bitCount_0f7a4_26 (by decide) ?_
  refine lv_iushr (v := 0) hx hb dJ6_bitCount_0f7a4_27 (by decide) ?_
  refine lv_iadd hx hb dJ6_bitCount_0f7a4_28 ?_
  refine lv_topi (fun x_6 ex_6 => ?_)
  obtain rfl : x_6 = 0 := ex_6.trans (by decide)
  refine lv_ldcw hx hb hown (hts (.constant RJ6 267 252645135) (mo_bitCount0 2 rfl)) dJ6_bitCount_0f7a4_29 ?_
  refine lv_iand hx hb dJ6_bitCount_0f7a4_32 ?_
  refine lv_topi (fun x_7 ex_7 => ?_)
  obtain rfl : x_7 = 0 := ex_7.trans (by decide)
  refine lv_istore_n (lv' := [(0, .int 0)]) hx hb dJ6_bitCount_0f7a4_33 rfl hl (by decide) rfl (fun ls hl => ?_)
  refine lv_iload_n hx hb dJ6_bitCount_0f7a4_34 rfl (lv_at hl 0 rfl) ?_
  refine lv_iload_n hx hb dJ6_bitCount_0f7a4_35 rfl (lv_at hl 0 rfl) ?_
  refine lv_bipush (v := 8) hx hb dJ6_bitCount_0f7a4_36 (by decide) ?_
  refine lv_iushr (v := 0) hx hb dJ6_bitCount_0f7a4_38 (by decide) ?_
  refine lv_iadd hx hb dJ6_bitCount_0f7a4_39 ?_
  refine lv_topi (fun x_8 ex_8 => ?_)
  obtain rfl : x_8 = 0 := ex_8.trans (by decide)
  refine lv_istore_n (lv' := [(0, .int 0)]) hx hb dJ6_bitCount_0f7a4_40 rfl hl (by decide) rfl (fun ls hl => ?_)
  refine lv_iload_n hx hb dJ6_bitCount_0f7a4_41 rfl (lv_at hl 0 rfl) ?_
  refine lv_iload_n hx hb dJ6_bitCount_0f7a4_42 rfl (lv_at hl 0 rfl) ?_
  refine lv_bipush (v := 16) hx hb dJ6_bitCount_0f7a4_43 (by decide) ?_
  refine lv_iushr (v := 0) hx hb dJ6_bitCount_0f7a4_45 (by decide) ?_
  refine lv_iadd hx hb dJ6_bitCount_0f7a4_46 ?_
  refine lv_topi (fun x_9 ex_9 => ?_)
  obtain rfl : x_9 = 0 := ex_9.trans (by decide)
  refine lv_istore_n (lv' := [(0, .int 0)]) hx hb dJ6_bitCount_0f7a4_47 rfl hl (by decide) rfl (fun ls hl => ?_)
  refine lv_iload_n hx hb dJ6_bitCount_0f7a4_48 rfl (lv_at hl 0 rfl) ?_
  refine lv_bipush (v := 63) hx hb dJ6_bitCount_0f7a4_49 (by decide) ?_
  refine lv_iand hx hb dJ6_bitCount_0f7a4_51 ?_
  refine lv_topi (fun x_10 ex_10 => ?_)
  obtain rfl : x_10 = 0 := ex_10.trans (by decide)
  have hP9 := hP.sub (ws' := []) [] rfl
  have hD9 := hD.sub (ws' := []) [] (by decide) rfl
  have hK9 := hK.sub (tys' := []) [] rfl
  exact W.iret (v := 0) hx hb hr (fun tZ htZ hW => ⟨⟨0, (), rfl, rfl, by rw [htZ]; exact hP9, va_K.moved hW.alike hK9, hD9⟩, hS.F htZ⟩) hS.2.2 dJ6_bitCount_0f7a4_52
theorem dX3_transitions_0 : decode cX3_transitions 0 = .ok (.iconst 0, 1) := by decide +kernel
theorem dX3_transitions_1 : decode cX3_transitions 1 = .ok (.istore_n 1, 1) := by decide +kernel
theorem dX3_transitions_2 : decode cX3_transitions 2 = .ok (.iconst 0, 1) := by decide +kernel
theorem dX3_transitions_3 : decode cX3_transitions 3 = .ok (.istore_n 2, 1) := by decide +kernel
theorem dX3_transitions_4 : decode cX3_transitions 4 = .ok (.iload_n 2, 1) := by decide +kernel
theorem dX3_transitions_5 : decode cX3_transitions 5 = .ok (.bipush 18, 2) := by decide +kernel
theorem dX3_transitions_7 : decode cX3_transitions 7 = .ok (.if_icmp .ge 23, 3) := by decide +kernel
theorem dX3_transitions_10 : decode cX3_transitions 10 = .ok (.iload_n 1, 1) := by decide +kernel
theorem dX3_transitions_11 : decode cX3_transitions 11 = .ok (.aload_n 0, 1) := by decide +kernel
theorem dX3_transitions_12 : decode cX3_transitions 12 = .ok (.getfield 15, 3) := by decide +kernel
theorem dX3_transitions_15 : decode cX3_transitions 15 = .ok (.iload_n 2, 1) := by decide +kernel
theorem dX3_transitions_16 : decode cX3_transitions 16 = .ok (.invokestatic 34, 3) := by decide +kernel
theorem dX3_transitions_19 : decode cX3_transitions 19 = .ok (.invokestatic 42, 3) := by decide +kernel
theorem dX3_transitions_22 : decode cX3_transitions 22 = .ok (.iadd, 1) := by decide +kernel
theorem dX3_transitions_23 : decode cX3_transitions 23 = .ok (.istore_n 1, 1) := by decide +kernel
theorem dX3_transitions_24 : decode cX3_transitions 24 = .ok (.iinc 2 1, 3) := by decide +kernel
theorem dX3_transitions_27 : decode cX3_transitions 27 = .ok (.goto (-23), 3) := by decide +kernel
theorem dX3_transitions_30 : decode cX3_transitions 30 = .ok (.iload_n 1, 1) := by decide +kernel
theorem dX3_transitions_31 : decode cX3_transitions 31 = .ok (.ireturn, 1) := by decide +kernel
def wo_X3_transitions0 : List Cond := [.fieldLink RX3 15 "DynamicLogicProver$Model" "moves" "[I", .initialized RX11, .static yX11_at, .methodLink RX3 42 yJ6_bitCount_0f7a4, .static yJ6_bitCount_0f7a4, .initialized RJ6]
def wd_X3_transitions0 : List Cond := .code yX3_transitions cX3_transitions 3 (some .int) :: (wo_X3_transitions0 ++ (wd_X11_at ++ (wd_bitCount0 ++ (wsX30 ++ ([] : List Cond)))))
theorem mo_X3_transitions0 {w : Cond} (i : Nat) (h : wo_X3_transitions0[i]? = some w) : w ∈ wd_X3_transitions0 := List.mem_cons_of_mem _ (List.mem_append_left _ (List.mem_of_getElem? h))
theorem mb_X3_transitions0_0 : ∀ w ∈ wd_X11_at, w ∈ wd_X3_transitions0 := fun w h => List.mem_cons_of_mem _ (List.mem_append_right _ (List.mem_append_left _ h))
theorem mb_X3_transitions0_1 : ∀ w ∈ wd_bitCount0, w ∈ wd_X3_transitions0 := fun w h => List.mem_cons_of_mem _ (List.mem_append_right _ (List.mem_append_right _ (List.mem_append_left _ h)))
theorem mb_X3_transitions0_2 : ∀ w ∈ wsX30, w ∈ wd_X3_transitions0 := fun w h => List.mem_cons_of_mem _ (List.mem_append_right _ (List.mem_append_right _ (List.mem_append_right _ (List.mem_append_left _ h))))
theorem hd_X3_transitions : yX3_transitions.cls ≠ "java/lang/invoke/MethodHandle" ∧ yX3_transitions.cls ≠ "java/lang/invoke/VarHandle" ∧ (parseMethodDescriptor yX3_transitions.desc).map (fun d => d.parameters.length) = some 0 := by decide +kernel
set_option maxRecDepth 20000 in
theorem gw_X3_transitions0 : wd_X3_transitions0.all goodWord = true := by decide +kernel
abbrev qc_X3_transitions0 (D : va_G) (h : Nat) (t : Nat) (v : Nat) (kv : ClassId) (n : Int32) (A : Nat → Prop) : Array Value → State → Outcome → State → Prop := va_Qi (fun (r : Int32) (uZ : Unit) => r = 0) (fun uZ tZ => kc_pos D A [(h, .inr (3, [.ref t, .ref v, .int n])), (v, .inl (kv, 18, .inl (fun _ => 0)))] [] tZ) A
set_option maxHeartbeats 4000000 in
set_option maxRecDepth 100000 in
theorem ct_X3_transitions0 (l : Launch) (D : va_G) (h : Nat) (t : Nat) (v : Nat) (kv : ClassId) (n : Int32) (sz : Nat)  : Met l yX3_transitions wd_X3_transitions0 ({ frames := 1, cells := 0, slots := 0, locals := 21 }) (va_Pc [.ref h] (kc_pre D [(kv, .int)] [(h, .inr (3, [.ref t, .ref v, .int n])), (v, .inl (kv, 18, .inl (fun _ => 0)))] sz)) (qc_X3_transitions0 D h t v kv n (va_A [(h, .inr (3, [.ref t, .ref v, .int n])), (v, .inl (kv, 18, .inl (fun _ => 0)))] sz)) 0 0 (va_A [(h, .inr (3, [.ref t, .ref v, .int n])), (v, .inl (kv, 18, .inl (fun _ => 0)))] sz) := by
  refine Met.ofW (cc := cX3_transitions) (maxL := 3) (ret := (some .int)) (by decide) rfl ?_
  intro p e s m args below meth c s₁ B hml hv
  obtain ⟨rfl, hsz, hP, hK, hN, hD0⟩ := hv
  have hx := B.exec
  have hb := B.bytes
  have hr := B.returns
  have hts := atoms_spec (ws := wd_X3_transitions0) B.pre
  have hown : s.vm.findClass RX3 = some m.cls := findClass_of_methodNamed B.named
  have hlocks := B.notSynchronized
  subst hsz
  have hD := hD0.self (sz := s.heap.size)
  generalize hAe : va_A [(h, .inr (3, [.ref t, .ref v, .int n])), (v, .inl (kv, 18, .inl (fun _ => 0)))] s.heap.size = A at hD ⊢
  have hA : ∀ q : Nat, s.heap.size ≤ q → A q := fun q h => by rw [← hAe]; exact Or.inr h
  have hS : va_S A s.heap s.heap [] := va_S.rf
  have hiX3 : ∀ w ∈ wsX30, w ∈ wd_X3_transitions0 := mb_X3_transitions0_2
  have hl := lv_entry ([.ref h]) (n := 3) (Nat.le_of_ble_eq_true rfl)
  rw [lg_entry_eq]
  generalize (lg_sl ([.ref h]) ++ List.replicate (3 - (lg_sl ([.ref h])).length) Slot.unset).toArray = ls at hl ⊢
  have hl : lv_has ls 3 [(0, .ref h)] := hl
  refine lv_iconst (v := 0) hx hb dX3_transitions_0 (by decide) ?_
  refine lv_istore_n (lv' := [(1, .int 0), (0, .ref h)]) hx hb dX3_transitions_1 rfl hl (by decide) rfl (fun ls hl => ?_)
  refine lv_iconst (v := 0) hx hb dX3_transitions_2 (by decide) ?_
  refine lv_istore_n (lv' := [(2, .int 0), (1, .int 0), (0, .ref h)]) hx hb dX3_transitions_3 rfl hl (by decide) rfl (fun ls hl => ?_)
  refine lv_iload_n hx hb dX3_transitions_4 rfl (lv_at hl 0 rfl) ?_
  refine lv_bipush (v := 18) hx hb dX3_transitions_5 (by decide) ?_
  refine lv_icmp_ge (tgt := 30) hx hb dX3_transitions_7 (by decide) (fun c_1 => ?_) (fun c_1 => ?_)
  · exact absurd c_1 (by decide)
  · refine lv_iload_n hx hb dX3_transitions_10 rfl (lv_at hl 1 rfl) ?_
    refine lv_aload_n hx hb dX3_transitions_11 rfl (lv_at hl 2 rfl) ?_
    refine va_get (D := D) (ci := 3) (v := .ref v) (C := RX3) (T := TX3) (N := 3) hx hb hts hiX3 hown hK hP 0 rfl rfl 1 (by decide) (hts (.fieldLink RX3 15 "DynamicLogicProver$Model" "moves" "[I") (mo_X3_transitions0 0 rfl)) (fun _ h9 => h9) rfl dX3_transitions_12 ?_
    refine lv_iload_n hx hb dX3_transitions_15 rfl (lv_at hl 0 rfl) ?_
    refine kc_Ni (As := [.ref v, .int 0]) (rest := [.int 0]) (wr := [(h, .inr (3, [.ref t, .ref v, .int n]))]) ⟨hx, hb, hml, hown, hts⟩ (ct_X11_at l D v kv 18 (fun _ => 0) 0 _ (by decide)) ⟨va_cnB 2 hts (goodIn_sub mb_X3_transitions0_0 gw_X11_at) rfl rfl rfl (hN.1 (RX3, 34, yX11_at) (List.mem_of_getElem? (i := 13) rfl)) (hts (.initialized RX11) (mo_X3_transitions0 1 rfl)) hd_X11_at ⟨Nat.le_of_ble_eq_true rfl, Nat.le_of_ble_eq_true rfl⟩, (hts (.static yX11_at) (mo_X3_transitions0 2 rfl)), trivial⟩ hK hN hP hD hS hA [1] [0] [0] rfl rfl (by decide) (by decide) (by decide) rfl rfl hl.1 rfl (Nat.le_of_ble_eq_true rfl) dX3_transitions_16 ⟨Nat.le_of_ble_eq_true rfl, Nat.le_of_ble_eq_true rfl⟩ (fun r_2 u_3 H locs w_4 hP hD hK1 hS => ?_)
    have hP : va_P D vwCl [(h, .inr (3, [.ref t, .ref v, .int n])), (v, .inl (kv, 18, .inl (fun _ => 0)))] H := hP
    have hD : va_D A [(h, .inr (3, [.ref t, .ref v, .int n])), (v, .inl (kv, 18, .inl (fun _ => 0)))] := hD
    have w_4 : r_2 = at_v (fun _ => 0) 18 0 := w_4
    obtain rfl : r_2 = 0 := w_4.trans (at_v0 _ _)
    refine kc_Si (As := [.int 0]) (rest := [.int 0]) (wr := [(h, .inr (3, [.ref t, .ref v, .int n])), (v, .inl (kv, 18, .inl (fun _ => 0)))]) ⟨hx, hb, hml, hown, hts⟩ (ct_bitCount0 l D  _ ) (va_cwS 1 hts (kg_S (mo_X3_transitions0 3 rfl) (mo_X3_transitions0 4 rfl) (mo_X3_transitions0 5 rfl) (goodIn_sub mb_X3_transitions0_1 gw_bitCount0)) rfl rfl rfl hd_J6_bitCount_0f7a4 ⟨Nat.le_of_ble_eq_true rfl, Nat.le_of_ble_eq_true rfl⟩) hK hN hP hD hS hA [] [0, 1] [] rfl rfl (by decide) (by decide) (by decide) rfl rfl hl.1 rfl (Nat.le_of_ble_eq_true rfl) dX3_transitions_19 ⟨Nat.le_of_ble_eq_true rfl, Nat.le_of_ble_eq_true rfl⟩ (fun r_5 u_6 H locs w_7 hP hD hK1 hS => ?_)
    have hP : va_P D vwCl [(h, .inr (3, [.ref t, .ref v, .int n])), (v, .inl (kv, 18, .inl (fun _ => 0)))] H := hP
    have hD : va_D A [(h, .inr (3, [.ref t, .ref v, .int n])), (v, .inl (kv, 18, .inl (fun _ => 0)))] := hD
    have w_7 : r_5 = 0 := w_7
    subst w_7
    refine lv_iadd hx hb dX3_transitions_22 ?_
    refine lv_topi (fun x_8 ex_8 => ?_)
    obtain rfl : x_8 = 0 := ex_8.trans (by decide)
    refine lv_istore_n (lv' := [(1, .int 0), (2, .int 0), (0, .ref h)]) hx hb dX3_transitions_23 rfl hl (by decide) rfl (fun ls hl => ?_)
    refine lv_iinc (v := 1) (lv' := [(2, .int 1), (1, .int 0), (0, .ref h)]) hx hb dX3_transitions_24 hl (k := 1) rfl (by decide) (by decide) rfl (fun ls hl => ?_)
    refine lv_goto (tgt := 4) hx hb dX3_transitions_27 (by decide) ?_
    refine lv_iload_n hx hb dX3_transitions_4 rfl (lv_at hl 0 rfl) ?_
    refine lv_bipush (v := 18) hx hb dX3_transitions_5 (by decide) ?_
    refine lv_icmp_ge (tgt := 30) hx hb dX3_transitions_7 (by decide) (fun c_9 => ?_) (fun c_9 => ?_)
    · exact absurd c_9 (by decide)
    · refine lv_iload_n hx hb dX3_transitions_10 rfl (lv_at hl 1 rfl) ?_
      refine lv_aload_n hx hb dX3_transitions_11 rfl (lv_at hl 2 rfl) ?_
      refine va_get (D := D) (ci := 3) (v := .ref v) (C := RX3) (T := TX3) (N := 3) hx hb hts hiX3 hown hK hP 0 rfl rfl 1 (by decide) (hts (.fieldLink RX3 15 "DynamicLogicProver$Model" "moves" "[I") (mo_X3_transitions0 0 rfl)) (fun _ h9 => h9) rfl dX3_transitions_12 ?_
      refine lv_iload_n hx hb dX3_transitions_15 rfl (lv_at hl 0 rfl) ?_
      refine kc_Ni (As := [.ref v, .int 1]) (rest := [.int 0]) (wr := [(h, .inr (3, [.ref t, .ref v, .int n]))]) ⟨hx, hb, hml, hown, hts⟩ (ct_X11_at l D v kv 18 (fun _ => 0) 1 _ (by decide)) ⟨va_cnB 2 hts (goodIn_sub mb_X3_transitions0_0 gw_X11_at) rfl rfl rfl (hN.1 (RX3, 34, yX11_at) (List.mem_of_getElem? (i := 13) rfl)) (hts (.initialized RX11) (mo_X3_transitions0 1 rfl)) hd_X11_at ⟨Nat.le_of_ble_eq_true rfl, Nat.le_of_ble_eq_true rfl⟩, (hts (.static yX11_at) (mo_X3_transitions0 2 rfl)), trivial⟩ hK hN hP hD hS hA [1] [0] [0] rfl rfl (by decide) (by decide) (by decide) rfl rfl hl.1 rfl (Nat.le_of_ble_eq_true rfl) dX3_transitions_16 ⟨Nat.le_of_ble_eq_true rfl, Nat.le_of_ble_eq_true rfl⟩ (fun r_10 u_11 H locs w_12 hP hD hK1 hS => ?_)
      have hP : va_P D vwCl [(h, .inr (3, [.ref t, .ref v, .int n])), (v, .inl (kv, 18, .inl (fun _ => 0)))] H := hP
      have hD : va_D A [(h, .inr (3, [.ref t, .ref v, .int n])), (v, .inl (kv, 18, .inl (fun _ => 0)))] := hD
      have w_12 : r_10 = at_v (fun _ => 0) 18 1 := w_12
      obtain rfl : r_10 = 0 := w_12.trans (at_v0 _ _)
      refine kc_Si (As := [.int 0]) (rest := [.int 0]) (wr := [(h, .inr (3, [.ref t, .ref v, .int n])), (v, .inl (kv, 18, .inl (fun _ => 0)))]) ⟨hx, hb, hml, hown, hts⟩ (ct_bitCount0 l D  _ ) (va_cwS 1 hts (kg_S (mo_X3_transitions0 3 rfl) (mo_X3_transitions0 4 rfl) (mo_X3_transitions0 5 rfl) (goodIn_sub mb_X3_transitions0_1 gw_bitCount0)) rfl rfl rfl hd_J6_bitCount_0f7a4 ⟨Nat.le_of_ble_eq_true rfl, Nat.le_of_ble_eq_true rfl⟩) hK hN hP hD hS hA [] [0, 1] [] rfl rfl (by decide) (by decide) (by decide) rfl rfl hl.1 rfl (Nat.le_of_ble_eq_true rfl) dX3_transitions_19 ⟨Nat.le_of_ble_eq_true rfl, Nat.le_of_ble_eq_true rfl⟩ (fun r_13 u_14 H locs w_15 hP hD hK1 hS => ?_)
      have hP : va_P D vwCl [(h, .inr (3, [.ref t, .ref v, .int n])), (v, .inl (kv, 18, .inl (fun _ => 0)))] H := hP
      have hD : va_D A [(h, .inr (3, [.ref t, .ref v, .int n])), (v, .inl (kv, 18, .inl (fun _ => 0)))] := hD
      have w_15 : r_13 = 0 := w_15
      subst w_15
      refine lv_iadd hx hb dX3_transitions_22 ?_
      refine lv_topi (fun x_16 ex_16 => ?_)
      obtain rfl : x_16 = 0 := ex_16.trans (by decide)
      refine lv_istore_n (lv' := [(1, .int 0), (2, .int 1), (0, .ref h)]) hx hb dX3_transitions_23 rfl hl (by decide) rfl (fun ls hl => ?_)
      refine lv_iinc (v := 2) (lv' := [(2, .int 2), (1, .int 0), (0, .ref h)]) hx hb dX3_transitions_24 hl (k := 1) rfl (by decide) (by decide) rfl (fun ls hl => ?_)
      refine lv_goto (tgt := 4) hx hb dX3_transitions_27 (by decide) ?_
      refine lv_iload_n hx hb dX3_transitions_4 rfl (lv_at hl 0 rfl) ?_
      refine lv_bipush (v := 18) hx hb dX3_transitions_5 (by decide) ?_
      refine lv_icmp_ge (tgt := 30) hx hb dX3_transitions_7 (by decide) (fun c_17 => ?_) (fun c_17 => ?_)
      · exact absurd c_17 (by decide)
      · refine lv_iload_n hx hb dX3_transitions_10 rfl (lv_at hl 1 rfl) ?_
        refine lv_aload_n hx hb dX3_transitions_11 rfl (lv_at hl 2 rfl) ?_
        refine va_get (D := D) (ci := 3) (v := .ref v) (C := RX3) (T := TX3) (N := 3) hx hb hts hiX3 hown hK hP 0 rfl rfl 1 (by decide) (hts (.fieldLink RX3 15 "DynamicLogicProver$Model" "moves" "[I") (mo_X3_transitions0 0 rfl)) (fun _ h9 => h9) rfl dX3_transitions_12 ?_
        refine lv_iload_n hx hb dX3_transitions_15 rfl (lv_at hl 0 rfl) ?_
        refine kc_Ni (As := [.ref v, .int 2]) (rest := [.int 0]) (wr := [(h, .inr (3, [.ref t, .ref v, .int n]))]) ⟨hx, hb, hml, hown, hts⟩ (ct_X11_at l D v kv 18 (fun _ => 0) 2 _ (by decide)) ⟨va_cnB 2 hts (goodIn_sub mb_X3_transitions0_0 gw_X11_at) rfl rfl rfl (hN.1 (RX3, 34, yX11_at) (List.mem_of_getElem? (i := 13) rfl)) (hts (.initialized RX11) (mo_X3_transitions0 1 rfl)) hd_X11_at ⟨Nat.le_of_ble_eq_true rfl, Nat.le_of_ble_eq_true rfl⟩, (hts (.static yX11_at) (mo_X3_transitions0 2 rfl)), trivial⟩ hK hN hP hD hS hA [1] [0] [0] rfl rfl (by decide) (by decide) (by decide) rfl rfl hl.1 rfl (Nat.le_of_ble_eq_true rfl) dX3_transitions_16 ⟨Nat.le_of_ble_eq_true rfl, Nat.le_of_ble_eq_true rfl⟩ (fun r_18 u_19 H locs w_20 hP hD hK1 hS => ?_)
        have hP : va_P D vwCl [(h, .inr (3, [.ref t, .ref v, .int n])), (v, .inl (kv, 18, .inl (fun _ => 0)))] H := hP
        have hD : va_D A [(h, .inr (3, [.ref t, .ref v, .int n])), (v, .inl (kv, 18, .inl (fun _ => 0)))] := hD
        have w_20 : r_18 = at_v (fun _ => 0) 18 2 := w_20
        obtain rfl : r_18 = 0 := w_20.trans (at_v0 _ _)
        refine kc_Si (As := [.int 0]) (rest := [.int 0]) (wr := [(h, .inr (3, [.ref t, .ref v, .int n])), (v, .inl (kv, 18, .inl (fun _ => 0)))]) ⟨hx, hb, hml, hown, hts⟩ (ct_bitCount0 l D  _ ) (va_cwS 1 hts (kg_S (mo_X3_transitions0 3 rfl) (mo_X3_transitions0 4 rfl) (mo_X3_transitions0 5 rfl) (goodIn_sub mb_X3_transitions0_1 gw_bitCount0)) rfl rfl rfl hd_J6_bitCount_0f7a4 ⟨Nat.le_of_ble_eq_true rfl, Nat.le_of_ble_eq_true rfl⟩) hK hN hP hD hS hA [] [0, 1] [] rfl rfl (by decide) (by decide) (by decide) rfl rfl hl.1 rfl (Nat.le_of_ble_eq_true rfl) dX3_transitions_19 ⟨Nat.le_of_ble_eq_true rfl, Nat.le_of_ble_eq_true rfl⟩ (fun r_21 u_22 H locs w_23 hP hD hK1 hS => ?_)
        have hP : va_P D vwCl [(h, .inr (3, [.ref t, .ref v, .int n])), (v, .inl (kv, 18, .inl (fun _ => 0)))] H := hP
        have hD : va_D A [(h, .inr (3, [.ref t, .ref v, .int n])), (v, .inl (kv, 18, .inl (fun _ => 0)))] := hD
        have w_23 : r_21 = 0 := w_23
        subst w_23
        refine lv_iadd hx hb dX3_transitions_22 ?_
        refine lv_topi (fun x_24 ex_24 => ?_)
        obtain rfl : x_24 = 0 := ex_24.trans (by decide)
        refine lv_istore_n (lv' := [(1, .int 0), (2, .int 2), (0, .ref h)]) hx hb dX3_transitions_23 rfl hl (by decide) rfl (fun ls hl => ?_)
        refine lv_iinc (v := 3) (lv' := [(2, .int 3), (1, .int 0), (0, .ref h)]) hx hb dX3_transitions_24 hl (k := 1) rfl (by decide) (by decide) rfl (fun ls hl => ?_)
        refine lv_goto (tgt := 4) hx hb dX3_transitions_27 (by decide) ?_
        refine lv_iload_n hx hb dX3_transitions_4 rfl (lv_at hl 0 rfl) ?_
        refine lv_bipush (v := 18) hx hb dX3_transitions_5 (by decide) ?_
        refine lv_icmp_ge (tgt := 30) hx hb dX3_transitions_7 (by decide) (fun c_25 => ?_) (fun c_25 => ?_)
        · exact absurd c_25 (by decide)
        · refine lv_iload_n hx hb dX3_transitions_10 rfl (lv_at hl 1 rfl) ?_
          refine lv_aload_n hx hb dX3_transitions_11 rfl (lv_at hl 2 rfl) ?_
          refine va_get (D := D) (ci := 3) (v := .ref v) (C := RX3) (T := TX3) (N := 3) hx hb hts hiX3 hown hK hP 0 rfl rfl 1 (by decide) (hts (.fieldLink RX3 15 "DynamicLogicProver$Model" "moves" "[I") (mo_X3_transitions0 0 rfl)) (fun _ h9 => h9) rfl dX3_transitions_12 ?_
          refine lv_iload_n hx hb dX3_transitions_15 rfl (lv_at hl 0 rfl) ?_
          refine kc_Ni (As := [.ref v, .int 3]) (rest := [.int 0]) (wr := [(h, .inr (3, [.ref t, .ref v, .int n]))]) ⟨hx, hb, hml, hown, hts⟩ (ct_X11_at l D v kv 18 (fun _ => 0) 3 _ (by decide)) ⟨va_cnB 2 hts (goodIn_sub mb_X3_transitions0_0 gw_X11_at) rfl rfl rfl (hN.1 (RX3, 34, yX11_at) (List.mem_of_getElem? (i := 13) rfl)) (hts (.initialized RX11) (mo_X3_transitions0 1 rfl)) hd_X11_at ⟨Nat.le_of_ble_eq_true rfl, Nat.le_of_ble_eq_true rfl⟩, (hts (.static yX11_at) (mo_X3_transitions0 2 rfl)), trivial⟩ hK hN hP hD hS hA [1] [0] [0] rfl rfl (by decide) (by decide) (by decide) rfl rfl hl.1 rfl (Nat.le_of_ble_eq_true rfl) dX3_transitions_16 ⟨Nat.le_of_ble_eq_true rfl, Nat.le_of_ble_eq_true rfl⟩ (fun r_26 u_27 H locs w_28 hP hD hK1 hS => ?_)
          have hP : va_P D vwCl [(h, .inr (3, [.ref t, .ref v, .int n])), (v, .inl (kv, 18, .inl (fun _ => 0)))] H := hP
          have hD : va_D A [(h, .inr (3, [.ref t, .ref v, .int n])), (v, .inl (kv, 18, .inl (fun _ => 0)))] := hD
          have w_28 : r_26 = at_v (fun _ => 0) 18 3 := w_28
          obtain rfl : r_26 = 0 := w_28.trans (at_v0 _ _)
          refine kc_Si (As := [.int 0]) (rest := [.int 0]) (wr := [(h, .inr (3, [.ref t, .ref v, .int n])), (v, .inl (kv, 18, .inl (fun _ => 0)))]) ⟨hx, hb, hml, hown, hts⟩ (ct_bitCount0 l D  _ ) (va_cwS 1 hts (kg_S (mo_X3_transitions0 3 rfl) (mo_X3_transitions0 4 rfl) (mo_X3_transitions0 5 rfl) (goodIn_sub mb_X3_transitions0_1 gw_bitCount0)) rfl rfl rfl hd_J6_bitCount_0f7a4 ⟨Nat.le_of_ble_eq_true rfl, Nat.le_of_ble_eq_true rfl⟩) hK hN hP hD hS hA [] [0, 1] [] rfl rfl (by decide) (by decide) (by decide) rfl rfl hl.1 rfl (Nat.le_of_ble_eq_true rfl) dX3_transitions_19 ⟨Nat.le_of_ble_eq_true rfl, Nat.le_of_ble_eq_true rfl⟩ (fun r_29 u_30 H locs w_31 hP hD hK1 hS => ?_)
          have hP : va_P D vwCl [(h, .inr (3, [.ref t, .ref v, .int n])), (v, .inl (kv, 18, .inl (fun _ => 0)))] H := hP
          have hD : va_D A [(h, .inr (3, [.ref t, .ref v, .int n])), (v, .inl (kv, 18, .inl (fun _ => 0)))] := hD
          have w_31 : r_29 = 0 := w_31
          subst w_31
          refine lv_iadd hx hb dX3_transitions_22 ?_
          refine lv_topi (fun x_32 ex_32 => ?_)
          obtain rfl : x_32 = 0 := ex_32.trans (by decide)
          refine lv_istore_n (lv' := [(1, .int 0), (2, .int 3), (0, .ref h)]) hx hb dX3_transitions_23 rfl hl (by decide) rfl (fun ls hl => ?_)
          refine lv_iinc (v := 4) (lv' := [(2, .int 4), (1, .int 0), (0, .ref h)]) hx hb dX3_transitions_24 hl (k := 1) rfl (by decide) (by decide) rfl (fun ls hl => ?_)
          refine lv_goto (tgt := 4) hx hb dX3_transitions_27 (by decide) ?_
          refine lv_iload_n hx hb dX3_transitions_4 rfl (lv_at hl 0 rfl) ?_
          refine lv_bipush (v := 18) hx hb dX3_transitions_5 (by decide) ?_
          refine lv_icmp_ge (tgt := 30) hx hb dX3_transitions_7 (by decide) (fun c_33 => ?_) (fun c_33 => ?_)
          · exact absurd c_33 (by decide)
          · refine lv_iload_n hx hb dX3_transitions_10 rfl (lv_at hl 1 rfl) ?_
            refine lv_aload_n hx hb dX3_transitions_11 rfl (lv_at hl 2 rfl) ?_
            refine va_get (D := D) (ci := 3) (v := .ref v) (C := RX3) (T := TX3) (N := 3) hx hb hts hiX3 hown hK hP 0 rfl rfl 1 (by decide) (hts (.fieldLink RX3 15 "DynamicLogicProver$Model" "moves" "[I") (mo_X3_transitions0 0 rfl)) (fun _ h9 => h9) rfl dX3_transitions_12 ?_
            refine lv_iload_n hx hb dX3_transitions_15 rfl (lv_at hl 0 rfl) ?_
            refine kc_Ni (As := [.ref v, .int 4]) (rest := [.int 0]) (wr := [(h, .inr (3, [.ref t, .ref v, .int n]))]) ⟨hx, hb, hml, hown, hts⟩ (ct_X11_at l D v kv 18 (fun _ => 0) 4 _ (by decide)) ⟨va_cnB 2 hts (goodIn_sub mb_X3_transitions0_0 gw_X11_at) rfl rfl rfl (hN.1 (RX3, 34, yX11_at) (List.mem_of_getElem? (i := 13) rfl)) (hts (.initialized RX11) (mo_X3_transitions0 1 rfl)) hd_X11_at ⟨Nat.le_of_ble_eq_true rfl, Nat.le_of_ble_eq_true rfl⟩, (hts (.static yX11_at) (mo_X3_transitions0 2 rfl)), trivial⟩ hK hN hP hD hS hA [1] [0] [0] rfl rfl (by decide) (by decide) (by decide) rfl rfl hl.1 rfl (Nat.le_of_ble_eq_true rfl) dX3_transitions_16 ⟨Nat.le_of_ble_eq_true rfl, Nat.le_of_ble_eq_true rfl⟩ (fun r_34 u_35 H locs w_36 hP hD hK1 hS => ?_)
            have hP : va_P D vwCl [(h, .inr (3, [.ref t, .ref v, .int n])), (v, .inl (kv, 18, .inl (fun _ => 0)))] H := hP
            have hD : va_D A [(h, .inr (3, [.ref t, .ref v, .int n])), (v, .inl (kv, 18, .inl (fun _ => 0)))] := hD
            have w_36 : r_34 = at_v (fun _ => 0) 18 4 := w_36
            obtain rfl : r_34 = 0 := w_36.trans (at_v0 _ _)
            refine kc_Si (As := [.int 0]) (rest := [.int 0]) (wr := [(h, .inr (3, [.ref t, .ref v, .int n])), (v, .inl (kv, 18, .inl (fun _ => 0)))]) ⟨hx, hb, hml, hown, hts⟩ (ct_bitCount0 l D  _ ) (va_cwS 1 hts (kg_S (mo_X3_transitions0 3 rfl) (mo_X3_transitions0 4 rfl) (mo_X3_transitions0 5 rfl) (goodIn_sub mb_X3_transitions0_1 gw_bitCount0)) rfl rfl rfl hd_J6_bitCount_0f7a4 ⟨Nat.le_of_ble_eq_true rfl, Nat.le_of_ble_eq_true rfl⟩) hK hN hP hD hS hA [] [0, 1] [] rfl rfl (by decide) (by decide) (by decide) rfl rfl hl.1 rfl (Nat.le_of_ble_eq_true rfl) dX3_transitions_19 ⟨Nat.le_of_ble_eq_true rfl, Nat.le_of_ble_eq_true rfl⟩ (fun r_37 u_38 H locs w_39 hP hD hK1 hS => ?_)
            have hP : va_P D vwCl [(h, .inr (3, [.ref t, .ref v, .int n])), (v, .inl (kv, 18, .inl (fun _ => 0)))] H := hP
            have hD : va_D A [(h, .inr (3, [.ref t, .ref v, .int n])), (v, .inl (kv, 18, .inl (fun _ => 0)))] := hD
            have w_39 : r_37 = 0 := w_39
            subst w_39
            refine lv_iadd hx hb dX3_transitions_22 ?_
            refine lv_topi (fun x_40 ex_40 => ?_)
            obtain rfl : x_40 = 0 := ex_40.trans (by decide)
            refine lv_istore_n (lv' := [(1, .int 0), (2, .int 4), (0, .ref h)]) hx hb dX3_transitions_23 rfl hl (by decide) rfl (fun ls hl => ?_)
            refine lv_iinc (v := 5) (lv' := [(2, .int 5), (1, .int 0), (0, .ref h)]) hx hb dX3_transitions_24 hl (k := 1) rfl (by decide) (by decide) rfl (fun ls hl => ?_)
            refine lv_goto (tgt := 4) hx hb dX3_transitions_27 (by decide) ?_
            refine lv_iload_n hx hb dX3_transitions_4 rfl (lv_at hl 0 rfl) ?_
            refine lv_bipush (v := 18) hx hb dX3_transitions_5 (by decide) ?_
            refine lv_icmp_ge (tgt := 30) hx hb dX3_transitions_7 (by decide) (fun c_41 => ?_) (fun c_41 => ?_)
            · exact absurd c_41 (by decide)
            · refine lv_iload_n hx hb dX3_transitions_10 rfl (lv_at hl 1 rfl) ?_
              refine lv_aload_n hx hb dX3_transitions_11 rfl (lv_at hl 2 rfl) ?_
              refine va_get (D := D) (ci := 3) (v := .ref v) (C := RX3) (T := TX3) (N := 3) hx hb hts hiX3 hown hK hP 0 rfl rfl 1 (by decide) (hts (.fieldLink RX3 15 "DynamicLogicProver$Model" "moves" "[I") (mo_X3_transitions0 0 rfl)) (fun _ h9 => h9) rfl dX3_transitions_12 ?_
              refine lv_iload_n hx hb dX3_transitions_15 rfl (lv_at hl 0 rfl) ?_
              refine kc_Ni (As := [.ref v, .int 5]) (rest := [.int 0]) (wr := [(h, .inr (3, [.ref t, .ref v, .int n]))]) ⟨hx, hb, hml, hown, hts⟩ (ct_X11_at l D v kv 18 (fun _ => 0) 5 _ (by decide)) ⟨va_cnB 2 hts (goodIn_sub mb_X3_transitions0_0 gw_X11_at) rfl rfl rfl (hN.1 (RX3, 34, yX11_at) (List.mem_of_getElem? (i := 13) rfl)) (hts (.initialized RX11) (mo_X3_transitions0 1 rfl)) hd_X11_at ⟨Nat.le_of_ble_eq_true rfl, Nat.le_of_ble_eq_true rfl⟩, (hts (.static yX11_at) (mo_X3_transitions0 2 rfl)), trivial⟩ hK hN hP hD hS hA [1] [0] [0] rfl rfl (by decide) (by decide) (by decide) rfl rfl hl.1 rfl (Nat.le_of_ble_eq_true rfl) dX3_transitions_16 ⟨Nat.le_of_ble_eq_true rfl, Nat.le_of_ble_eq_true rfl⟩ (fun r_42 u_43 H locs w_44 hP hD hK1 hS => ?_)
              have hP : va_P D vwCl [(h, .inr (3, [.ref t, .ref v, .int n])), (v, .inl (kv, 18, .inl (fun _ => 0)))] H := hP
              have hD : va_D A [(h, .inr (3, [.ref t, .ref v, .int n])), (v, .inl (kv, 18, .inl (fun _ => 0)))] := hD
              have w_44 : r_42 = at_v (fun _ => 0) 18 5 := w_44
              obtain rfl : r_42 = 0 := w_44.trans (at_v0 _ _)
              refine kc_Si (As := [.int 0]) (rest := [.int 0]) (wr := [(h, .inr (3, [.ref t, .ref v, .int n])), (v, .inl (kv, 18, .inl (fun _ => 0)))]) ⟨hx, hb, hml, hown, hts⟩ (ct_bitCount0 l D  _ ) (va_cwS 1 hts (kg_S (mo_X3_transitions0 3 rfl) (mo_X3_transitions0 4 rfl) (mo_X3_transitions0 5 rfl) (goodIn_sub mb_X3_transitions0_1 gw_bitCount0)) rfl rfl rfl hd_J6_bitCount_0f7a4 ⟨Nat.le_of_ble_eq_true rfl, Nat.le_of_ble_eq_true rfl⟩) hK hN hP hD hS hA [] [0, 1] [] rfl rfl (by decide) (by decide) (by decide) rfl rfl hl.1 rfl (Nat.le_of_ble_eq_true rfl) dX3_transitions_19 ⟨Nat.le_of_ble_eq_true rfl, Nat.le_of_ble_eq_true rfl⟩ (fun r_45 u_46 H locs w_47 hP hD hK1 hS => ?_)
              have hP : va_P D vwCl [(h, .inr (3, [.ref t, .ref v, .int n])), (v, .inl (kv, 18, .inl (fun _ => 0)))] H := hP
              have hD : va_D A [(h, .inr (3, [.ref t, .ref v, .int n])), (v, .inl (kv, 18, .inl (fun _ => 0)))] := hD
              have w_47 : r_45 = 0 := w_47
              subst w_47
              refine lv_iadd hx hb dX3_transitions_22 ?_
              refine lv_topi (fun x_48 ex_48 => ?_)
              obtain rfl : x_48 = 0 := ex_48.trans (by decide)
              refine lv_istore_n (lv' := [(1, .int 0), (2, .int 5), (0, .ref h)]) hx hb dX3_transitions_23 rfl hl (by decide) rfl (fun ls hl => ?_)
              refine lv_iinc (v := 6) (lv' := [(2, .int 6), (1, .int 0), (0, .ref h)]) hx hb dX3_transitions_24 hl (k := 1) rfl (by decide) (by decide) rfl (fun ls hl => ?_)
              refine lv_goto (tgt := 4) hx hb dX3_transitions_27 (by decide) ?_
              refine lv_iload_n hx hb dX3_transitions_4 rfl (lv_at hl 0 rfl) ?_
              refine lv_bipush (v := 18) hx hb dX3_transitions_5 (by decide) ?_
              refine lv_icmp_ge (tgt := 30) hx hb dX3_transitions_7 (by decide) (fun c_49 => ?_) (fun c_49 => ?_)
              · exact absurd c_49 (by decide)
              · refine lv_iload_n hx hb dX3_transitions_10 rfl (lv_at hl 1 rfl) ?_
                refine lv_aload_n hx hb dX3_transitions_11 rfl (lv_at hl 2 rfl) ?_
                refine va_get (D := D) (ci := 3) (v := .ref v) (C := RX3) (T := TX3) (N := 3) hx hb hts hiX3 hown hK hP 0 rfl rfl 1 (by decide) (hts (.fieldLink RX3 15 "DynamicLogicProver$Model" "moves" "[I") (mo_X3_transitions0 0 rfl)) (fun _ h9 => h9) rfl dX3_transitions_12 ?_
                refine lv_iload_n hx hb dX3_transitions_15 rfl (lv_at hl 0 rfl) ?_
                refine kc_Ni (As := [.ref v, .int 6]) (rest := [.int 0]) (wr := [(h, .inr (3, [.ref t, .ref v, .int n]))]) ⟨hx, hb, hml, hown, hts⟩ (ct_X11_at l D v kv 18 (fun _ => 0) 6 _ (by decide)) ⟨va_cnB 2 hts (goodIn_sub mb_X3_transitions0_0 gw_X11_at) rfl rfl rfl (hN.1 (RX3, 34, yX11_at) (List.mem_of_getElem? (i := 13) rfl)) (hts (.initialized RX11) (mo_X3_transitions0 1 rfl)) hd_X11_at ⟨Nat.le_of_ble_eq_true rfl, Nat.le_of_ble_eq_true rfl⟩, (hts (.static yX11_at) (mo_X3_transitions0 2 rfl)), trivial⟩ hK hN hP hD hS hA [1] [0] [0] rfl rfl (by decide) (by decide) (by decide) rfl rfl hl.1 rfl (Nat.le_of_ble_eq_true rfl) dX3_transitions_16 ⟨Nat.le_of_ble_eq_true rfl, Nat.le_of_ble_eq_true rfl⟩ (fun r_50 u_51 H locs w_52 hP hD hK1 hS => ?_)
                have hP : va_P D vwCl [(h, .inr (3, [.ref t, .ref v, .int n])), (v, .inl (kv, 18, .inl (fun _ => 0)))] H := hP
                have hD : va_D A [(h, .inr (3, [.ref t, .ref v, .int n])), (v, .inl (kv, 18, .inl (fun _ => 0)))] := hD
                have w_52 : r_50 = at_v (fun _ => 0) 18 6 := w_52
                obtain rfl : r_50 = 0 := w_52.trans (at_v0 _ _)
                refine kc_Si (As := [.int 0]) (rest := [.int 0]) (wr := [(h, .inr (3, [.ref t, .ref v, .int n])), (v, .inl (kv, 18, .inl (fun _ => 0)))]) ⟨hx, hb, hml, hown, hts⟩ (ct_bitCount0 l D  _ ) (va_cwS 1 hts (kg_S (mo_X3_transitions0 3 rfl) (mo_X3_transitions0 4 rfl) (mo_X3_transitions0 5 rfl) (goodIn_sub mb_X3_transitions0_1 gw_bitCount0)) rfl rfl rfl hd_J6_bitCount_0f7a4 ⟨Nat.le_of_ble_eq_true rfl, Nat.le_of_ble_eq_true rfl⟩) hK hN hP hD hS hA [] [0, 1] [] rfl rfl (by decide) (by decide) (by decide) rfl rfl hl.1 rfl (Nat.le_of_ble_eq_true rfl) dX3_transitions_19 ⟨Nat.le_of_ble_eq_true rfl, Nat.le_of_ble_eq_true rfl⟩ (fun r_53 u_54 H locs w_55 hP hD hK1 hS => ?_)
                have hP : va_P D vwCl [(h, .inr (3, [.ref t, .ref v, .int n])), (v, .inl (kv, 18, .inl (fun _ => 0)))] H := hP
                have hD : va_D A [(h, .inr (3, [.ref t, .ref v, .int n])), (v, .inl (kv, 18, .inl (fun _ => 0)))] := hD
                have w_55 : r_53 = 0 := w_55
                subst w_55
                refine lv_iadd hx hb dX3_transitions_22 ?_
                refine lv_topi (fun x_56 ex_56 => ?_)
                obtain rfl : x_56 = 0 := ex_56.trans (by decide)
                refine lv_istore_n (lv' := [(1, .int 0), (2, .int 6), (0, .ref h)]) hx hb dX3_transitions_23 rfl hl (by decide) rfl (fun ls hl => ?_)
                refine lv_iinc (v := 7) (lv' := [(2, .int 7), (1, .int 0), (0, .ref h)]) hx hb dX3_transitions_24 hl (k := 1) rfl (by decide) (by decide) rfl (fun ls hl => ?_)
                refine lv_goto (tgt := 4) hx hb dX3_transitions_27 (by decide) ?_
                refine lv_iload_n hx hb dX3_transitions_4 rfl (lv_at hl 0 rfl) ?_
                refine lv_bipush (v := 18) hx hb dX3_transitions_5 (by decide) ?_
                refine lv_icmp_ge (tgt := 30) hx hb dX3_transitions_7 (by decide) (fun c_57 => ?_) (fun c_57 => ?_)
                · exact absurd c_57 (by decide)
                · refine lv_iload_n hx hb dX3_transitions_10 rfl (lv_at hl 1 rfl) ?_
                  refine lv_aload_n hx hb dX3_transitions_11 rfl (lv_at hl 2 rfl) ?_
                  refine va_get (D := D) (ci := 3) (v := .ref v) (C := RX3) (T := TX3) (N := 3) hx hb hts hiX3 hown hK hP 0 rfl rfl 1 (by decide) (hts (.fieldLink RX3 15 "DynamicLogicProver$Model" "moves" "[I") (mo_X3_transitions0 0 rfl)) (fun _ h9 => h9) rfl dX3_transitions_12 ?_
                  refine lv_iload_n hx hb dX3_transitions_15 rfl (lv_at hl 0 rfl) ?_
                  refine kc_Ni (As := [.ref v, .int 7]) (rest := [.int 0]) (wr := [(h, .inr (3, [.ref t, .ref v, .int n]))]) ⟨hx, hb, hml, hown, hts⟩ (ct_X11_at l D v kv 18 (fun _ => 0) 7 _ (by decide)) ⟨va_cnB 2 hts (goodIn_sub mb_X3_transitions0_0 gw_X11_at) rfl rfl rfl (hN.1 (RX3, 34, yX11_at) (List.mem_of_getElem? (i := 13) rfl)) (hts (.initialized RX11) (mo_X3_transitions0 1 rfl)) hd_X11_at ⟨Nat.le_of_ble_eq_true rfl, Nat.le_of_ble_eq_true rfl⟩, (hts (.static yX11_at) (mo_X3_transitions0 2 rfl)), trivial⟩ hK hN hP hD hS hA [1] [0] [0] rfl rfl (by decide) (by decide) (by decide) rfl rfl hl.1 rfl (Nat.le_of_ble_eq_true rfl) dX3_transitions_16 ⟨Nat.le_of_ble_eq_true rfl, Nat.le_of_ble_eq_true rfl⟩ (fun r_58 u_59 H locs w_60 hP hD hK1 hS => ?_)
                  have hP : va_P D vwCl [(h, .inr (3, [.ref t, .ref v, .int n])), (v, .inl (kv, 18, .inl (fun _ => 0)))] H := hP
                  have hD : va_D A [(h, .inr (3, [.ref t, .ref v, .int n])), (v, .inl (kv, 18, .inl (fun _ => 0)))] := hD
                  have w_60 : r_58 = at_v (fun _ => 0) 18 7 := w_60
                  obtain rfl : r_58 = 0 := w_60.trans (at_v0 _ _)
                  refine kc_Si (As := [.int 0]) (rest := [.int 0]) (wr := [(h, .inr (3, [.ref t, .ref v, .int n])), (v, .inl (kv, 18, .inl (fun _ => 0)))]) ⟨hx, hb, hml, hown, hts⟩ (ct_bitCount0 l D  _ ) (va_cwS 1 hts (kg_S (mo_X3_transitions0 3 rfl) (mo_X3_transitions0 4 rfl) (mo_X3_transitions0 5 rfl) (goodIn_sub mb_X3_transitions0_1 gw_bitCount0)) rfl rfl rfl hd_J6_bitCount_0f7a4 ⟨Nat.le_of_ble_eq_true rfl, Nat.le_of_ble_eq_true rfl⟩) hK hN hP hD hS hA [] [0, 1] [] rfl rfl (by decide) (by decide) (by decide) rfl rfl hl.1 rfl (Nat.le_of_ble_eq_true rfl) dX3_transitions_19 ⟨Nat.le_of_ble_eq_true rfl, Nat.le_of_ble_eq_true rfl⟩ (fun r_61 u_62 H locs w_63 hP hD hK1 hS => ?_)
                  have hP : va_P D vwCl [(h, .inr (3, [.ref t, .ref v, .int n])), (v, .inl (kv, 18, .inl (fun _ => 0)))] H := hP
                  have hD : va_D A [(h, .inr (3, [.ref t, .ref v, .int n])), (v, .inl (kv, 18, .inl (fun _ => 0)))] := hD
                  have w_63 : r_61 = 0 := w_63
                  subst w_63
                  refine lv_iadd hx hb dX3_transitions_22 ?_
                  refine lv_topi (fun x_64 ex_64 => ?_)
                  obtain rfl : x_64 = 0 := ex_64.trans (by decide)
                  refine lv_istore_n (lv' := [(1, .int 0), (2, .int 7), (0, .ref h)]) hx hb dX3_transitions_23 rfl hl (by decide) rfl (fun ls hl => ?_)
                  refine lv_iinc (v := 8) (lv' := [(2, .int 8), (1, .int 0), (0, .ref h)]) hx hb dX3_transitions_24 hl (k := 1) rfl (by decide) (by decide) rfl (fun ls hl => ?_)
                  refine lv_goto (tgt := 4) hx hb dX3_transitions_27 (by decide) ?_
                  refine lv_iload_n hx hb dX3_transitions_4 rfl (lv_at hl 0 rfl) ?_
                  refine lv_bipush (v := 18) hx hb dX3_transitions_5 (by decide) ?_
                  refine lv_icmp_ge (tgt := 30) hx hb dX3_transitions_7 (by decide) (fun c_65 => ?_) (fun c_65 => ?_)
                  · exact absurd c_65 (by decide)
                  · refine lv_iload_n hx hb dX3_transitions_10 rfl (lv_at hl 1 rfl) ?_
                    refine lv_aload_n hx hb dX3_transitions_11 rfl (lv_at hl 2 rfl) ?_
                    refine va_get (D := D) (ci := 3) (v := .ref v) (C := RX3) (T := TX3) (N := 3) hx hb hts hiX3 hown hK hP 0 rfl rfl 1 (by decide) (hts (.fieldLink RX3 15 "DynamicLogicProver$Model" "moves" "[I") (mo_X3_transitions0 0 rfl)) (fun _ h9 => h9) rfl dX3_transitions_12 ?_
                    refine lv_iload_n hx hb dX3_transitions_15 rfl (lv_at hl 0 rfl) ?_
                    refine kc_Ni (As := [.ref v, .int 8]) (rest := [.int 0]) (wr := [(h, .inr (3, [.ref t, .ref v, .int n]))]) ⟨hx, hb, hml, hown, hts⟩ (ct_X11_at l D v kv 18 (fun _ => 0) 8 _ (by decide)) ⟨va_cnB 2 hts (goodIn_sub mb_X3_transitions0_0 gw_X11_at) rfl rfl rfl (hN.1 (RX3, 34, yX11_at) (List.mem_of_getElem? (i := 13) rfl)) (hts (.initialized RX11) (mo_X3_transitions0 1 rfl)) hd_X11_at ⟨Nat.le_of_ble_eq_true rfl, Nat.le_of_ble_eq_true rfl⟩, (hts (.static yX11_at) (mo_X3_transitions0 2 rfl)), trivial⟩ hK hN hP hD hS hA [1] [0] [0] rfl rfl (by decide) (by decide) (by decide) rfl rfl hl.1 rfl (Nat.le_of_ble_eq_true rfl) dX3_transitions_16 ⟨Nat.le_of_ble_eq_true rfl, Nat.le_of_ble_eq_true rfl⟩ (fun r_66 u_67 H locs w_68 hP hD hK1 hS => ?_)
                    have hP : va_P D vwCl [(h, .inr (3, [.ref t, .ref v, .int n])), (v, .inl (kv, 18, .inl (fun _ => 0)))] H := hP
                    have hD : va_D A [(h, .inr (3, [.ref t, .ref v, .int n])), (v, .inl (kv, 18, .inl (fun _ => 0)))] := hD
                    have w_68 : r_66 = at_v (fun _ => 0) 18 8 := w_68
                    obtain rfl : r_66 = 0 := w_68.trans (at_v0 _ _)
                    refine kc_Si (As := [.int 0]) (rest := [.int 0]) (wr := [(h, .inr (3, [.ref t, .ref v, .int n])), (v, .inl (kv, 18, .inl (fun _ => 0)))]) ⟨hx, hb, hml, hown, hts⟩ (ct_bitCount0 l D  _ ) (va_cwS 1 hts (kg_S (mo_X3_transitions0 3 rfl) (mo_X3_transitions0 4 rfl) (mo_X3_transitions0 5 rfl) (goodIn_sub mb_X3_transitions0_1 gw_bitCount0)) rfl rfl rfl hd_J6_bitCount_0f7a4 ⟨Nat.le_of_ble_eq_true rfl, Nat.le_of_ble_eq_true rfl⟩) hK hN hP hD hS hA [] [0, 1] [] rfl rfl (by decide) (by decide) (by decide) rfl rfl hl.1 rfl (Nat.le_of_ble_eq_true rfl) dX3_transitions_19 ⟨Nat.le_of_ble_eq_true rfl, Nat.le_of_ble_eq_true rfl⟩ (fun r_69 u_70 H locs w_71 hP hD hK1 hS => ?_)
                    have hP : va_P D vwCl [(h, .inr (3, [.ref t, .ref v, .int n])), (v, .inl (kv, 18, .inl (fun _ => 0)))] H := hP
                    have hD : va_D A [(h, .inr (3, [.ref t, .ref v, .int n])), (v, .inl (kv, 18, .inl (fun _ => 0)))] := hD
                    have w_71 : r_69 = 0 := w_71
                    subst w_71
                    refine lv_iadd hx hb dX3_transitions_22 ?_
                    refine lv_topi (fun x_72 ex_72 => ?_)
                    obtain rfl : x_72 = 0 := ex_72.trans (by decide)
                    refine lv_istore_n (lv' := [(1, .int 0), (2, .int 8), (0, .ref h)]) hx hb dX3_transitions_23 rfl hl (by decide) rfl (fun ls hl => ?_)
                    refine lv_iinc (v := 9) (lv' := [(2, .int 9), (1, .int 0), (0, .ref h)]) hx hb dX3_transitions_24 hl (k := 1) rfl (by decide) (by decide) rfl (fun ls hl => ?_)
                    refine lv_goto (tgt := 4) hx hb dX3_transitions_27 (by decide) ?_
                    refine lv_iload_n hx hb dX3_transitions_4 rfl (lv_at hl 0 rfl) ?_
                    refine lv_bipush (v := 18) hx hb dX3_transitions_5 (by decide) ?_
                    refine lv_icmp_ge (tgt := 30) hx hb dX3_transitions_7 (by decide) (fun c_73 => ?_) (fun c_73 => ?_)
                    · exact absurd c_73 (by decide)
                    · refine lv_iload_n hx hb dX3_transitions_10 rfl (lv_at hl 1 rfl) ?_
                      refine lv_aload_n hx hb dX3_transitions_11 rfl (lv_at hl 2 rfl) ?_
                      refine va_get (D := D) (ci := 3) (v := .ref v) (C := RX3) (T := TX3) (N := 3) hx hb hts hiX3 hown hK hP 0 rfl rfl 1 (by decide) (hts (.fieldLink RX3 15 "DynamicLogicProver$Model" "moves" "[I") (mo_X3_transitions0 0 rfl)) (fun _ h9 => h9) rfl dX3_transitions_12 ?_
                      refine lv_iload_n hx hb dX3_transitions_15 rfl (lv_at hl 0 rfl) ?_
                      refine kc_Ni (As := [.ref v, .int 9]) (rest := [.int 0]) (wr := [(h, .inr (3, [.ref t, .ref v, .int n]))]) ⟨hx, hb, hml, hown, hts⟩ (ct_X11_at l D v kv 18 (fun _ => 0) 9 _ (by decide)) ⟨va_cnB 2 hts (goodIn_sub mb_X3_transitions0_0 gw_X11_at) rfl rfl rfl (hN.1 (RX3, 34, yX11_at) (List.mem_of_getElem? (i := 13) rfl)) (hts (.initialized RX11) (mo_X3_transitions0 1 rfl)) hd_X11_at ⟨Nat.le_of_ble_eq_true rfl, Nat.le_of_ble_eq_true rfl⟩, (hts (.static yX11_at) (mo_X3_transitions0 2 rfl)), trivial⟩ hK hN hP hD hS hA [1] [0] [0] rfl rfl (by decide) (by decide) (by decide) rfl rfl hl.1 rfl (Nat.le_of_ble_eq_true rfl) dX3_transitions_16 ⟨Nat.le_of_ble_eq_true rfl, Nat.le_of_ble_eq_true rfl⟩ (fun r_74 u_75 H locs w_76 hP hD hK1 hS => ?_)
                      have hP : va_P D vwCl [(h, .inr (3, [.ref t, .ref v, .int n])), (v, .inl (kv, 18, .inl (fun _ => 0)))] H := hP
                      have hD : va_D A [(h, .inr (3, [.ref t, .ref v, .int n])), (v, .inl (kv, 18, .inl (fun _ => 0)))] := hD
                      have w_76 : r_74 = at_v (fun _ => 0) 18 9 := w_76
                      obtain rfl : r_74 = 0 := w_76.trans (at_v0 _ _)
                      refine kc_Si (As := [.int 0]) (rest := [.int 0]) (wr := [(h, .inr (3, [.ref t, .ref v, .int n])), (v, .inl (kv, 18, .inl (fun _ => 0)))]) ⟨hx, hb, hml, hown, hts⟩ (ct_bitCount0 l D  _ ) (va_cwS 1 hts (kg_S (mo_X3_transitions0 3 rfl) (mo_X3_transitions0 4 rfl) (mo_X3_transitions0 5 rfl) (goodIn_sub mb_X3_transitions0_1 gw_bitCount0)) rfl rfl rfl hd_J6_bitCount_0f7a4 ⟨Nat.le_of_ble_eq_true rfl, Nat.le_of_ble_eq_true rfl⟩) hK hN hP hD hS hA [] [0, 1] [] rfl rfl (by decide) (by decide) (by decide) rfl rfl hl.1 rfl (Nat.le_of_ble_eq_true rfl) dX3_transitions_19 ⟨Nat.le_of_ble_eq_true rfl, Nat.le_of_ble_eq_true rfl⟩ (fun r_77 u_78 H locs w_79 hP hD hK1 hS => ?_)
                      have hP : va_P D vwCl [(h, .inr (3, [.ref t, .ref v, .int n])), (v, .inl (kv, 18, .inl (fun _ => 0)))] H := hP
                      have hD : va_D A [(h, .inr (3, [.ref t, .ref v, .int n])), (v, .inl (kv, 18, .inl (fun _ => 0)))] := hD
                      have w_79 : r_77 = 0 := w_79
                      subst w_79
                      refine lv_iadd hx hb dX3_transitions_22 ?_
                      refine lv_topi (fun x_80 ex_80 => ?_)
                      obtain rfl : x_80 = 0 := ex_80.trans (by decide)
                      refine lv_istore_n (lv' := [(1, .int 0), (2, .int 9), (0, .ref h)]) hx hb dX3_transitions_23 rfl hl (by decide) rfl (fun ls hl => ?_)
                      refine lv_iinc (v := 10) (lv' := [(2, .int 10), (1, .int 0), (0, .ref h)]) hx hb dX3_transitions_24 hl (k := 1) rfl (by decide) (by decide) rfl (fun ls hl => ?_)
                      refine lv_goto (tgt := 4) hx hb dX3_transitions_27 (by decide) ?_
                      refine lv_iload_n hx hb dX3_transitions_4 rfl (lv_at hl 0 rfl) ?_
                      refine lv_bipush (v := 18) hx hb dX3_transitions_5 (by decide) ?_
                      refine lv_icmp_ge (tgt := 30) hx hb dX3_transitions_7 (by decide) (fun c_81 => ?_) (fun c_81 => ?_)
                      · exact absurd c_81 (by decide)
                      · refine lv_iload_n hx hb dX3_transitions_10 rfl (lv_at hl 1 rfl) ?_
                        refine lv_aload_n hx hb dX3_transitions_11 rfl (lv_at hl 2 rfl) ?_
                        refine va_get (D := D) (ci := 3) (v := .ref v) (C := RX3) (T := TX3) (N := 3) hx hb hts hiX3 hown hK hP 0 rfl rfl 1 (by decide) (hts (.fieldLink RX3 15 "DynamicLogicProver$Model" "moves" "[I") (mo_X3_transitions0 0 rfl)) (fun _ h9 => h9) rfl dX3_transitions_12 ?_
                        refine lv_iload_n hx hb dX3_transitions_15 rfl (lv_at hl 0 rfl) ?_
                        refine kc_Ni (As := [.ref v, .int 10]) (rest := [.int 0]) (wr := [(h, .inr (3, [.ref t, .ref v, .int n]))]) ⟨hx, hb, hml, hown, hts⟩ (ct_X11_at l D v kv 18 (fun _ => 0) 10 _ (by decide)) ⟨va_cnB 2 hts (goodIn_sub mb_X3_transitions0_0 gw_X11_at) rfl rfl rfl (hN.1 (RX3, 34, yX11_at) (List.mem_of_getElem? (i := 13) rfl)) (hts (.initialized RX11) (mo_X3_transitions0 1 rfl)) hd_X11_at ⟨Nat.le_of_ble_eq_true rfl, Nat.le_of_ble_eq_true rfl⟩, (hts (.static yX11_at) (mo_X3_transitions0 2 rfl)), trivial⟩ hK hN hP hD hS hA [1] [0] [0] rfl rfl (by decide) (by decide) (by decide) rfl rfl hl.1 rfl (Nat.le_of_ble_eq_true rfl) dX3_transitions_16 ⟨Nat.le_of_ble_eq_true rfl, Nat.le_of_ble_eq_true rfl⟩ (fun r_82 u_83 H locs w_84 hP hD hK1 hS => ?_)
                        have hP : va_P D vwCl [(h, .inr (3, [.ref t, .ref v, .int n])), (v, .inl (kv, 18, .inl (fun _ => 0)))] H := hP
                        have hD : va_D A [(h, .inr (3, [.ref t, .ref v, .int n])), (v, .inl (kv, 18, .inl (fun _ => 0)))] := hD
                        have w_84 : r_82 = at_v (fun _ => 0) 18 10 := w_84
                        obtain rfl : r_82 = 0 := w_84.trans (at_v0 _ _)
                        refine kc_Si (As := [.int 0]) (rest := [.int 0]) (wr := [(h, .inr (3, [.ref t, .ref v, .int n])), (v, .inl (kv, 18, .inl (fun _ => 0)))]) ⟨hx, hb, hml, hown, hts⟩ (ct_bitCount0 l D  _ ) (va_cwS 1 hts (kg_S (mo_X3_transitions0 3 rfl) (mo_X3_transitions0 4 rfl) (mo_X3_transitions0 5 rfl) (goodIn_sub mb_X3_transitions0_1 gw_bitCount0)) rfl rfl rfl hd_J6_bitCount_0f7a4 ⟨Nat.le_of_ble_eq_true rfl, Nat.le_of_ble_eq_true rfl⟩) hK hN hP hD hS hA [] [0, 1] [] rfl rfl (by decide) (by decide) (by decide) rfl rfl hl.1 rfl (Nat.le_of_ble_eq_true rfl) dX3_transitions_19 ⟨Nat.le_of_ble_eq_true rfl, Nat.le_of_ble_eq_true rfl⟩ (fun r_85 u_86 H locs w_87 hP hD hK1 hS => ?_)
                        have hP : va_P D vwCl [(h, .inr (3, [.ref t, .ref v, .int n])), (v, .inl (kv, 18, .inl (fun _ => 0)))] H := hP
                        have hD : va_D A [(h, .inr (3, [.ref t, .ref v, .int n])), (v, .inl (kv, 18, .inl (fun _ => 0)))] := hD
                        have w_87 : r_85 = 0 := w_87
                        subst w_87
                        refine lv_iadd hx hb dX3_transitions_22 ?_
                        refine lv_topi (fun x_88 ex_88 => ?_)
                        obtain rfl : x_88 = 0 := ex_88.trans (by decide)
                        refine lv_istore_n (lv' := [(1, .int 0), (2, .int 10), (0, .ref h)]) hx hb dX3_transitions_23 rfl hl (by decide) rfl (fun ls hl => ?_)
                        refine lv_iinc (v := 11) (lv' := [(2, .int 11), (1, .int 0), (0, .ref h)]) hx hb dX3_transitions_24 hl (k := 1) rfl (by decide) (by decide) rfl (fun ls hl => ?_)
                        refine lv_goto (tgt := 4) hx hb dX3_transitions_27 (by decide) ?_
                        refine lv_iload_n hx hb dX3_transitions_4 rfl (lv_at hl 0 rfl) ?_
                        refine lv_bipush (v := 18) hx hb dX3_transitions_5 (by decide) ?_
                        refine lv_icmp_ge (tgt := 30) hx hb dX3_transitions_7 (by decide) (fun c_89 => ?_) (fun c_89 => ?_)
                        · exact absurd c_89 (by decide)
                        · refine lv_iload_n hx hb dX3_transitions_10 rfl (lv_at hl 1 rfl) ?_
                          refine lv_aload_n hx hb dX3_transitions_11 rfl (lv_at hl 2 rfl) ?_
                          refine va_get (D := D) (ci := 3) (v := .ref v) (C := RX3) (T := TX3) (N := 3) hx hb hts hiX3 hown hK hP 0 rfl rfl 1 (by decide) (hts (.fieldLink RX3 15 "DynamicLogicProver$Model" "moves" "[I") (mo_X3_transitions0 0 rfl)) (fun _ h9 => h9) rfl dX3_transitions_12 ?_
                          refine lv_iload_n hx hb dX3_transitions_15 rfl (lv_at hl 0 rfl) ?_
                          refine kc_Ni (As := [.ref v, .int 11]) (rest := [.int 0]) (wr := [(h, .inr (3, [.ref t, .ref v, .int n]))]) ⟨hx, hb, hml, hown, hts⟩ (ct_X11_at l D v kv 18 (fun _ => 0) 11 _ (by decide)) ⟨va_cnB 2 hts (goodIn_sub mb_X3_transitions0_0 gw_X11_at) rfl rfl rfl (hN.1 (RX3, 34, yX11_at) (List.mem_of_getElem? (i := 13) rfl)) (hts (.initialized RX11) (mo_X3_transitions0 1 rfl)) hd_X11_at ⟨Nat.le_of_ble_eq_true rfl, Nat.le_of_ble_eq_true rfl⟩, (hts (.static yX11_at) (mo_X3_transitions0 2 rfl)), trivial⟩ hK hN hP hD hS hA [1] [0] [0] rfl rfl (by decide) (by decide) (by decide) rfl rfl hl.1 rfl (Nat.le_of_ble_eq_true rfl) dX3_transitions_16 ⟨Nat.le_of_ble_eq_true rfl, Nat.le_of_ble_eq_true rfl⟩ (fun r_90 u_91 H locs w_92 hP hD hK1 hS => ?_)
                          have hP : va_P D vwCl [(h, .inr (3, [.ref t, .ref v, .int n])), (v, .inl (kv, 18, .inl (fun _ => 0)))] H := hP
                          have hD : va_D A [(h, .inr (3, [.ref t, .ref v, .int n])), (v, .inl (kv, 18, .inl (fun _ => 0)))] := hD
                          have w_92 : r_90 = at_v (fun _ => 0) 18 11 := w_92
                          obtain rfl : r_90 = 0 := w_92.trans (at_v0 _ _)
                          refine kc_Si (As := [.int 0]) (rest := [.int 0]) (wr := [(h, .inr (3, [.ref t, .ref v, .int n])), (v, .inl (kv, 18, .inl (fun _ => 0)))]) ⟨hx, hb, hml, hown, hts⟩ (ct_bitCount0 l D  _ ) (va_cwS 1 hts (kg_S (mo_X3_transitions0 3 rfl) (mo_X3_transitions0 4 rfl) (mo_X3_transitions0 5 rfl) (goodIn_sub mb_X3_transitions0_1 gw_bitCount0)) rfl rfl rfl hd_J6_bitCount_0f7a4 ⟨Nat.le_of_ble_eq_true rfl, Nat.le_of_ble_eq_true rfl⟩) hK hN hP hD hS hA [] [0, 1] [] rfl rfl (by decide) (by decide) (by decide) rfl rfl hl.1 rfl (Nat.le_of_ble_eq_true rfl) dX3_transitions_19 ⟨Nat.le_of_ble_eq_true rfl, Nat.le_of_ble_eq_true rfl⟩ (fun r_93 u_94 H locs w_95 hP hD hK1 hS => ?_)
                          have hP : va_P D vwCl [(h, .inr (3, [.ref t, .ref v, .int n])), (v, .inl (kv, 18, .inl (fun _ => 0)))] H := hP
                          have hD : va_D A [(h, .inr (3, [.ref t, .ref v, .int n])), (v, .inl (kv, 18, .inl (fun _ => 0)))] := hD
                          have w_95 : r_93 = 0 := w_95
                          subst w_95
                          refine lv_iadd hx hb dX3_transitions_22 ?_
                          refine lv_topi (fun x_96 ex_96 => ?_)
                          obtain rfl : x_96 = 0 := ex_96.trans (by decide)
                          refine lv_istore_n (lv' := [(1, .int 0), (2, .int 11), (0, .ref h)]) hx hb dX3_transitions_23 rfl hl (by decide) rfl (fun ls hl => ?_)
                          refine lv_iinc (v := 12) (lv' := [(2, .int 12), (1, .int 0), (0, .ref h)]) hx hb dX3_transitions_24 hl (k := 1) rfl (by decide) (by decide) rfl (fun ls hl => ?_)
                          refine lv_goto (tgt := 4) hx hb dX3_transitions_27 (by decide) ?_
                          refine lv_iload_n hx hb dX3_transitions_4 rfl (lv_at hl 0 rfl) ?_
                          refine lv_bipush (v := 18) hx hb dX3_transitions_5 (by decide) ?_
                          refine lv_icmp_ge (tgt := 30) hx hb dX3_transitions_7 (by decide) (fun c_97 => ?_) (fun c_97 => ?_)
                          · exact absurd c_97 (by decide)
                          · refine lv_iload_n hx hb dX3_transitions_10 rfl (lv_at hl 1 rfl) ?_
                            refine lv_aload_n hx hb dX3_transitions_11 rfl (lv_at hl 2 rfl) ?_
                            refine va_get (D := D) (ci := 3) (v := .ref v) (C := RX3) (T := TX3) (N := 3) hx hb hts hiX3 hown hK hP 0 rfl rfl 1 (by decide) (hts (.fieldLink RX3 15 "DynamicLogicProver$Model" "moves" "[I") (mo_X3_transitions0 0 rfl)) (fun _ h9 => h9) rfl dX3_transitions_12 ?_
                            refine lv_iload_n hx hb dX3_transitions_15 rfl (lv_at hl 0 rfl) ?_
                            refine kc_Ni (As := [.ref v, .int 12]) (rest := [.int 0]) (wr := [(h, .inr (3, [.ref t, .ref v, .int n]))]) ⟨hx, hb, hml, hown, hts⟩ (ct_X11_at l D v kv 18 (fun _ => 0) 12 _ (by decide)) ⟨va_cnB 2 hts (goodIn_sub mb_X3_transitions0_0 gw_X11_at) rfl rfl rfl (hN.1 (RX3, 34, yX11_at) (List.mem_of_getElem? (i := 13) rfl)) (hts (.initialized RX11) (mo_X3_transitions0 1 rfl)) hd_X11_at ⟨Nat.le_of_ble_eq_true rfl, Nat.le_of_ble_eq_true rfl⟩, (hts (.static yX11_at) (mo_X3_transitions0 2 rfl)), trivial⟩ hK hN hP hD hS hA [1] [0] [0] rfl rfl (by decide) (by decide) (by decide) rfl rfl hl.1 rfl (Nat.le_of_ble_eq_true rfl) dX3_transitions_16 ⟨Nat.le_of_ble_eq_true rfl, Nat.le_of_ble_eq_true rfl⟩ (fun r_98 u_99 H locs w_100 hP hD hK1 hS => ?_)
                            have hP : va_P D vwCl [(h, .inr (3, [.ref t, .ref v, .int n])), (v, .inl (kv, 18, .inl (fun _ => 0)))] H := hP
                            have hD : va_D A [(h, .inr (3, [.ref t, .ref v, .int n])), (v, .inl (kv, 18, .inl (fun _ => 0)))] := hD
                            have w_100 : r_98 = at_v (fun _ => 0) 18 12 := w_100
                            obtain rfl : r_98 = 0 := w_100.trans (at_v0 _ _)
                            refine kc_Si (As := [.int 0]) (rest := [.int 0]) (wr := [(h, .inr (3, [.ref t, .ref v, .int n])), (v, .inl (kv, 18, .inl (fun _ => 0)))]) ⟨hx, hb, hml, hown, hts⟩ (ct_bitCount0 l D  _ ) (va_cwS 1 hts (kg_S (mo_X3_transitions0 3 rfl) (mo_X3_transitions0 4 rfl) (mo_X3_transitions0 5 rfl) (goodIn_sub mb_X3_transitions0_1 gw_bitCount0)) rfl rfl rfl hd_J6_bitCount_0f7a4 ⟨Nat.le_of_ble_eq_true rfl, Nat.le_of_ble_eq_true rfl⟩) hK hN hP hD hS hA [] [0, 1] [] rfl rfl (by decide) (by decide) (by decide) rfl rfl hl.1 rfl (Nat.le_of_ble_eq_true rfl) dX3_transitions_19 ⟨Nat.le_of_ble_eq_true rfl, Nat.le_of_ble_eq_true rfl⟩ (fun r_101 u_102 H locs w_103 hP hD hK1 hS => ?_)
                            have hP : va_P D vwCl [(h, .inr (3, [.ref t, .ref v, .int n])), (v, .inl (kv, 18, .inl (fun _ => 0)))] H := hP
                            have hD : va_D A [(h, .inr (3, [.ref t, .ref v, .int n])), (v, .inl (kv, 18, .inl (fun _ => 0)))] := hD
                            have w_103 : r_101 = 0 := w_103
                            subst w_103
                            refine lv_iadd hx hb dX3_transitions_22 ?_
                            refine lv_topi (fun x_104 ex_104 => ?_)
                            obtain rfl : x_104 = 0 := ex_104.trans (by decide)
                            refine lv_istore_n (lv' := [(1, .int 0), (2, .int 12), (0, .ref h)]) hx hb dX3_transitions_23 rfl hl (by decide) rfl (fun ls hl => ?_)
                            refine lv_iinc (v := 13) (lv' := [(2, .int 13), (1, .int 0), (0, .ref h)]) hx hb dX3_transitions_24 hl (k := 1) rfl (by decide) (by decide) rfl (fun ls hl => ?_)
                            refine lv_goto (tgt := 4) hx hb dX3_transitions_27 (by decide) ?_
                            refine lv_iload_n hx hb dX3_transitions_4 rfl (lv_at hl 0 rfl) ?_
                            refine lv_bipush (v := 18) hx hb dX3_transitions_5 (by decide) ?_
                            refine lv_icmp_ge (tgt := 30) hx hb dX3_transitions_7 (by decide) (fun c_105 => ?_) (fun c_105 => ?_)
                            · exact absurd c_105 (by decide)
                            · refine lv_iload_n hx hb dX3_transitions_10 rfl (lv_at hl 1 rfl) ?_
                              refine lv_aload_n hx hb dX3_transitions_11 rfl (lv_at hl 2 rfl) ?_
                              refine va_get (D := D) (ci := 3) (v := .ref v) (C := RX3) (T := TX3) (N := 3) hx hb hts hiX3 hown hK hP 0 rfl rfl 1 (by decide) (hts (.fieldLink RX3 15 "DynamicLogicProver$Model" "moves" "[I") (mo_X3_transitions0 0 rfl)) (fun _ h9 => h9) rfl dX3_transitions_12 ?_
                              refine lv_iload_n hx hb dX3_transitions_15 rfl (lv_at hl 0 rfl) ?_
                              refine kc_Ni (As := [.ref v, .int 13]) (rest := [.int 0]) (wr := [(h, .inr (3, [.ref t, .ref v, .int n]))]) ⟨hx, hb, hml, hown, hts⟩ (ct_X11_at l D v kv 18 (fun _ => 0) 13 _ (by decide)) ⟨va_cnB 2 hts (goodIn_sub mb_X3_transitions0_0 gw_X11_at) rfl rfl rfl (hN.1 (RX3, 34, yX11_at) (List.mem_of_getElem? (i := 13) rfl)) (hts (.initialized RX11) (mo_X3_transitions0 1 rfl)) hd_X11_at ⟨Nat.le_of_ble_eq_true rfl, Nat.le_of_ble_eq_true rfl⟩, (hts (.static yX11_at) (mo_X3_transitions0 2 rfl)), trivial⟩ hK hN hP hD hS hA [1] [0] [0] rfl rfl (by decide) (by decide) (by decide) rfl rfl hl.1 rfl (Nat.le_of_ble_eq_true rfl) dX3_transitions_16 ⟨Nat.le_of_ble_eq_true rfl, Nat.le_of_ble_eq_true rfl⟩ (fun r_106 u_107 H locs w_108 hP hD hK1 hS => ?_)
                              have hP : va_P D vwCl [(h, .inr (3, [.ref t, .ref v, .int n])), (v, .inl (kv, 18, .inl (fun _ => 0)))] H := hP
                              have hD : va_D A [(h, .inr (3, [.ref t, .ref v, .int n])), (v, .inl (kv, 18, .inl (fun _ => 0)))] := hD
                              have w_108 : r_106 = at_v (fun _ => 0) 18 13 := w_108
                              obtain rfl : r_106 = 0 := w_108.trans (at_v0 _ _)
                              refine kc_Si (As := [.int 0]) (rest := [.int 0]) (wr := [(h, .inr (3, [.ref t, .ref v, .int n])), (v, .inl (kv, 18, .inl (fun _ => 0)))]) ⟨hx, hb, hml, hown, hts⟩ (ct_bitCount0 l D  _ ) (va_cwS 1 hts (kg_S (mo_X3_transitions0 3 rfl) (mo_X3_transitions0 4 rfl) (mo_X3_transitions0 5 rfl) (goodIn_sub mb_X3_transitions0_1 gw_bitCount0)) rfl rfl rfl hd_J6_bitCount_0f7a4 ⟨Nat.le_of_ble_eq_true rfl, Nat.le_of_ble_eq_true rfl⟩) hK hN hP hD hS hA [] [0, 1] [] rfl rfl (by decide) (by decide) (by decide) rfl rfl hl.1 rfl (Nat.le_of_ble_eq_true rfl) dX3_transitions_19 ⟨Nat.le_of_ble_eq_true rfl, Nat.le_of_ble_eq_true rfl⟩ (fun r_109 u_110 H locs w_111 hP hD hK1 hS => ?_)
                              have hP : va_P D vwCl [(h, .inr (3, [.ref t, .ref v, .int n])), (v, .inl (kv, 18, .inl (fun _ => 0)))] H := hP
                              have hD : va_D A [(h, .inr (3, [.ref t, .ref v, .int n])), (v, .inl (kv, 18, .inl (fun _ => 0)))] := hD
                              have w_111 : r_109 = 0 := w_111
                              subst w_111
                              refine lv_iadd hx hb dX3_transitions_22 ?_
                              refine lv_topi (fun x_112 ex_112 => ?_)
                              obtain rfl : x_112 = 0 := ex_112.trans (by decide)
                              refine lv_istore_n (lv' := [(1, .int 0), (2, .int 13), (0, .ref h)]) hx hb dX3_transitions_23 rfl hl (by decide) rfl (fun ls hl => ?_)
                              refine lv_iinc (v := 14) (lv' := [(2, .int 14), (1, .int 0), (0, .ref h)]) hx hb dX3_transitions_24 hl (k := 1) rfl (by decide) (by decide) rfl (fun ls hl => ?_)
                              refine lv_goto (tgt := 4) hx hb dX3_transitions_27 (by decide) ?_
                              refine lv_iload_n hx hb dX3_transitions_4 rfl (lv_at hl 0 rfl) ?_
                              refine lv_bipush (v := 18) hx hb dX3_transitions_5 (by decide) ?_
                              refine lv_icmp_ge (tgt := 30) hx hb dX3_transitions_7 (by decide) (fun c_113 => ?_) (fun c_113 => ?_)
                              · exact absurd c_113 (by decide)
                              · refine lv_iload_n hx hb dX3_transitions_10 rfl (lv_at hl 1 rfl) ?_
                                refine lv_aload_n hx hb dX3_transitions_11 rfl (lv_at hl 2 rfl) ?_
                                refine va_get (D := D) (ci := 3) (v := .ref v) (C := RX3) (T := TX3) (N := 3) hx hb hts hiX3 hown hK hP 0 rfl rfl 1 (by decide) (hts (.fieldLink RX3 15 "DynamicLogicProver$Model" "moves" "[I") (mo_X3_transitions0 0 rfl)) (fun _ h9 => h9) rfl dX3_transitions_12 ?_
                                refine lv_iload_n hx hb dX3_transitions_15 rfl (lv_at hl 0 rfl) ?_
                                refine kc_Ni (As := [.ref v, .int 14]) (rest := [.int 0]) (wr := [(h, .inr (3, [.ref t, .ref v, .int n]))]) ⟨hx, hb, hml, hown, hts⟩ (ct_X11_at l D v kv 18 (fun _ => 0) 14 _ (by decide)) ⟨va_cnB 2 hts (goodIn_sub mb_X3_transitions0_0 gw_X11_at) rfl rfl rfl (hN.1 (RX3, 34, yX11_at) (List.mem_of_getElem? (i := 13) rfl)) (hts (.initialized RX11) (mo_X3_transitions0 1 rfl)) hd_X11_at ⟨Nat.le_of_ble_eq_true rfl, Nat.le_of_ble_eq_true rfl⟩, (hts (.static yX11_at) (mo_X3_transitions0 2 rfl)), trivial⟩ hK hN hP hD hS hA [1] [0] [0] rfl rfl (by decide) (by decide) (by decide) rfl rfl hl.1 rfl (Nat.le_of_ble_eq_true rfl) dX3_transitions_16 ⟨Nat.le_of_ble_eq_true rfl, Nat.le_of_ble_eq_true rfl⟩ (fun r_114 u_115 H locs w_116 hP hD hK1 hS => ?_)
                                have hP : va_P D vwCl [(h, .inr (3, [.ref t, .ref v, .int n])), (v, .inl (kv, 18, .inl (fun _ => 0)))] H := hP
                                have hD : va_D A [(h, .inr (3, [.ref t, .ref v, .int n])), (v, .inl (kv, 18, .inl (fun _ => 0)))] := hD
                                have w_116 : r_114 = at_v (fun _ => 0) 18 14 := w_116
                                obtain rfl : r_114 = 0 := w_116.trans (at_v0 _ _)
                                refine kc_Si (As := [.int 0]) (rest := [.int 0]) (wr := [(h, .inr (3, [.ref t, .ref v, .int n])), (v, .inl (kv, 18, .inl (fun _ => 0)))]) ⟨hx, hb, hml, hown, hts⟩ (ct_bitCount0 l D  _ ) (va_cwS 1 hts (kg_S (mo_X3_transitions0 3 rfl) (mo_X3_transitions0 4 rfl) (mo_X3_transitions0 5 rfl) (goodIn_sub mb_X3_transitions0_1 gw_bitCount0)) rfl rfl rfl hd_J6_bitCount_0f7a4 ⟨Nat.le_of_ble_eq_true rfl, Nat.le_of_ble_eq_true rfl⟩) hK hN hP hD hS hA [] [0, 1] [] rfl rfl (by decide) (by decide) (by decide) rfl rfl hl.1 rfl (Nat.le_of_ble_eq_true rfl) dX3_transitions_19 ⟨Nat.le_of_ble_eq_true rfl, Nat.le_of_ble_eq_true rfl⟩ (fun r_117 u_118 H locs w_119 hP hD hK1 hS => ?_)
                                have hP : va_P D vwCl [(h, .inr (3, [.ref t, .ref v, .int n])), (v, .inl (kv, 18, .inl (fun _ => 0)))] H := hP
                                have hD : va_D A [(h, .inr (3, [.ref t, .ref v, .int n])), (v, .inl (kv, 18, .inl (fun _ => 0)))] := hD
                                have w_119 : r_117 = 0 := w_119
                                subst w_119
                                refine lv_iadd hx hb dX3_transitions_22 ?_
                                refine lv_topi (fun x_120 ex_120 => ?_)
                                obtain rfl : x_120 = 0 := ex_120.trans (by decide)
                                refine lv_istore_n (lv' := [(1, .int 0), (2, .int 14), (0, .ref h)]) hx hb dX3_transitions_23 rfl hl (by decide) rfl (fun ls hl => ?_)
                                refine lv_iinc (v := 15) (lv' := [(2, .int 15), (1, .int 0), (0, .ref h)]) hx hb dX3_transitions_24 hl (k := 1) rfl (by decide) (by decide) rfl (fun ls hl => ?_)
                                refine lv_goto (tgt := 4) hx hb dX3_transitions_27 (by decide) ?_
                                refine lv_iload_n hx hb dX3_transitions_4 rfl (lv_at hl 0 rfl) ?_
                                refine lv_bipush (v := 18) hx hb dX3_transitions_5 (by decide) ?_
                                refine lv_icmp_ge (tgt := 30) hx hb dX3_transitions_7 (by decide) (fun c_121 => ?_) (fun c_121 => ?_)
                                · exact absurd c_121 (by decide)
                                · refine lv_iload_n hx hb dX3_transitions_10 rfl (lv_at hl 1 rfl) ?_
                                  refine lv_aload_n hx hb dX3_transitions_11 rfl (lv_at hl 2 rfl) ?_
                                  refine va_get (D := D) (ci := 3) (v := .ref v) (C := RX3) (T := TX3) (N := 3) hx hb hts hiX3 hown hK hP 0 rfl rfl 1 (by decide) (hts (.fieldLink RX3 15 "DynamicLogicProver$Model" "moves" "[I") (mo_X3_transitions0 0 rfl)) (fun _ h9 => h9) rfl dX3_transitions_12 ?_
                                  refine lv_iload_n hx hb dX3_transitions_15 rfl (lv_at hl 0 rfl) ?_
                                  refine kc_Ni (As := [.ref v, .int 15]) (rest := [.int 0]) (wr := [(h, .inr (3, [.ref t, .ref v, .int n]))]) ⟨hx, hb, hml, hown, hts⟩ (ct_X11_at l D v kv 18 (fun _ => 0) 15 _ (by decide)) ⟨va_cnB 2 hts (goodIn_sub mb_X3_transitions0_0 gw_X11_at) rfl rfl rfl (hN.1 (RX3, 34, yX11_at) (List.mem_of_getElem? (i := 13) rfl)) (hts (.initialized RX11) (mo_X3_transitions0 1 rfl)) hd_X11_at ⟨Nat.le_of_ble_eq_true rfl, Nat.le_of_ble_eq_true rfl⟩, (hts (.static yX11_at) (mo_X3_transitions0 2 rfl)), trivial⟩ hK hN hP hD hS hA [1] [0] [0] rfl rfl (by decide) (by decide) (by decide) rfl rfl hl.1 rfl (Nat.le_of_ble_eq_true rfl) dX3_transitions_16 ⟨Nat.le_of_ble_eq_true rfl, Nat.le_of_ble_eq_true rfl⟩ (fun r_122 u_123 H locs w_124 hP hD hK1 hS => ?_)
                                  have hP : va_P D vwCl [(h, .inr (3, [.ref t, .ref v, .int n])), (v, .inl (kv, 18, .inl (fun _ => 0)))] H := hP
                                  have hD : va_D A [(h, .inr (3, [.ref t, .ref v, .int n])), (v, .inl (kv, 18, .inl (fun _ => 0)))] := hD
                                  have w_124 : r_122 = at_v (fun _ => 0) 18 15 := w_124
                                  obtain rfl : r_122 = 0 := w_124.trans (at_v0 _ _)
                                  refine kc_Si (As := [.int 0]) (rest := [.int 0]) (wr := [(h, .inr (3, [.ref t, .ref v, .int n])), (v, .inl (kv, 18, .inl (fun _ => 0)))]) ⟨hx, hb, hml, hown, hts⟩ (ct_bitCount0 l D  _ ) (va_cwS 1 hts (kg_S (mo_X3_transitions0 3 rfl) (mo_X3_transitions0 4 rfl) (mo_X3_transitions0 5 rfl) (goodIn_sub mb_X3_transitions0_1 gw_bitCount0)) rfl rfl rfl hd_J6_bitCount_0f7a4 ⟨Nat.le_of_ble_eq_true rfl, Nat.le_of_ble_eq_true rfl⟩) hK hN hP hD hS hA [] [0, 1] [] rfl rfl (by decide) (by decide) (by decide) rfl rfl hl.1 rfl (Nat.le_of_ble_eq_true rfl) dX3_transitions_19 ⟨Nat.le_of_ble_eq_true rfl, Nat.le_of_ble_eq_true rfl⟩ (fun r_125 u_126 H locs w_127 hP hD hK1 hS => ?_)
                                  have hP : va_P D vwCl [(h, .inr (3, [.ref t, .ref v, .int n])), (v, .inl (kv, 18, .inl (fun _ => 0)))] H := hP
                                  have hD : va_D A [(h, .inr (3, [.ref t, .ref v, .int n])), (v, .inl (kv, 18, .inl (fun _ => 0)))] := hD
                                  have w_127 : r_125 = 0 := w_127
                                  subst w_127
                                  refine lv_iadd hx hb dX3_transitions_22 ?_
                                  refine lv_topi (fun x_128 ex_128 => ?_)
                                  obtain rfl : x_128 = 0 := ex_128.trans (by decide)
                                  refine lv_istore_n (lv' := [(1, .int 0), (2, .int 15), (0, .ref h)]) hx hb dX3_transitions_23 rfl hl (by decide) rfl (fun ls hl => ?_)
                                  refine lv_iinc (v := 16) (lv' := [(2, .int 16), (1, .int 0), (0, .ref h)]) hx hb dX3_transitions_24 hl (k := 1) rfl (by decide) (by decide) rfl (fun ls hl => ?_)
                                  refine lv_goto (tgt := 4) hx hb dX3_transitions_27 (by decide) ?_
                                  refine lv_iload_n hx hb dX3_transitions_4 rfl (lv_at hl 0 rfl) ?_
                                  refine lv_bipush (v := 18) hx hb dX3_transitions_5 (by decide) ?_
                                  refine lv_icmp_ge (tgt := 30) hx hb dX3_transitions_7 (by decide) (fun c_129 => ?_) (fun c_129 => ?_)
                                  · exact absurd c_129 (by decide)
                                  · refine lv_iload_n hx hb dX3_transitions_10 rfl (lv_at hl 1 rfl) ?_
                                    refine lv_aload_n hx hb dX3_transitions_11 rfl (lv_at hl 2 rfl) ?_
                                    refine va_get (D := D) (ci := 3) (v := .ref v) (C := RX3) (T := TX3) (N := 3) hx hb hts hiX3 hown hK hP 0 rfl rfl 1 (by decide) (hts (.fieldLink RX3 15 "DynamicLogicProver$Model" "moves" "[I") (mo_X3_transitions0 0 rfl)) (fun _ h9 => h9) rfl dX3_transitions_12 ?_
                                    refine lv_iload_n hx hb dX3_transitions_15 rfl (lv_at hl 0 rfl) ?_
                                    refine kc_Ni (As := [.ref v, .int 16]) (rest := [.int 0]) (wr := [(h, .inr (3, [.ref t, .ref v, .int n]))]) ⟨hx, hb, hml, hown, hts⟩ (ct_X11_at l D v kv 18 (fun _ => 0) 16 _ (by decide)) ⟨va_cnB 2 hts (goodIn_sub mb_X3_transitions0_0 gw_X11_at) rfl rfl rfl (hN.1 (RX3, 34, yX11_at) (List.mem_of_getElem? (i := 13) rfl)) (hts (.initialized RX11) (mo_X3_transitions0 1 rfl)) hd_X11_at ⟨Nat.le_of_ble_eq_true rfl, Nat.le_of_ble_eq_true rfl⟩, (hts (.static yX11_at) (mo_X3_transitions0 2 rfl)), trivial⟩ hK hN hP hD hS hA [1] [0] [0] rfl rfl (by decide) (by decide) (by decide) rfl rfl hl.1 rfl (Nat.le_of_ble_eq_true rfl) dX3_transitions_16 ⟨Nat.le_of_ble_eq_true rfl, Nat.le_of_ble_eq_true rfl⟩ (fun r_130 u_131 H locs w_132 hP hD hK1 hS => ?_)
                                    have hP : va_P D vwCl [(h, .inr (3, [.ref t, .ref v, .int n])), (v, .inl (kv, 18, .inl (fun _ => 0)))] H := hP
                                    have hD : va_D A [(h, .inr (3, [.ref t, .ref v, .int n])), (v, .inl (kv, 18, .inl (fun _ => 0)))] := hD
                                    have w_132 : r_130 = at_v (fun _ => 0) 18 16 := w_132
                                    obtain rfl : r_130 = 0 := w_132.trans (at_v0 _ _)
                                    refine kc_Si (As := [.int 0]) (rest := [.int 0]) (wr := [(h, .inr (3, [.ref t, .ref v, .int n])), (v, .inl (kv, 18, .inl (fun _ => 0)))]) ⟨hx, hb, hml, hown, hts⟩ (ct_bitCount0 l D  _ ) (va_cwS 1 hts (kg_S (mo_X3_transitions0 3 rfl) (mo_X3_transitions0 4 rfl) (mo_X3_transitions0 5 rfl) (goodIn_sub mb_X3_transitions0_1 gw_bitCount0)) rfl rfl rfl hd_J6_bitCount_0f7a4 ⟨Nat.le_of_ble_eq_true rfl, Nat.le_of_ble_eq_true rfl⟩) hK hN hP hD hS hA [] [0, 1] [] rfl rfl (by decide) (by decide) (by decide) rfl rfl hl.1 rfl (Nat.le_of_ble_eq_true rfl) dX3_transitions_19 ⟨Nat.le_of_ble_eq_true rfl, Nat.le_of_ble_eq_true rfl⟩ (fun r_133 u_134 H locs w_135 hP hD hK1 hS => ?_)
                                    have hP : va_P D vwCl [(h, .inr (3, [.ref t, .ref v, .int n])), (v, .inl (kv, 18, .inl (fun _ => 0)))] H := hP
                                    have hD : va_D A [(h, .inr (3, [.ref t, .ref v, .int n])), (v, .inl (kv, 18, .inl (fun _ => 0)))] := hD
                                    have w_135 : r_133 = 0 := w_135
                                    subst w_135
                                    refine lv_iadd hx hb dX3_transitions_22 ?_
                                    refine lv_topi (fun x_136 ex_136 => ?_)
                                    obtain rfl : x_136 = 0 := ex_136.trans (by decide)
                                    refine lv_istore_n (lv' := [(1, .int 0), (2, .int 16), (0, .ref h)]) hx hb dX3_transitions_23 rfl hl (by decide) rfl (fun ls hl => ?_)
                                    refine lv_iinc (v := 17) (lv' := [(2, .int 17), (1, .int 0), (0, .ref h)]) hx hb dX3_transitions_24 hl (k := 1) rfl (by decide) (by decide) rfl (fun ls hl => ?_)
                                    refine lv_goto (tgt := 4) hx hb dX3_transitions_27 (by decide) ?_
                                    refine lv_iload_n hx hb dX3_transitions_4 rfl (lv_at hl 0 rfl) ?_
                                    refine lv_bipush (v := 18) hx hb dX3_transitions_5 (by decide) ?_
                                    refine lv_icmp_ge (tgt := 30) hx hb dX3_transitions_7 (by decide) (fun c_137 => ?_) (fun c_137 => ?_)
                                    · exact absurd c_137 (by decide)
                                    · refine lv_iload_n hx hb dX3_transitions_10 rfl (lv_at hl 1 rfl) ?_
                                      refine lv_aload_n hx hb dX3_transitions_11 rfl (lv_at hl 2 rfl) ?_
                                      refine va_get (D := D) (ci := 3) (v := .ref v) (C := RX3) (T := TX3) (N := 3) hx hb hts hiX3 hown hK hP 0 rfl rfl 1 (by decide) (hts (.fieldLink RX3 15 "DynamicLogicProver$Model" "moves" "[I") (mo_X3_transitions0 0 rfl)) (fun _ h9 => h9) rfl dX3_transitions_12 ?_
                                      refine lv_iload_n hx hb dX3_transitions_15 rfl (lv_at hl 0 rfl) ?_
                                      refine kc_Ni (As := [.ref v, .int 17]) (rest := [.int 0]) (wr := [(h, .inr (3, [.ref t, .ref v, .int n]))]) ⟨hx, hb, hml, hown, hts⟩ (ct_X11_at l D v kv 18 (fun _ => 0) 17 _ (by decide)) ⟨va_cnB 2 hts (goodIn_sub mb_X3_transitions0_0 gw_X11_at) rfl rfl rfl (hN.1 (RX3, 34, yX11_at) (List.mem_of_getElem? (i := 13) rfl)) (hts (.initialized RX11) (mo_X3_transitions0 1 rfl)) hd_X11_at ⟨Nat.le_of_ble_eq_true rfl, Nat.le_of_ble_eq_true rfl⟩, (hts (.static yX11_at) (mo_X3_transitions0 2 rfl)), trivial⟩ hK hN hP hD hS hA [1] [0] [0] rfl rfl (by decide) (by decide) (by decide) rfl rfl hl.1 rfl (Nat.le_of_ble_eq_true rfl) dX3_transitions_16 ⟨Nat.le_of_ble_eq_true rfl, Nat.le_of_ble_eq_true rfl⟩ (fun r_138 u_139 H locs w_140 hP hD hK1 hS => ?_)
                                      have hP : va_P D vwCl [(h, .inr (3, [.ref t, .ref v, .int n])), (v, .inl (kv, 18, .inl (fun _ => 0)))] H := hP
                                      have hD : va_D A [(h, .inr (3, [.ref t, .ref v, .int n])), (v, .inl (kv, 18, .inl (fun _ => 0)))] := hD
                                      have w_140 : r_138 = at_v (fun _ => 0) 18 17 := w_140
                                      obtain rfl : r_138 = 0 := w_140.trans (at_v0 _ _)
                                      refine kc_Si (As := [.int 0]) (rest := [.int 0]) (wr := [(h, .inr (3, [.ref t, .ref v, .int n])), (v, .inl (kv, 18, .inl (fun _ => 0)))]) ⟨hx, hb, hml, hown, hts⟩ (ct_bitCount0 l D  _ ) (va_cwS 1 hts (kg_S (mo_X3_transitions0 3 rfl) (mo_X3_transitions0 4 rfl) (mo_X3_transitions0 5 rfl) (goodIn_sub mb_X3_transitions0_1 gw_bitCount0)) rfl rfl rfl hd_J6_bitCount_0f7a4 ⟨Nat.le_of_ble_eq_true rfl, Nat.le_of_ble_eq_true rfl⟩) hK hN hP hD hS hA [] [0, 1] [] rfl rfl (by decide) (by decide) (by decide) rfl rfl hl.1 rfl (Nat.le_of_ble_eq_true rfl) dX3_transitions_19 ⟨Nat.le_of_ble_eq_true rfl, Nat.le_of_ble_eq_true rfl⟩ (fun r_141 u_142 H locs w_143 hP hD hK1 hS => ?_)
                                      have hP : va_P D vwCl [(h, .inr (3, [.ref t, .ref v, .int n])), (v, .inl (kv, 18, .inl (fun _ => 0)))] H := hP
                                      have hD : va_D A [(h, .inr (3, [.ref t, .ref v, .int n])), (v, .inl (kv, 18, .inl (fun _ => 0)))] := hD
                                      have w_143 : r_141 = 0 := w_143
                                      subst w_143
                                      refine lv_iadd hx hb dX3_transitions_22 ?_
                                      refine lv_topi (fun x_144 ex_144 => ?_)
                                      obtain rfl : x_144 = 0 := ex_144.trans (by decide)
                                      refine lv_istore_n (lv' := [(1, .int 0), (2, .int 17), (0, .ref h)]) hx hb dX3_transitions_23 rfl hl (by decide) rfl (fun ls hl => ?_)
                                      refine lv_iinc (v := 18) (lv' := [(2, .int 18), (1, .int 0), (0, .ref h)]) hx hb dX3_transitions_24 hl (k := 1) rfl (by decide) (by decide) rfl (fun ls hl => ?_)
                                      refine lv_goto (tgt := 4) hx hb dX3_transitions_27 (by decide) ?_
                                      refine lv_iload_n hx hb dX3_transitions_4 rfl (lv_at hl 0 rfl) ?_
                                      refine lv_bipush (v := 18) hx hb dX3_transitions_5 (by decide) ?_
                                      refine lv_icmp_ge (tgt := 30) hx hb dX3_transitions_7 (by decide) (fun c_145 => ?_) (fun c_145 => ?_)
                                      · refine lv_iload_n hx hb dX3_transitions_30 rfl (lv_at hl 1 rfl) ?_
                                        have hP9 := hP.sub (ws' := [(h, .inr (3, [.ref t, .ref v, .int n])), (v, .inl (kv, 18, .inl (fun _ => 0)))]) [0, 1] rfl
                                        have hD9 := hD.sub (ws' := [(h, .inr (3, [.ref t, .ref v, .int n])), (v, .inl (kv, 18, .inl (fun _ => 0)))]) [0, 1] (by decide) rfl
                                        have hK9 := hK.sub (tys' := []) [] rfl
                                        exact W.iret (v := 0) hx hb hr (fun tZ htZ hW => ⟨⟨0, (), rfl, rfl, by rw [htZ]; exact hP9, va_K.moved hW.alike hK9, hD9⟩, hS.F htZ⟩) hS.2.2 dX3_transitions_31
                                      · exact absurd c_145 (by decide)
theorem dX9_init_0 : decode cX9_init 0 = .ok (.aload_n 0, 1) := by decide +kernel
theorem dX9_init_1 : decode cX9_init 1 = .ok (.invokespecial 3, 3) := by decide +kernel
theorem dX9_init_4 : decode cX9_init 4 = .ok (.aload_n 0, 1) := by decide +kernel
theorem dX9_init_5 : decode cX9_init 5 = .ok (.sipush 960, 3) := by decide +kernel
theorem dX9_init_8 : decode cX9_init 8 = .ok (.newarray .int, 2) := by decide +kernel
theorem dX9_init_10 : decode cX9_init 10 = .ok (.putfield 9, 3) := by decide +kernel
theorem dX9_init_13 : decode cX9_init 13 = .ok (.aload_n 0, 1) := by decide +kernel
theorem dX9_init_14 : decode cX9_init 14 = .ok (.bipush 12, 2) := by decide +kernel
theorem dX9_init_16 : decode cX9_init 16 = .ok (.newarray .int, 2) := by decide +kernel
theorem dX9_init_18 : decode cX9_init 18 = .ok (.putfield 15, 3) := by decide +kernel
theorem dX9_init_21 : decode cX9_init 21 = .ok (.aload_n 0, 1) := by decide +kernel
theorem dX9_init_22 : decode cX9_init 22 = .ok (.bipush 82, 2) := by decide +kernel
theorem dX9_init_24 : decode cX9_init 24 = .ok (.newarray .int, 2) := by decide +kernel
theorem dX9_init_26 : decode cX9_init 26 = .ok (.putfield 18, 3) := by decide +kernel
theorem dX9_init_29 : decode cX9_init 29 = .ok (.aload_n 0, 1) := by decide +kernel
theorem dX9_init_30 : decode cX9_init 30 = .ok (.iconst 0, 1) := by decide +kernel
theorem dX9_init_31 : decode cX9_init 31 = .ok (.putfield 21, 3) := by decide +kernel
theorem dX9_init_34 : decode cX9_init 34 = .ok (.return_, 1) := by decide +kernel
def wo_X9_init : List Cond := [.methodLink RX9 3 objectInit, .instanceMethod objectInit, .code objectInit ⟨#[0xb1]⟩ 1 none, .arrayClass .int, .fieldLink RX9 9 "DynamicLogicProver$Shelf" "codes" "[I", .fieldLink RX9 15 "DynamicLogicProver$Shelf" "sizes" "[I", .fieldLink RX9 18 "DynamicLogicProver$Shelf" "waiting" "[I", .fieldLink RX9 21 "DynamicLogicProver$Shelf" "used" "I"]
def wd_X9_init : List Cond := .code yX9_init cX9_init 1 none :: (wo_X9_init ++ (wsX90 ++ ([] : List Cond)))
theorem mo_X9_init {w : Cond} (i : Nat) (h : wo_X9_init[i]? = some w) : w ∈ wd_X9_init := List.mem_cons_of_mem _ (List.mem_append_left _ (List.mem_of_getElem? h))
theorem mb_X9_init_0 : ∀ w ∈ wsX90, w ∈ wd_X9_init := fun w h => List.mem_cons_of_mem _ (List.mem_append_right _ (List.mem_append_left _ h))
theorem hd_X9_init : yX9_init.cls ≠ "java/lang/invoke/MethodHandle" ∧ yX9_init.cls ≠ "java/lang/invoke/VarHandle" ∧ (parseMethodDescriptor yX9_init.desc).map (fun d => d.parameters.length) = some 0 := by decide +kernel
set_option maxRecDepth 20000 in
theorem gw_X9_init : wd_X9_init.all goodWord = true := by decide +kernel
abbrev qc_X9_init (D : va_G) (h : Nat) (A : Nat → Prop) : Array Value → State → Outcome → State → Prop := va_Qv (fun (uZ : (Nat) × (Nat) × (Nat) × (ClassId) × (ClassId)) => True) (fun uZ tZ => kc_pos D A [(h, .inr (9, [.ref uZ.1, .ref uZ.2.1, .ref uZ.2.2.1, .int 0])), (uZ.1, .inl (uZ.2.2.2.1, 960, .inl (fun _ => 0))), (uZ.2.1, .inl (uZ.2.2.2.2, 12, .inl (fun _ => 0)))] [(uZ.2.2.2.1, .int), (uZ.2.2.2.2, .int)] tZ) A
set_option maxHeartbeats 4000000 in
set_option maxRecDepth 100000 in
theorem ct_X9_init (l : Launch) (D : va_G) (h : Nat) (sz : Nat)  : Met l yX9_init wd_X9_init ({ frames := 1, cells := 3, slots := 1054, locals := 12 }) (va_Pc [.ref h] (kc_pre D [] [(h, .inr (9, [.null, .null, .null, .int 0]))] sz)) (qc_X9_init D h (va_A [(h, .inr (9, [.null, .null, .null, .int 0]))] sz)) 3 1054 (va_A [(h, .inr (9, [.null, .null, .null, .int 0]))] sz) := by
  refine Met.ofW (cc := cX9_init) (maxL := 1) (ret := none) (by decide) rfl ?_
  intro p e s m args below meth c s₁ B hml hv
  obtain ⟨rfl, hsz, hP, hK, hN, hD0⟩ := hv
  have hx := B.exec
  have hb := B.bytes
  have hr := B.returns
  have hts := atoms_spec (ws := wd_X9_init) B.pre
  have hown : s.vm.findClass RX9 = some m.cls := findClass_of_methodNamed B.named
  have hlocks := B.notSynchronized
  have hin : meth.name = "<init>" := (name_of_methodNamed B.named B.method).1
  subst hsz
  have hD := hD0.self (sz := s.heap.size)
  generalize hAe : va_A [(h, .inr (9, [.null, .null, .null, .int 0]))] s.heap.size = A at hD ⊢
  have hA : ∀ q : Nat, s.heap.size ≤ q → A q := fun q h => by rw [← hAe]; exact Or.inr h
  have hS : va_S A s.heap s.heap [] := va_S.rf
  have hiX9 : ∀ w ∈ wsX90, w ∈ wd_X9_init := mb_X9_init_0
  have hl := lv_entry ([.ref h]) (n := 1) (Nat.le_of_ble_eq_true rfl)
  rw [lg_entry_eq]
  generalize (lg_sl ([.ref h]) ++ List.replicate (1 - (lg_sl ([.ref h])).length) Slot.unset).toArray = ls at hl ⊢
  have hl : lv_has ls 1 [(0, .ref h)] := hl
  refine lv_aload_n hx hb dX9_init_0 rfl (lv_at hl 0 rfl) ?_
  refine W.objInit hx hb hown (hts (.methodLink RX9 3 objectInit) (mo_X9_init 0 rfl)) (hts (.instanceMethod objectInit) (mo_X9_init 1 rfl)) (hts (.code objectInit ⟨#[0xb1]⟩ 1 none) (mo_X9_init 2 rfl)) rfl (by rw [hml]; exact hl.1) rfl dX9_init_1 (Nat.le_of_ble_eq_true rfl) (Nat.le_of_ble_eq_true rfl) ?_
  refine W.eq (g2 := F0 m 4 ls []) rfl ?_
  refine lv_aload_n hx hb dX9_init_4 rfl (lv_at hl 0 rfl) ?_
  refine lv_sipush (v := 960) hx hb dX9_init_5 (by decide) ?_
  refine va_newa (atype := .int) (ty := .int) (a0 := (960, .inl (fun _ => 0))) hx hb (hts (.arrayClass .int) (mo_X9_init 3 rfl)) rfl hK hP hD hS hA (fun _ => rfl) (by decide) (N' := 960) (by decide) (by decide) (Nat.le_of_ble_eq_true rfl) (Nat.le_of_ble_eq_true rfl) dX9_init_8 (fun q_1 k_2 H hK hP hD hS => ?_)
  have hP : va_P D vwCl [(h, .inr (9, [.null, .null, .null, .int 0])), (q_1, .inl (k_2, 960, .inl (fun _ => 0)))] H := hP
  have hD : va_D A [(h, .inr (9, [.null, .null, .null, .int 0])), (q_1, .inl (k_2, 960, .inl (fun _ => 0)))] := hD
  have hK : va_K D vwCl [(k_2, .int)] s := hK
  refine W.widen (k := 1) (n := 960) (by decide) (Nat.le_of_ble_eq_true rfl) ?_
  refine va_putF (D := D) (ci := 9) (v := .ref q_1) (ty := .array .int) (C := RX9) (T := TX9) (N := 4) hx hb hts hiX9 tyX9 tyX9_ok nmX9 hown hK hP hD hS 0 rfl rfl 0 (by decide) (hts (.fieldLink RX9 9 "DynamicLogicProver$Shelf" "codes" "[I") (mo_X9_init 4 rfl)) (fun _ h9 => h9) rfl hin rfl (tyX9_ok 0 (by decide)) rfl rfl (Nat.le_of_ble_eq_true rfl) dX9_init_10 (fun H locs hP hD hS => ?_)
  have hP : va_P D vwCl [(h, .inr (9, [.ref q_1, .null, .null, .int 0])), (q_1, .inl (k_2, 960, .inl (fun _ => 0)))] H := hP
  have hD : va_D A [(h, .inr (9, [.ref q_1, .null, .null, .int 0])), (q_1, .inl (k_2, 960, .inl (fun _ => 0)))] := hD
  refine lv_aload_n hx hb dX9_init_13 rfl (lv_at hl 0 rfl) ?_
  refine lv_bipush (v := 12) hx hb dX9_init_14 (by decide) ?_
  refine va_newa (atype := .int) (ty := .int) (a0 := (12, .inl (fun _ => 0))) hx hb (hts (.arrayClass .int) (mo_X9_init 3 rfl)) rfl hK hP hD hS hA (fun _ => rfl) (by decide) (N' := 12) (by decide) (by decide) (Nat.le_of_ble_eq_true rfl) (Nat.le_of_ble_eq_true rfl) dX9_init_16 (fun q_3 k_4 H hK hP hD hS => ?_)
  have hP : va_P D vwCl [(h, .inr (9, [.ref q_1, .null, .null, .int 0])), (q_1, .inl (k_2, 960, .inl (fun _ => 0))), (q_3, .inl (k_4, 12, .inl (fun _ => 0)))] H := hP
  have hD : va_D A [(h, .inr (9, [.ref q_1, .null, .null, .int 0])), (q_1, .inl (k_2, 960, .inl (fun _ => 0))), (q_3, .inl (k_4, 12, .inl (fun _ => 0)))] := hD
  have hK : va_K D vwCl [(k_2, .int), (k_4, .int)] s := hK
  refine W.widen (k := 2) (n := 972) (by decide) (Nat.le_of_ble_eq_true rfl) ?_
  refine va_putF (D := D) (ci := 9) (v := .ref q_3) (ty := .array .int) (C := RX9) (T := TX9) (N := 4) hx hb hts hiX9 tyX9 tyX9_ok nmX9 hown hK hP hD hS 0 rfl rfl 1 (by decide) (hts (.fieldLink RX9 15 "DynamicLogicProver$Shelf" "sizes" "[I") (mo_X9_init 5 rfl)) (fun _ h9 => h9) rfl hin rfl (tyX9_ok 1 (by decide)) rfl rfl (Nat.le_of_ble_eq_true rfl) dX9_init_18 (fun H locs hP hD hS => ?_)
  have hP : va_P D vwCl [(h, .inr (9, [.ref q_1, .ref q_3, .null, .int 0])), (q_1, .inl (k_2, 960, .inl (fun _ => 0))), (q_3, .inl (k_4, 12, .inl (fun _ => 0)))] H := hP
  have hD : va_D A [(h, .inr (9, [.ref q_1, .ref q_3, .null, .int 0])), (q_1, .inl (k_2, 960, .inl (fun _ => 0))), (q_3, .inl (k_4, 12, .inl (fun _ => 0)))] := hD
  refine lv_aload_n hx hb dX9_init_21 rfl (lv_at hl 0 rfl) ?_
  refine lv_bipush (v := 82) hx hb dX9_init_22 (by decide) ?_
  refine va_newa (atype := .int) (ty := .int) (a0 := (82, .inl (fun _ => 0))) hx hb (hts (.arrayClass .int) (mo_X9_init 3 rfl)) rfl hK hP hD hS hA (fun _ => rfl) (by decide) (N' := 82) (by decide) (by decide) (Nat.le_of_ble_eq_true rfl) (Nat.le_of_ble_eq_true rfl) dX9_init_24 (fun q_5 k_6 H hK hP hD hS => ?_)
  have hP : va_P D vwCl [(h, .inr (9, [.ref q_1, .ref q_3, .null, .int 0])), (q_1, .inl (k_2, 960, .inl (fun _ => 0))), (q_3, .inl (k_4, 12, .inl (fun _ => 0))), (q_5, .inl (k_6, 82, .inl (fun _ => 0)))] H := hP
  have hD : va_D A [(h, .inr (9, [.ref q_1, .ref q_3, .null, .int 0])), (q_1, .inl (k_2, 960, .inl (fun _ => 0))), (q_3, .inl (k_4, 12, .inl (fun _ => 0))), (q_5, .inl (k_6, 82, .inl (fun _ => 0)))] := hD
  have hK : va_K D vwCl [(k_2, .int), (k_4, .int), (k_6, .int)] s := hK
  refine W.widen (k := 3) (n := 1054) (by decide) (Nat.le_of_ble_eq_true rfl) ?_
  refine va_putF (D := D) (ci := 9) (v := .ref q_5) (ty := .array .int) (C := RX9) (T := TX9) (N := 4) hx hb hts hiX9 tyX9 tyX9_ok nmX9 hown hK hP hD hS 0 rfl rfl 2 (by decide) (hts (.fieldLink RX9 18 "DynamicLogicProver$Shelf" "waiting" "[I") (mo_X9_init 6 rfl)) (fun _ h9 => h9) rfl hin rfl (tyX9_ok 2 (by decide)) rfl rfl (Nat.le_of_ble_eq_true rfl) dX9_init_26 (fun H locs hP hD hS => ?_)
  have hP : va_P D vwCl [(h, .inr (9, [.ref q_1, .ref q_3, .ref q_5, .int 0])), (q_1, .inl (k_2, 960, .inl (fun _ => 0))), (q_3, .inl (k_4, 12, .inl (fun _ => 0))), (q_5, .inl (k_6, 82, .inl (fun _ => 0)))] H := hP
  have hD : va_D A [(h, .inr (9, [.ref q_1, .ref q_3, .ref q_5, .int 0])), (q_1, .inl (k_2, 960, .inl (fun _ => 0))), (q_3, .inl (k_4, 12, .inl (fun _ => 0))), (q_5, .inl (k_6, 82, .inl (fun _ => 0)))] := hD
  refine lv_aload_n hx hb dX9_init_29 rfl (lv_at hl 0 rfl) ?_
  refine lv_iconst (v := 0) hx hb dX9_init_30 (by decide) ?_
  refine va_put (D := D) (ci := 9) (v := .int 0) (ty := .int) (C := RX9) (T := TX9) (N := 4) hx hb hts hiX9 tyX9 tyX9_ok nmX9 hown hK hP hD hS 0 rfl rfl 3 (by decide) (hts (.fieldLink RX9 21 "DynamicLogicProver$Shelf" "used" "I") (mo_X9_init 7 rfl)) (fun _ h9 => h9) rfl (tyX9_ok 3 (by decide)) rfl rfl (Nat.le_of_ble_eq_true rfl) dX9_init_31 (fun H locs hP hD hS => ?_)
  have hP : va_P D vwCl [(h, .inr (9, [.ref q_1, .ref q_3, .ref q_5, .int 0])), (q_1, .inl (k_2, 960, .inl (fun _ => 0))), (q_3, .inl (k_4, 12, .inl (fun _ => 0))), (q_5, .inl (k_6, 82, .inl (fun _ => 0)))] H := hP
  have hD : va_D A [(h, .inr (9, [.ref q_1, .ref q_3, .ref q_5, .int 0])), (q_1, .inl (k_2, 960, .inl (fun _ => 0))), (q_3, .inl (k_4, 12, .inl (fun _ => 0))), (q_5, .inl (k_6, 82, .inl (fun _ => 0)))] := hD
  have hP9 := hP.sub (ws' := [(h, .inr (9, [.ref q_1, .ref q_3, .ref q_5, .int 0])), (q_1, .inl (k_2, 960, .inl (fun _ => 0))), (q_3, .inl (k_4, 12, .inl (fun _ => 0)))]) [0, 1, 2] rfl
  have hD9 := hD.sub (ws' := [(h, .inr (9, [.ref q_1, .ref q_3, .ref q_5, .int 0])), (q_1, .inl (k_2, 960, .inl (fun _ => 0))), (q_3, .inl (k_4, 12, .inl (fun _ => 0)))]) [0, 1, 2] (by decide) rfl
  have hK9 := hK.sub (tys' := [(k_2, .int), (k_4, .int)]) [0, 1] rfl
  refine W.widen (k := 3) (n := 1054) (Nat.le_of_ble_eq_true rfl) (Nat.le_of_ble_eq_true rfl) ?_
  exact W.vret hx hb hr (fun tZ htZ hW => ⟨⟨(q_1, q_3, q_5, k_2, k_4), rfl, trivial, by rw [htZ]; exact hP9, va_K.moved hW.alike hK9, hD9⟩, hS.F htZ⟩) hS.2.2 dX9_init_34
theorem dX9_size_0 : decode cX9_size 0 = .ok (.aload_n 0, 1) := by decide +kernel
theorem dX9_size_1 : decode cX9_size 1 = .ok (.getfield 21, 3) := by decide +kernel
theorem dX9_size_4 : decode cX9_size 4 = .ok (.ireturn, 1) := by decide +kernel
def wo_X9_size : List Cond := [.fieldLink RX9 21 "DynamicLogicProver$Shelf" "used" "I"]
def wd_X9_size : List Cond := .code yX9_size cX9_size 1 (some .int) :: (wo_X9_size ++ (wsX90 ++ ([] : List Cond)))
theorem mo_X9_size {w : Cond} (i : Nat) (h : wo_X9_size[i]? = some w) : w ∈ wd_X9_size := List.mem_cons_of_mem _ (List.mem_append_left _ (List.mem_of_getElem? h))
theorem mb_X9_size_0 : ∀ w ∈ wsX90, w ∈ wd_X9_size := fun w h => List.mem_cons_of_mem _ (List.mem_append_right _ (List.mem_append_left _ h))
theorem hd_X9_size : yX9_size.cls ≠ "java/lang/invoke/MethodHandle" ∧ yX9_size.cls ≠ "java/lang/invoke/VarHandle" ∧ (parseMethodDescriptor yX9_size.desc).map (fun d => d.parameters.length) = some 0 := by decide +kernel
set_option maxRecDepth 20000 in
theorem gw_X9_size : wd_X9_size.all goodWord = true := by decide +kernel
abbrev qc_X9_size (D : va_G) (h : Nat) (a : Nat) (b : Nat) (d : Nat) (n : Int32) (A : Nat → Prop) : Array Value → State → Outcome → State → Prop := va_Qi (fun (r : Int32) (uZ : Unit) => r = n) (fun uZ tZ => kc_pos D A [(h, .inr (9, [.ref a, .ref b, .ref d, .int n]))] [] tZ) A
set_option maxHeartbeats 4000000 in
set_option maxRecDepth 100000 in
theorem ct_X9_size (l : Launch) (D : va_G) (h : Nat) (a : Nat) (b : Nat) (d : Nat) (n : Int32) (sz : Nat)  : Met l yX9_size wd_X9_size ({ frames := 0, cells := 0, slots := 0, locals := 0 }) (va_Pc [.ref h] (kc_pre D [] [(h, .inr (9, [.ref a, .ref b, .ref d, .int n]))] sz)) (qc_X9_size D h a b d n (va_A [(h, .inr (9, [.ref a, .ref b, .ref d, .int n]))] sz)) 0 0 (va_A [(h, .inr (9, [.ref a, .ref b, .ref d, .int n]))] sz) := by
  refine Met.ofW (cc := cX9_size) (maxL := 1) (ret := (some .int)) (by decide) rfl ?_
  intro p e s m args below meth c s₁ B hml hv
  obtain ⟨rfl, hsz, hP, hK, hN, hD0⟩ := hv
  have hx := B.exec
  have hb := B.bytes
  have hr := B.returns
  have hts := atoms_spec (ws := wd_X9_size) B.pre
  have hown : s.vm.findClass RX9 = some m.cls := findClass_of_methodNamed B.named
  have hlocks := B.notSynchronized
  subst hsz
  have hD := hD0.self (sz := s.heap.size)
  generalize hAe : va_A [(h, .inr (9, [.ref a, .ref b, .ref d, .int n]))] s.heap.size = A at hD ⊢
  have hA : ∀ q : Nat, s.heap.size ≤ q → A q := fun q h => by rw [← hAe]; exact Or.inr h
  have hS : va_S A s.heap s.heap [] := va_S.rf
  have hiX9 : ∀ w ∈ wsX90, w ∈ wd_X9_size := mb_X9_size_0
  have hl := lv_entry ([.ref h]) (n := 1) (Nat.le_of_ble_eq_true rfl)
  rw [lg_entry_eq]
  generalize (lg_sl ([.ref h]) ++ List.replicate (1 - (lg_sl ([.ref h])).length) Slot.unset).toArray = ls at hl ⊢
  have hl : lv_has ls 1 [(0, .ref h)] := hl
  refine lv_aload_n hx hb dX9_size_0 rfl (lv_at hl 0 rfl) ?_
  refine va_get (D := D) (ci := 9) (v := .int n) (C := RX9) (T := TX9) (N := 4) hx hb hts hiX9 hown hK hP 0 rfl rfl 3 (by decide) (hts (.fieldLink RX9 21 "DynamicLogicProver$Shelf" "used" "I") (mo_X9_size 0 rfl)) (fun _ h9 => h9) rfl dX9_size_1 ?_
  have hP9 := hP.sub (ws' := [(h, .inr (9, [.ref a, .ref b, .ref d, .int n]))]) [0] rfl
  have hD9 := hD.sub (ws' := [(h, .inr (9, [.ref a, .ref b, .ref d, .int n]))]) [0] (by decide) rfl
  have hK9 := hK.sub (tys' := []) [] rfl
  exact W.iret (v := n) hx hb hr (fun tZ htZ hW => ⟨⟨n, (), rfl, rfl, by rw [htZ]; exact hP9, va_K.moved hW.alike hK9, hD9⟩, hS.F htZ⟩) hS.2.2 dX9_size_4
theorem dX9_isEmpty_0 : decode cX9_isEmpty 0 = .ok (.aload_n 0, 1) := by decide +kernel
theorem dX9_isEmpty_1 : decode cX9_isEmpty 1 = .ok (.getfield 21, 3) := by decide +kernel
theorem dX9_isEmpty_4 : decode cX9_isEmpty 4 = .ok (.ifCond .ne 7, 3) := by decide +kernel
theorem dX9_isEmpty_7 : decode cX9_isEmpty 7 = .ok (.iconst 1, 1) := by decide +kernel
theorem dX9_isEmpty_8 : decode cX9_isEmpty 8 = .ok (.goto 4, 3) := by decide +kernel
theorem dX9_isEmpty_11 : decode cX9_isEmpty 11 = .ok (.iconst 0, 1) := by decide +kernel
theorem dX9_isEmpty_12 : decode cX9_isEmpty 12 = .ok (.ireturn, 1) := by decide +kernel
def wo_X9_isEmpty0 : List Cond := [.fieldLink RX9 21 "DynamicLogicProver$Shelf" "used" "I"]
def wd_X9_isEmpty0 : List Cond := .code yX9_isEmpty cX9_isEmpty 1 (some .boolean) :: (wo_X9_isEmpty0 ++ (wsX90 ++ ([] : List Cond)))
theorem mo_X9_isEmpty0 {w : Cond} (i : Nat) (h : wo_X9_isEmpty0[i]? = some w) : w ∈ wd_X9_isEmpty0 := List.mem_cons_of_mem _ (List.mem_append_left _ (List.mem_of_getElem? h))
theorem mb_X9_isEmpty0_0 : ∀ w ∈ wsX90, w ∈ wd_X9_isEmpty0 := fun w h => List.mem_cons_of_mem _ (List.mem_append_right _ (List.mem_append_left _ h))
theorem hd_X9_isEmpty : yX9_isEmpty.cls ≠ "java/lang/invoke/MethodHandle" ∧ yX9_isEmpty.cls ≠ "java/lang/invoke/VarHandle" ∧ (parseMethodDescriptor yX9_isEmpty.desc).map (fun d => d.parameters.length) = some 0 := by decide +kernel
set_option maxRecDepth 20000 in
theorem gw_X9_isEmpty0 : wd_X9_isEmpty0.all goodWord = true := by decide +kernel
abbrev qc_X9_isEmpty0 (D : va_G) (h : Nat) (a : Nat) (b : Nat) (d : Nat) (A : Nat → Prop) : Array Value → State → Outcome → State → Prop := va_Qi (fun (r : Int32) (uZ : Unit) => r = 1) (fun uZ tZ => kc_pos D A [(h, .inr (9, [.ref a, .ref b, .ref d, .int 0]))] [] tZ) A
set_option maxHeartbeats 4000000 in
set_option maxRecDepth 100000 in
theorem ct_X9_isEmpty0 (l : Launch) (D : va_G) (h : Nat) (a : Nat) (b : Nat) (d : Nat) (sz : Nat)  : Met l yX9_isEmpty wd_X9_isEmpty0 ({ frames := 0, cells := 0, slots := 0, locals := 0 }) (va_Pc [.ref h] (kc_pre D [] [(h, .inr (9, [.ref a, .ref b, .ref d, .int 0]))] sz)) (qc_X9_isEmpty0 D h a b d (va_A [(h, .inr (9, [.ref a, .ref b, .ref d, .int 0]))] sz)) 0 0 (va_A [(h, .inr (9, [.ref a, .ref b, .ref d, .int 0]))] sz) := by
  refine Met.ofW (cc := cX9_isEmpty) (maxL := 1) (ret := (some .boolean)) (by decide) rfl ?_
  intro p e s m args below meth c s₁ B hml hv
  obtain ⟨rfl, hsz, hP, hK, hN, hD0⟩ := hv
  have hx := B.exec
  have hb := B.bytes
  have hr := B.returns
  have hts := atoms_spec (ws := wd_X9_isEmpty0) B.pre
  have hown : s.vm.findClass RX9 = some m.cls := findClass_of_methodNamed B.named
  have hlocks := B.notSynchronized
  subst hsz
  have hD := hD0.self (sz := s.heap.size)
  generalize hAe : va_A [(h, .inr (9, [.ref a, .ref b, .ref d, .int 0]))] s.heap.size = A at hD ⊢
  have hA : ∀ q : Nat, s.heap.size ≤ q → A q := fun q h => by rw [← hAe]; exact Or.inr h
  have hS : va_S A s.heap s.heap [] := va_S.rf
  have hiX9 : ∀ w ∈ wsX90, w ∈ wd_X9_isEmpty0 := mb_X9_isEmpty0_0
  have hl := lv_entry ([.ref h]) (n := 1) (Nat.le_of_ble_eq_true rfl)
  rw [lg_entry_eq]
  generalize (lg_sl ([.ref h]) ++ List.replicate (1 - (lg_sl ([.ref h])).length) Slot.unset).toArray = ls at hl ⊢
  have hl : lv_has ls 1 [(0, .ref h)] := hl
  refine lv_aload_n hx hb dX9_isEmpty_0 rfl (lv_at hl 0 rfl) ?_
  refine va_get (D := D) (ci := 9) (v := .int 0) (C := RX9) (T := TX9) (N := 4) hx hb hts hiX9 hown hK hP 0 rfl rfl 3 (by decide) (hts (.fieldLink RX9 21 "DynamicLogicProver$Shelf" "used" "I") (mo_X9_isEmpty0 0 rfl)) (fun _ h9 => h9) rfl dX9_isEmpty_1 ?_
  refine lv_if_ne (tgt := 11) hx hb dX9_isEmpty_4 (by decide) (fun c_1 => ?_) (fun c_1 => ?_)
  · exact absurd c_1 (by decide)
  · refine lv_iconst (v := 1) hx hb dX9_isEmpty_7 (by decide) ?_
    refine lv_goto (tgt := 12) hx hb dX9_isEmpty_8 (by decide) ?_
    have hP9 := hP.sub (ws' := [(h, .inr (9, [.ref a, .ref b, .ref d, .int 0]))]) [0] rfl
    have hD9 := hD.sub (ws' := [(h, .inr (9, [.ref a, .ref b, .ref d, .int 0]))]) [0] (by decide) rfl
    have hK9 := hK.sub (tys' := []) [] rfl
    exact W.zret (v := 1) (ty := .boolean) hx hb hr rfl (fun tZ htZ hW => ⟨⟨1, (), rfl, rfl, by rw [htZ]; exact hP9, va_K.moved hW.alike hK9, hD9⟩, hS.F htZ⟩) hS.2.2 dX9_isEmpty_12
theorem dX9_isFull_0 : decode cX9_isFull 0 = .ok (.aload_n 0, 1) := by decide +kernel
theorem dX9_isFull_1 : decode cX9_isFull 1 = .ok (.getfield 21, 3) := by decide +kernel
theorem dX9_isFull_4 : decode cX9_isFull 4 = .ok (.bipush 12, 2) := by decide +kernel
theorem dX9_isFull_6 : decode cX9_isFull 6 = .ok (.if_icmp .lt 7, 3) := by decide +kernel
theorem dX9_isFull_9 : decode cX9_isFull 9 = .ok (.iconst 1, 1) := by decide +kernel
theorem dX9_isFull_10 : decode cX9_isFull 10 = .ok (.goto 4, 3) := by decide +kernel
theorem dX9_isFull_13 : decode cX9_isFull 13 = .ok (.iconst 0, 1) := by decide +kernel
theorem dX9_isFull_14 : decode cX9_isFull 14 = .ok (.ireturn, 1) := by decide +kernel
def wo_X9_isFull0 : List Cond := [.fieldLink RX9 21 "DynamicLogicProver$Shelf" "used" "I"]
def wd_X9_isFull0 : List Cond := .code yX9_isFull cX9_isFull 1 (some .boolean) :: (wo_X9_isFull0 ++ (wsX90 ++ ([] : List Cond)))
theorem mo_X9_isFull0 {w : Cond} (i : Nat) (h : wo_X9_isFull0[i]? = some w) : w ∈ wd_X9_isFull0 := List.mem_cons_of_mem _ (List.mem_append_left _ (List.mem_of_getElem? h))
theorem mb_X9_isFull0_0 : ∀ w ∈ wsX90, w ∈ wd_X9_isFull0 := fun w h => List.mem_cons_of_mem _ (List.mem_append_right _ (List.mem_append_left _ h))
theorem hd_X9_isFull : yX9_isFull.cls ≠ "java/lang/invoke/MethodHandle" ∧ yX9_isFull.cls ≠ "java/lang/invoke/VarHandle" ∧ (parseMethodDescriptor yX9_isFull.desc).map (fun d => d.parameters.length) = some 0 := by decide +kernel
set_option maxRecDepth 20000 in
theorem gw_X9_isFull0 : wd_X9_isFull0.all goodWord = true := by decide +kernel
abbrev qc_X9_isFull0 (D : va_G) (h : Nat) (a : Nat) (b : Nat) (d : Nat) (A : Nat → Prop) : Array Value → State → Outcome → State → Prop := va_Qi (fun (r : Int32) (uZ : Unit) => r = 0) (fun uZ tZ => kc_pos D A [(h, .inr (9, [.ref a, .ref b, .ref d, .int 0]))] [] tZ) A
set_option maxHeartbeats 4000000 in
set_option maxRecDepth 100000 in
theorem ct_X9_isFull0 (l : Launch) (D : va_G) (h : Nat) (a : Nat) (b : Nat) (d : Nat) (sz : Nat)  : Met l yX9_isFull wd_X9_isFull0 ({ frames := 0, cells := 0, slots := 0, locals := 0 }) (va_Pc [.ref h] (kc_pre D [] [(h, .inr (9, [.ref a, .ref b, .ref d, .int 0]))] sz)) (qc_X9_isFull0 D h a b d (va_A [(h, .inr (9, [.ref a, .ref b, .ref d, .int 0]))] sz)) 0 0 (va_A [(h, .inr (9, [.ref a, .ref b, .ref d, .int 0]))] sz) := by
  refine Met.ofW (cc := cX9_isFull) (maxL := 1) (ret := (some .boolean)) (by decide) rfl ?_
  intro p e s m args below meth c s₁ B hml hv
  obtain ⟨rfl, hsz, hP, hK, hN, hD0⟩ := hv
  have hx := B.exec
  have hb := B.bytes
  have hr := B.returns
  have hts := atoms_spec (ws := wd_X9_isFull0) B.pre
  have hown : s.vm.findClass RX9 = some m.cls := findClass_of_methodNamed B.named
  have hlocks := B.notSynchronized
  subst hsz
  have hD := hD0.self (sz := s.heap.size)
  generalize hAe : va_A [(h, .inr (9, [.ref a, .ref b, .ref d, .int 0]))] s.heap.size = A at hD ⊢
  have hA : ∀ q : Nat, s.heap.size ≤ q → A q := fun q h => by rw [← hAe]; exact Or.inr h
  have hS : va_S A s.heap s.heap [] := va_S.rf
  have hiX9 : ∀ w ∈ wsX90, w ∈ wd_X9_isFull0 := mb_X9_isFull0_0
  have hl := lv_entry ([.ref h]) (n := 1) (Nat.le_of_ble_eq_true rfl)
  rw [lg_entry_eq]
  generalize (lg_sl ([.ref h]) ++ List.replicate (1 - (lg_sl ([.ref h])).length) Slot.unset).toArray = ls at hl ⊢
  have hl : lv_has ls 1 [(0, .ref h)] := hl
  refine lv_aload_n hx hb dX9_isFull_0 rfl (lv_at hl 0 rfl) ?_
  refine va_get (D := D) (ci := 9) (v := .int 0) (C := RX9) (T := TX9) (N := 4) hx hb hts hiX9 hown hK hP 0 rfl rfl 3 (by decide) (hts (.fieldLink RX9 21 "DynamicLogicProver$Shelf" "used" "I") (mo_X9_isFull0 0 rfl)) (fun _ h9 => h9) rfl dX9_isFull_1 ?_
  refine lv_bipush (v := 12) hx hb dX9_isFull_4 (by decide) ?_
  refine lv_icmp_lt (tgt := 13) hx hb dX9_isFull_6 (by decide) (fun c_1 => ?_) (fun c_1 => ?_)
  · refine lv_iconst (v := 0) hx hb dX9_isFull_13 (by decide) ?_
    have hP9 := hP.sub (ws' := [(h, .inr (9, [.ref a, .ref b, .ref d, .int 0]))]) [0] rfl
    have hD9 := hD.sub (ws' := [(h, .inr (9, [.ref a, .ref b, .ref d, .int 0]))]) [0] (by decide) rfl
    have hK9 := hK.sub (tys' := []) [] rfl
    exact W.zret (v := 0) (ty := .boolean) hx hb hr rfl (fun tZ htZ hW => ⟨⟨0, (), rfl, rfl, by rw [htZ]; exact hP9, va_K.moved hW.alike hK9, hD9⟩, hS.F htZ⟩) hS.2.2 dX9_isFull_14
  · exact absurd c_1 (by decide)
theorem dX9_has_0 : decode cX9_has 0 = .ok (.iload_n 1, 1) := by decide +kernel
theorem dX9_has_1 : decode cX9_has 1 = .ok (.ifCond .lt 15, 3) := by decide +kernel
theorem dX9_has_4 : decode cX9_has 4 = .ok (.iload_n 1, 1) := by decide +kernel
theorem dX9_has_5 : decode cX9_has 5 = .ok (.aload_n 0, 1) := by decide +kernel
theorem dX9_has_6 : decode cX9_has 6 = .ok (.getfield 21, 3) := by decide +kernel
theorem dX9_has_9 : decode cX9_has 9 = .ok (.if_icmp .ge 7, 3) := by decide +kernel
theorem dX9_has_12 : decode cX9_has 12 = .ok (.iconst 1, 1) := by decide +kernel
theorem dX9_has_13 : decode cX9_has 13 = .ok (.goto 4, 3) := by decide +kernel
theorem dX9_has_16 : decode cX9_has 16 = .ok (.iconst 0, 1) := by decide +kernel
theorem dX9_has_17 : decode cX9_has 17 = .ok (.ireturn, 1) := by decide +kernel
def wo_X9_has0 : List Cond := [.fieldLink RX9 21 "DynamicLogicProver$Shelf" "used" "I"]
def wd_X9_has0 : List Cond := .code yX9_has cX9_has 2 (some .boolean) :: (wo_X9_has0 ++ (wsX90 ++ ([] : List Cond)))
theorem mo_X9_has0 {w : Cond} (i : Nat) (h : wo_X9_has0[i]? = some w) : w ∈ wd_X9_has0 := List.mem_cons_of_mem _ (List.mem_append_left _ (List.mem_of_getElem? h))
theorem mb_X9_has0_0 : ∀ w ∈ wsX90, w ∈ wd_X9_has0 := fun w h => List.mem_cons_of_mem _ (List.mem_append_right _ (List.mem_append_left _ h))
theorem hd_X9_has : yX9_has.cls ≠ "java/lang/invoke/MethodHandle" ∧ yX9_has.cls ≠ "java/lang/invoke/VarHandle" ∧ (parseMethodDescriptor yX9_has.desc).map (fun d => d.parameters.length) = some 1 := by decide +kernel
set_option maxRecDepth 20000 in
theorem gw_X9_has0 : wd_X9_has0.all goodWord = true := by decide +kernel
abbrev qc_X9_has0 (D : va_G) (h : Nat) (a : Nat) (b : Nat) (d : Nat) (w : Int32) (A : Nat → Prop) : Array Value → State → Outcome → State → Prop := va_Qi (fun (r : Int32) (uZ : Unit) => r = 0) (fun uZ tZ => kc_pos D A [(h, .inr (9, [.ref a, .ref b, .ref d, .int 0]))] [] tZ) A
set_option maxHeartbeats 4000000 in
set_option maxRecDepth 100000 in
theorem ct_X9_has0 (l : Launch) (D : va_G) (h : Nat) (a : Nat) (b : Nat) (d : Nat) (w : Int32) (sz : Nat)  : Met l yX9_has wd_X9_has0 ({ frames := 0, cells := 0, slots := 0, locals := 0 }) (va_Pc [.ref h, .int w] (kc_pre D [] [(h, .inr (9, [.ref a, .ref b, .ref d, .int 0]))] sz)) (qc_X9_has0 D h a b d w (va_A [(h, .inr (9, [.ref a, .ref b, .ref d, .int 0]))] sz)) 0 0 (va_A [(h, .inr (9, [.ref a, .ref b, .ref d, .int 0]))] sz) := by
  refine Met.ofW (cc := cX9_has) (maxL := 2) (ret := (some .boolean)) (by decide) rfl ?_
  intro p e s m args below meth c s₁ B hml hv
  obtain ⟨rfl, hsz, hP, hK, hN, hD0⟩ := hv
  have hx := B.exec
  have hb := B.bytes
  have hr := B.returns
  have hts := atoms_spec (ws := wd_X9_has0) B.pre
  have hown : s.vm.findClass RX9 = some m.cls := findClass_of_methodNamed B.named
  have hlocks := B.notSynchronized
  subst hsz
  have hD := hD0.self (sz := s.heap.size)
  generalize hAe : va_A [(h, .inr (9, [.ref a, .ref b, .ref d, .int 0]))] s.heap.size = A at hD ⊢
  have hA : ∀ q : Nat, s.heap.size ≤ q → A q := fun q h => by rw [← hAe]; exact Or.inr h
  have hS : va_S A s.heap s.heap [] := va_S.rf
  have hiX9 : ∀ w ∈ wsX90, w ∈ wd_X9_has0 := mb_X9_has0_0
  have hl := lv_entry ([.ref h, .int w]) (n := 2) (Nat.le_of_ble_eq_true rfl)
  rw [lg_entry_eq]
  generalize (lg_sl ([.ref h, .int w]) ++ List.replicate (2 - (lg_sl ([.ref h, .int w])).length) Slot.unset).toArray = ls at hl ⊢
  have hl : lv_has ls 2 [(0, .ref h), (1, .int w)] := hl
  refine lv_iload_n hx hb dX9_has_0 rfl (lv_at hl 1 rfl) ?_
  refine lv_if_lt (tgt := 16) hx hb dX9_has_1 (by decide) (fun c_1 => ?_) (fun c_1 => ?_)
  · refine lv_iconst (v := 0) hx hb dX9_has_16 (by decide) ?_
    have hP9 := hP.sub (ws' := [(h, .inr (9, [.ref a, .ref b, .ref d, .int 0]))]) [0] rfl
    have hD9 := hD.sub (ws' := [(h, .inr (9, [.ref a, .ref b, .ref d, .int 0]))]) [0] (by decide) rfl
    have hK9 := hK.sub (tys' := []) [] rfl
    exact W.zret (v := 0) (ty := .boolean) hx hb hr rfl (fun tZ htZ hW => ⟨⟨0, (), rfl, rfl, by rw [htZ]; exact hP9, va_K.moved hW.alike hK9, hD9⟩, hS.F htZ⟩) hS.2.2 dX9_has_17
  · refine lv_iload_n hx hb dX9_has_4 rfl (lv_at hl 1 rfl) ?_
    refine lv_aload_n hx hb dX9_has_5 rfl (lv_at hl 0 rfl) ?_
    refine va_get (D := D) (ci := 9) (v := .int 0) (C := RX9) (T := TX9) (N := 4) hx hb hts hiX9 hown hK hP 0 rfl rfl 3 (by decide) (hts (.fieldLink RX9 21 "DynamicLogicProver$Shelf" "used" "I") (mo_X9_has0 0 rfl)) (fun _ h9 => h9) rfl dX9_has_6 ?_
    refine lv_icmp_ge (tgt := 16) hx hb dX9_has_9 (by decide) (fun c_2 => ?_) (fun c_2 => ?_)
    · refine lv_iconst (v := 0) hx hb dX9_has_16 (by decide) ?_
      have hP9 := hP.sub (ws' := [(h, .inr (9, [.ref a, .ref b, .ref d, .int 0]))]) [0] rfl
      have hD9 := hD.sub (ws' := [(h, .inr (9, [.ref a, .ref b, .ref d, .int 0]))]) [0] (by decide) rfl
      have hK9 := hK.sub (tys' := []) [] rfl
      exact W.zret (v := 0) (ty := .boolean) hx hb hr rfl (fun tZ htZ hW => ⟨⟨0, (), rfl, rfl, by rw [htZ]; exact hP9, va_K.moved hW.alike hK9, hD9⟩, hS.F htZ⟩) hS.2.2 dX9_has_17
    · exact absurd (show (0 : Int32) ≤ w from fa_of_nlt c_1) c_2
theorem dX9_take_0 : decode cX9_take 0 = .ok (.aload_n 0, 1) := by decide +kernel
theorem dX9_take_1 : decode cX9_take 1 = .ok (.aload_n 1, 1) := by decide +kernel
theorem dX9_take_2 : decode cX9_take 2 = .ok (.getfield 21, 3) := by decide +kernel
theorem dX9_take_5 : decode cX9_take 5 = .ok (.putfield 21, 3) := by decide +kernel
theorem dX9_take_8 : decode cX9_take 8 = .ok (.aload_n 1, 1) := by decide +kernel
theorem dX9_take_9 : decode cX9_take 9 = .ok (.getfield 9, 3) := by decide +kernel
theorem dX9_take_12 : decode cX9_take 12 = .ok (.iconst 0, 1) := by decide +kernel
theorem dX9_take_13 : decode cX9_take 13 = .ok (.aload_n 0, 1) := by decide +kernel
theorem dX9_take_14 : decode cX9_take 14 = .ok (.getfield 9, 3) := by decide +kernel
theorem dX9_take_17 : decode cX9_take 17 = .ok (.iconst 0, 1) := by decide +kernel
theorem dX9_take_18 : decode cX9_take 18 = .ok (.sipush 960, 3) := by decide +kernel
theorem dX9_take_21 : decode cX9_take 21 = .ok (.invokestatic 29, 3) := by decide +kernel
theorem dX9_take_24 : decode cX9_take 24 = .ok (.aload_n 1, 1) := by decide +kernel
theorem dX9_take_25 : decode cX9_take 25 = .ok (.getfield 15, 3) := by decide +kernel
theorem dX9_take_28 : decode cX9_take 28 = .ok (.iconst 0, 1) := by decide +kernel
theorem dX9_take_29 : decode cX9_take 29 = .ok (.aload_n 0, 1) := by decide +kernel
theorem dX9_take_30 : decode cX9_take 30 = .ok (.getfield 15, 3) := by decide +kernel
theorem dX9_take_33 : decode cX9_take 33 = .ok (.iconst 0, 1) := by decide +kernel
theorem dX9_take_34 : decode cX9_take 34 = .ok (.bipush 12, 2) := by decide +kernel
theorem dX9_take_36 : decode cX9_take 36 = .ok (.invokestatic 29, 3) := by decide +kernel
theorem dX9_take_39 : decode cX9_take 39 = .ok (.return_, 1) := by decide +kernel
def wo_X9_take : List Cond := [.fieldLink RX9 21 "DynamicLogicProver$Shelf" "used" "I", .fieldLink RX9 9 "DynamicLogicProver$Shelf" "codes" "[I", .methodLink RX9 29 arraycopyName, .native arraycopyName, .static arraycopyName, .initialized "java/lang/System", .fieldLink RX9 15 "DynamicLogicProver$Shelf" "sizes" "[I"]
def wd_X9_take : List Cond := .code yX9_take cX9_take 2 none :: (wo_X9_take ++ (wsX90 ++ ([] : List Cond)))
theorem mo_X9_take {w : Cond} (i : Nat) (h : wo_X9_take[i]? = some w) : w ∈ wd_X9_take := List.mem_cons_of_mem _ (List.mem_append_left _ (List.mem_of_getElem? h))
theorem mb_X9_take_0 : ∀ w ∈ wsX90, w ∈ wd_X9_take := fun w h => List.mem_cons_of_mem _ (List.mem_append_right _ (List.mem_append_left _ h))
theorem hd_X9_take : yX9_take.cls ≠ "java/lang/invoke/MethodHandle" ∧ yX9_take.cls ≠ "java/lang/invoke/VarHandle" ∧ (parseMethodDescriptor yX9_take.desc).map (fun d => d.parameters.length) = some 1 := by decide +kernel
set_option maxRecDepth 20000 in
theorem gw_X9_take : wd_X9_take.all goodWord = true := by decide +kernel
abbrev qc_X9_take (D : va_G) (h : Nat) (a : Nat) (b : Nat) (d : Nat) (h2 : Nat) (a2 : Nat) (b2 : Nat) (d2 : Nat) (ka : ClassId) (kb : ClassId) (ka2 : ClassId) (kb2 : ClassId) (f : Nat → Int32) (g : Nat → Int32) (f2 : Nat → Int32) (g2 : Nat → Int32) (n : Int32) (n2 : Int32) (A : Nat → Prop) : Array Value → State → Outcome → State → Prop := va_Qv (fun (uZ : (Nat → Int32) × (Nat → Int32)) => True) (fun uZ tZ => kc_pos D A [(h, .inr (9, [.ref a, .ref b, .ref d, .int n2])), (a, .inl (ka, 960, .inl uZ.1)), (b, .inl (kb, 12, .inl uZ.2)), (h2, .inr (9, [.ref a2, .ref b2, .ref d2, .int n2])), (a2, .inl (ka2, 960, .inl f2)), (b2, .inl (kb2, 12, .inl g2))] [] tZ) A
set_option maxHeartbeats 4000000 in
set_option maxRecDepth 100000 in
theorem ct_X9_take (l : Launch) (D : va_G) (h : Nat) (a : Nat) (b : Nat) (d : Nat) (h2 : Nat) (a2 : Nat) (b2 : Nat) (d2 : Nat) (ka : ClassId) (kb : ClassId) (ka2 : ClassId) (kb2 : ClassId) (f : Nat → Int32) (g : Nat → Int32) (f2 : Nat → Int32) (g2 : Nat → Int32) (n : Int32) (n2 : Int32) (sz : Nat)  : Met l yX9_take wd_X9_take ({ frames := 1, cells := 0, slots := 0, locals := 40 }) (va_Pc [.ref h, .ref h2] (kc_pre D [(ka, .int), (kb, .int), (ka2, .int), (kb2, .int)] [(h, .inr (9, [.ref a, .ref b, .ref d, .int n])), (a, .inl (ka, 960, .inl f)), (b, .inl (kb, 12, .inl g)), (h2, .inr (9, [.ref a2, .ref b2, .ref d2, .int n2])), (a2, .inl (ka2, 960, .inl f2)), (b2, .inl (kb2, 12, .inl g2))] sz)) (qc_X9_take D h a b d h2 a2 b2 d2 ka kb ka2 kb2 f g f2 g2 n n2 (va_A [(h, .inr (9, [.ref a, .ref b, .ref d, .int n])), (a, .inl (ka, 960, .inl f)), (b, .inl (kb, 12, .inl g)), (h2, .inr (9, [.ref a2, .ref b2, .ref d2, .int n2])), (a2, .inl (ka2, 960, .inl f2)), (b2, .inl (kb2, 12, .inl g2))] sz)) 0 0 (va_A [(h, .inr (9, [.ref a, .ref b, .ref d, .int n])), (a, .inl (ka, 960, .inl f)), (b, .inl (kb, 12, .inl g)), (h2, .inr (9, [.ref a2, .ref b2, .ref d2, .int n2])), (a2, .inl (ka2, 960, .inl f2)), (b2, .inl (kb2, 12, .inl g2))] sz) := by
  refine Met.ofW (cc := cX9_take) (maxL := 2) (ret := none) (by decide) rfl ?_
  intro p e s m args below meth c s₁ B hml hv
  obtain ⟨rfl, hsz, hP, hK, hN, hD0⟩ := hv
  have hx := B.exec
  have hb := B.bytes
  have hr := B.returns
  have hts := atoms_spec (ws := wd_X9_take) B.pre
  have hown : s.vm.findClass RX9 = some m.cls := findClass_of_methodNamed B.named
  have hlocks := B.notSynchronized
  subst hsz
  have hD := hD0.self (sz := s.heap.size)
  generalize hAe : va_A [(h, .inr (9, [.ref a, .ref b, .ref d, .int n])), (a, .inl (ka, 960, .inl f)), (b, .inl (kb, 12, .inl g)), (h2, .inr (9, [.ref a2, .ref b2, .ref d2, .int n2])), (a2, .inl (ka2, 960, .inl f2)), (b2, .inl (kb2, 12, .inl g2))] s.heap.size = A at hD ⊢
  have hA : ∀ q : Nat, s.heap.size ≤ q → A q := fun q h => by rw [← hAe]; exact Or.inr h
  have hS : va_S A s.heap s.heap [] := va_S.rf
  have hiX9 : ∀ w ∈ wsX90, w ∈ wd_X9_take := mb_X9_take_0
  have hl := lv_entry ([.ref h, .ref h2]) (n := 2) (Nat.le_of_ble_eq_true rfl)
  rw [lg_entry_eq]
  generalize (lg_sl ([.ref h, .ref h2]) ++ List.replicate (2 - (lg_sl ([.ref h, .ref h2])).length) Slot.unset).toArray = ls at hl ⊢
  have hl : lv_has ls 2 [(0, .ref h), (1, .ref h2)] := hl
  refine lv_aload_n hx hb dX9_take_0 rfl (lv_at hl 0 rfl) ?_
  refine lv_aload_n hx hb dX9_take_1 rfl (lv_at hl 1 rfl) ?_
  refine va_get (D := D) (ci := 9) (v := .int n2) (C := RX9) (T := TX9) (N := 4) hx hb hts hiX9 hown hK hP 3 rfl rfl 3 (by decide) (hts (.fieldLink RX9 21 "DynamicLogicProver$Shelf" "used" "I") (mo_X9_take 0 rfl)) (fun _ h9 => h9) rfl dX9_take_2 ?_
  refine va_put (D := D) (ci := 9) (v := .int n2) (ty := .int) (C := RX9) (T := TX9) (N := 4) hx hb hts hiX9 tyX9 tyX9_ok nmX9 hown hK hP hD hS 0 rfl rfl 3 (by decide) (hts (.fieldLink RX9 21 "DynamicLogicProver$Shelf" "used" "I") (mo_X9_take 0 rfl)) (fun _ h9 => h9) rfl (tyX9_ok 3 (by decide)) rfl rfl (Nat.le_of_ble_eq_true rfl) dX9_take_5 (fun H locs hP hD hS => ?_)
  have hP : va_P D vwCl [(h, .inr (9, [.ref a, .ref b, .ref d, .int n2])), (a, .inl (ka, 960, .inl f)), (b, .inl (kb, 12, .inl g)), (h2, .inr (9, [.ref a2, .ref b2, .ref d2, .int n2])), (a2, .inl (ka2, 960, .inl f2)), (b2, .inl (kb2, 12, .inl g2))] H := hP
  have hD : va_D A [(h, .inr (9, [.ref a, .ref b, .ref d, .int n2])), (a, .inl (ka, 960, .inl f)), (b, .inl (kb, 12, .inl g)), (h2, .inr (9, [.ref a2, .ref b2, .ref d2, .int n2])), (a2, .inl (ka2, 960, .inl f2)), (b2, .inl (kb2, 12, .inl g2))] := hD
  refine lv_aload_n hx hb dX9_take_8 rfl (lv_at hl 1 rfl) ?_
  refine va_get (D := D) (ci := 9) (v := .ref a2) (C := RX9) (T := TX9) (N := 4) hx hb hts hiX9 hown hK hP 3 rfl rfl 0 (by decide) (hts (.fieldLink RX9 9 "DynamicLogicProver$Shelf" "codes" "[I") (mo_X9_take 1 rfl)) (fun _ h9 => h9) rfl dX9_take_9 ?_
  refine lv_iconst (v := 0) hx hb dX9_take_12 (by decide) ?_
  refine lv_aload_n hx hb dX9_take_13 rfl (lv_at hl 0 rfl) ?_
  refine va_get (D := D) (ci := 9) (v := .ref a) (C := RX9) (T := TX9) (N := 4) hx hb hts hiX9 hown hK hP 0 rfl rfl 0 (by decide) (hts (.fieldLink RX9 9 "DynamicLogicProver$Shelf" "codes" "[I") (mo_X9_take 1 rfl)) (fun _ h9 => h9) rfl dX9_take_14 ?_
  refine lv_iconst (v := 0) hx hb dX9_take_17 (by decide) ?_
  refine lv_sipush (v := 960) hx hb dX9_take_18 (by decide) ?_
  refine va_copyi (ty := .int) hx hb (by rw [hml]; exact hl.1.symm) hown (hts (.methodLink RX9 29 arraycopyName) (mo_X9_take 2 rfl)) (hts (.native arraycopyName) (mo_X9_take 3 rfl)) (hts (.static arraycopyName) (mo_X9_take 4 rfl)) (hts (.initialized "java/lang/System") (mo_X9_take 5 rfl)) hK hP hD hS 4 1 2 0 rfl rfl rfl rfl rfl (by decide) (by decide) (by decide) (Nat.le_of_ble_eq_true rfl) (Nat.le_of_ble_eq_true rfl) (fun _ _ => rfl) (Nat.le_of_ble_eq_true rfl) (by decide) dX9_take_21 (fun H locs hP hD hS => ?_)
  generalize ef_1 : va_cpy f2 f (0 : Int32).toNatClampNeg (0 : Int32).toNatClampNeg (960 : Int32).toNatClampNeg = f_1 at hP hD
  have hP : va_P D vwCl [(h, .inr (9, [.ref a, .ref b, .ref d, .int n2])), (a, .inl (ka, 960, .inl f_1)), (b, .inl (kb, 12, .inl g)), (h2, .inr (9, [.ref a2, .ref b2, .ref d2, .int n2])), (a2, .inl (ka2, 960, .inl f2)), (b2, .inl (kb2, 12, .inl g2))] H := hP
  have hD : va_D A [(h, .inr (9, [.ref a, .ref b, .ref d, .int n2])), (a, .inl (ka, 960, .inl f_1)), (b, .inl (kb, 12, .inl g)), (h2, .inr (9, [.ref a2, .ref b2, .ref d2, .int n2])), (a2, .inl (ka2, 960, .inl f2)), (b2, .inl (kb2, 12, .inl g2))] := hD
  refine lv_aload_n hx hb dX9_take_24 rfl (lv_at hl 1 rfl) ?_
  refine va_get (D := D) (ci := 9) (v := .ref b2) (C := RX9) (T := TX9) (N := 4) hx hb hts hiX9 hown hK hP 3 rfl rfl 1 (by decide) (hts (.fieldLink RX9 15 "DynamicLogicProver$Shelf" "sizes" "[I") (mo_X9_take 6 rfl)) (fun _ h9 => h9) rfl dX9_take_25 ?_
  refine lv_iconst (v := 0) hx hb dX9_take_28 (by decide) ?_
  refine lv_aload_n hx hb dX9_take_29 rfl (lv_at hl 0 rfl) ?_
  refine va_get (D := D) (ci := 9) (v := .ref b) (C := RX9) (T := TX9) (N := 4) hx hb hts hiX9 hown hK hP 0 rfl rfl 1 (by decide) (hts (.fieldLink RX9 15 "DynamicLogicProver$Shelf" "sizes" "[I") (mo_X9_take 6 rfl)) (fun _ h9 => h9) rfl dX9_take_30 ?_
  refine lv_iconst (v := 0) hx hb dX9_take_33 (by decide) ?_
  refine lv_bipush (v := 12) hx hb dX9_take_34 (by decide) ?_
  refine va_copyi (ty := .int) hx hb (by rw [hml]; exact hl.1.symm) hown (hts (.methodLink RX9 29 arraycopyName) (mo_X9_take 2 rfl)) (hts (.native arraycopyName) (mo_X9_take 3 rfl)) (hts (.static arraycopyName) (mo_X9_take 4 rfl)) (hts (.initialized "java/lang/System") (mo_X9_take 5 rfl)) hK hP hD hS 5 2 3 1 rfl rfl rfl rfl rfl (by decide) (by decide) (by decide) (Nat.le_of_ble_eq_true rfl) (Nat.le_of_ble_eq_true rfl) (fun _ _ => rfl) (Nat.le_of_ble_eq_true rfl) (by decide) dX9_take_36 (fun H locs hP hD hS => ?_)
  generalize ef_2 : va_cpy g2 g (0 : Int32).toNatClampNeg (0 : Int32).toNatClampNeg (12 : Int32).toNatClampNeg = f_2 at hP hD
  have hP : va_P D vwCl [(h, .inr (9, [.ref a, .ref b, .ref d, .int n2])), (a, .inl (ka, 960, .inl f_1)), (b, .inl (kb, 12, .inl f_2)), (h2, .inr (9, [.ref a2, .ref b2, .ref d2, .int n2])), (a2, .inl (ka2, 960, .inl f2)), (b2, .inl (kb2, 12, .inl g2))] H := hP
  have hD : va_D A [(h, .inr (9, [.ref a, .ref b, .ref d, .int n2])), (a, .inl (ka, 960, .inl f_1)), (b, .inl (kb, 12, .inl f_2)), (h2, .inr (9, [.ref a2, .ref b2, .ref d2, .int n2])), (a2, .inl (ka2, 960, .inl f2)), (b2, .inl (kb2, 12, .inl g2))] := hD
  have hP9 := hP.sub (ws' := [(h, .inr (9, [.ref a, .ref b, .ref d, .int n2])), (a, .inl (ka, 960, .inl f_1)), (b, .inl (kb, 12, .inl f_2)), (h2, .inr (9, [.ref a2, .ref b2, .ref d2, .int n2])), (a2, .inl (ka2, 960, .inl f2)), (b2, .inl (kb2, 12, .inl g2))]) [0, 1, 2, 3, 4, 5] rfl
  have hD9 := hD.sub (ws' := [(h, .inr (9, [.ref a, .ref b, .ref d, .int n2])), (a, .inl (ka, 960, .inl f_1)), (b, .inl (kb, 12, .inl f_2)), (h2, .inr (9, [.ref a2, .ref b2, .ref d2, .int n2])), (a2, .inl (ka2, 960, .inl f2)), (b2, .inl (kb2, 12, .inl g2))]) [0, 1, 2, 3, 4, 5] (by decide) rfl
  have hK9 := hK.sub (tys' := []) [] rfl
  exact W.vret hx hb hr (fun tZ htZ hW => ⟨⟨(f_1, f_2), rfl, trivial, by rw [htZ]; exact hP9, va_K.moved hW.alike hK9, hD9⟩, hS.F htZ⟩) hS.2.2 dX9_take_39
theorem dX6_init_0 : decode cX6_init 0 = .ok (.aload_n 0, 1) := by decide +kernel
theorem dX6_init_1 : decode cX6_init 1 = .ok (.invokespecial 3, 3) := by decide +kernel
theorem dX6_init_4 : decode cX6_init 4 = .ok (.aload_n 0, 1) := by decide +kernel
theorem dX6_init_5 : decode cX6_init 5 = .ok (.sipush 1024, 3) := by decide +kernel
theorem dX6_init_8 : decode cX6_init 8 = .ok (.newarray .int, 2) := by decide +kernel
theorem dX6_init_10 : decode cX6_init 10 = .ok (.putfield 9, 3) := by decide +kernel
theorem dX6_init_13 : decode cX6_init 13 = .ok (.aload_n 0, 1) := by decide +kernel
theorem dX6_init_14 : decode cX6_init 14 = .ok (.sipush 1024, 3) := by decide +kernel
theorem dX6_init_17 : decode cX6_init 17 = .ok (.newarray .int, 2) := by decide +kernel
theorem dX6_init_19 : decode cX6_init 19 = .ok (.putfield 15, 3) := by decide +kernel
theorem dX6_init_22 : decode cX6_init 22 = .ok (.aload_n 0, 1) := by decide +kernel
theorem dX6_init_23 : decode cX6_init 23 = .ok (.sipush 1024, 3) := by decide +kernel
theorem dX6_init_26 : decode cX6_init 26 = .ok (.newarray .int, 2) := by decide +kernel
theorem dX6_init_28 : decode cX6_init 28 = .ok (.putfield 18, 3) := by decide +kernel
theorem dX6_init_31 : decode cX6_init 31 = .ok (.aload_n 0, 1) := by decide +kernel
theorem dX6_init_32 : decode cX6_init 32 = .ok (.sipush 1024, 3) := by decide +kernel
theorem dX6_init_35 : decode cX6_init 35 = .ok (.newarray .int, 2) := by decide +kernel
theorem dX6_init_37 : decode cX6_init 37 = .ok (.putfield 21, 3) := by decide +kernel
theorem dX6_init_40 : decode cX6_init 40 = .ok (.aload_n 0, 1) := by decide +kernel
theorem dX6_init_41 : decode cX6_init 41 = .ok (.sipush 1024, 3) := by decide +kernel
theorem dX6_init_44 : decode cX6_init 44 = .ok (.newarray .int, 2) := by decide +kernel
theorem dX6_init_46 : decode cX6_init 46 = .ok (.putfield 24, 3) := by decide +kernel
theorem dX6_init_49 : decode cX6_init 49 = .ok (.aload_n 0, 1) := by decide +kernel
theorem dX6_init_50 : decode cX6_init 50 = .ok (.sipush 1024, 3) := by decide +kernel
theorem dX6_init_53 : decode cX6_init 53 = .ok (.newarray .int, 2) := by decide +kernel
theorem dX6_init_55 : decode cX6_init 55 = .ok (.putfield 27, 3) := by decide +kernel
theorem dX6_init_58 : decode cX6_init 58 = .ok (.aload_n 0, 1) := by decide +kernel
theorem dX6_init_59 : decode cX6_init 59 = .ok (.sipush 1024, 3) := by decide +kernel
theorem dX6_init_62 : decode cX6_init 62 = .ok (.newarray .int, 2) := by decide +kernel
theorem dX6_init_64 : decode cX6_init 64 = .ok (.putfield 30, 3) := by decide +kernel
theorem dX6_init_67 : decode cX6_init 67 = .ok (.aload_n 0, 1) := by decide +kernel
theorem dX6_init_68 : decode cX6_init 68 = .ok (.sipush 256, 3) := by decide +kernel
theorem dX6_init_71 : decode cX6_init 71 = .ok (.newarray .int, 2) := by decide +kernel
theorem dX6_init_73 : decode cX6_init 73 = .ok (.putfield 33, 3) := by decide +kernel
theorem dX6_init_76 : decode cX6_init 76 = .ok (.aload_n 0, 1) := by decide +kernel
theorem dX6_init_77 : decode cX6_init 77 = .ok (.sipush 2048, 3) := by decide +kernel
theorem dX6_init_80 : decode cX6_init 80 = .ok (.newarray .int, 2) := by decide +kernel
theorem dX6_init_82 : decode cX6_init 82 = .ok (.putfield 36, 3) := by decide +kernel
theorem dX6_init_85 : decode cX6_init 85 = .ok (.aload_n 0, 1) := by decide +kernel
theorem dX6_init_86 : decode cX6_init 86 = .ok (.sipush 2048, 3) := by decide +kernel
theorem dX6_init_89 : decode cX6_init 89 = .ok (.newarray .int, 2) := by decide +kernel
theorem dX6_init_91 : decode cX6_init 91 = .ok (.putfield 39, 3) := by decide +kernel
theorem dX6_init_94 : decode cX6_init 94 = .ok (.aload_n 0, 1) := by decide +kernel
theorem dX6_init_95 : decode cX6_init 95 = .ok (.sipush 2048, 3) := by decide +kernel
theorem dX6_init_98 : decode cX6_init 98 = .ok (.newarray .int, 2) := by decide +kernel
theorem dX6_init_100 : decode cX6_init 100 = .ok (.putfield 42, 3) := by decide +kernel
theorem dX6_init_103 : decode cX6_init 103 = .ok (.aload_n 0, 1) := by decide +kernel
theorem dX6_init_104 : decode cX6_init 104 = .ok (.getfield 33, 3) := by decide +kernel
theorem dX6_init_107 : decode cX6_init 107 = .ok (.iconst (-1), 1) := by decide +kernel
theorem dX6_init_108 : decode cX6_init 108 = .ok (.invokestatic 45, 3) := by decide +kernel
theorem dX6_init_111 : decode cX6_init 111 = .ok (.aload_n 0, 1) := by decide +kernel
theorem dX6_init_112 : decode cX6_init 112 = .ok (.iconst 0, 1) := by decide +kernel
theorem dX6_init_113 : decode cX6_init 113 = .ok (.putfield 51, 3) := by decide +kernel
theorem dX6_init_116 : decode cX6_init 116 = .ok (.return_, 1) := by decide +kernel
def wo_X6_init : List Cond := [.methodLink RX6 3 objectInit, .instanceMethod objectInit, .code objectInit ⟨#[0xb1]⟩ 1 none, .arrayClass .int, .fieldLink RX6 9 "DynamicLogicProver$Pool" "kinds" "[I", .fieldLink RX6 15 "DynamicLogicProver$Pool" "lefts" "[I", .fieldLink RX6 18 "DynamicLogicProver$Pool" "rights" "[I", .fieldLink RX6 21 "DynamicLogicProver$Pool" "sizes" "[I", .fieldLink RX6 24 "DynamicLogicProver$Pool" "heights" "[I", .fieldLink RX6 27 "DynamicLogicProver$Pool" "lengths" "[I", .fieldLink RX6 30 "DynamicLogicProver$Pool" "chains" "[I", .fieldLink RX6 33 "DynamicLogicProver$Pool" "heads" "[I", .fieldLink RX6 36 "DynamicLogicProver$Pool" "pending" "[I", .fieldLink RX6 39 "DynamicLogicProver$Pool" "here" "[I", .fieldLink RX6 42 "DynamicLogicProver$Pool" "there" "[I", .methodLink RX6 45 yJ7_fill_53178, .static yJ7_fill_53178, .initialized RJ7, .fieldLink RX6 51 "DynamicLogicProver$Pool" "used" "I"]
def wd_X6_init : List Cond := .code yX6_init cX6_init 1 none :: (wo_X6_init ++ (wd_J7_fill_53178 ++ (wsX60 ++ ([] : List Cond))))
theorem mo_X6_init {w : Cond} (i : Nat) (h : wo_X6_init[i]? = some w) : w ∈ wd_X6_init := List.mem_cons_of_mem _ (List.mem_append_left _ (List.mem_of_getElem? h))
theorem mb_X6_init_0 : ∀ w ∈ wd_J7_fill_53178, w ∈ wd_X6_init := fun w h => List.mem_cons_of_mem _ (List.mem_append_right _ (List.mem_append_left _ h))
theorem mb_X6_init_1 : ∀ w ∈ wsX60, w ∈ wd_X6_init := fun w h => List.mem_cons_of_mem _ (List.mem_append_right _ (List.mem_append_right _ (List.mem_append_left _ h)))
theorem hd_X6_init : yX6_init.cls ≠ "java/lang/invoke/MethodHandle" ∧ yX6_init.cls ≠ "java/lang/invoke/VarHandle" ∧ (parseMethodDescriptor yX6_init.desc).map (fun d => d.parameters.length) = some 0 := by decide +kernel
set_option maxRecDepth 20000 in
theorem gw_X6_init : wd_X6_init.all goodWord = true := by decide +kernel
abbrev qc_X6_init (D : va_G) (h : Nat) (A : Nat → Prop) : Array Value → State → Outcome → State → Prop := va_Qv (fun (uZ : (Nat) × (Nat) × (Nat) × (Nat) × (Nat) × (Nat) × (Nat) × (Nat) × (Nat) × (Nat) × (Nat) × (ClassId) × (Nat → Int32)) => True) (fun uZ tZ => kc_pos D A [(h, .inr (6, [.ref uZ.1, .ref uZ.2.1, .ref uZ.2.2.1, .ref uZ.2.2.2.1, .ref uZ.2.2.2.2.1, .ref uZ.2.2.2.2.2.1, .ref uZ.2.2.2.2.2.2.1, .ref uZ.2.2.2.2.2.2.2.1, .ref uZ.2.2.2.2.2.2.2.2.1, .ref uZ.2.2.2.2.2.2.2.2.2.1, .ref uZ.2.2.2.2.2.2.2.2.2.2.1, .int 0])), (uZ.2.2.2.2.2.2.2.1, .inl (uZ.2.2.2.2.2.2.2.2.2.2.2.1, 256, .inl uZ.2.2.2.2.2.2.2.2.2.2.2.2))] [(uZ.2.2.2.2.2.2.2.2.2.2.2.1, .int)] tZ) A
set_option maxHeartbeats 4000000 in
set_option maxRecDepth 100000 in
theorem ct_X6_init (l : Launch) (D : va_G) (h : Nat) (sz : Nat)  : Met l yX6_init wd_X6_init ({ frames := 1, cells := 11, slots := 13568, locals := 23 }) (va_Pc [.ref h] (kc_pre D [] [(h, .inr (6, [.null, .null, .null, .null, .null, .null, .null, .null, .null, .null, .null, .int 0]))] sz)) (qc_X6_init D h (va_A [(h, .inr (6, [.null, .null, .null, .null, .null, .null, .null, .null, .null, .null, .null, .int 0]))] sz)) 11 13568 (va_A [(h, .inr (6, [.null, .null, .null, .null, .null, .null, .null, .null, .null, .null, .null, .int 0]))] sz) := by
  refine Met.ofW (cc := cX6_init) (maxL := 1) (ret := none) (by decide) rfl ?_
  intro p e s m args below meth c s₁ B hml hv
  obtain ⟨rfl, hsz, hP, hK, hN, hD0⟩ := hv
  have hx := B.exec
  have hb := B.bytes
  have hr := B.returns
  have hts := atoms_spec (ws := wd_X6_init) B.pre
  have hown : s.vm.findClass RX6 = some m.cls := findClass_of_methodNamed B.named
  have hlocks := B.notSynchronized
  have hin : meth.name = "<init>" := (name_of_methodNamed B.named B.method).1
  subst hsz
  have hD := hD0.self (sz := s.heap.size)
  generalize hAe : va_A [(h, .inr (6, [.null, .null, .null, .null, .null, .null, .null, .null, .null, .null, .null, .int 0]))] s.heap.size = A at hD ⊢
  have hA : ∀ q : Nat, s.heap.size ≤ q → A q := fun q h => by rw [← hAe]; exact Or.inr h
  have hS : va_S A s.heap s.heap [] := va_S.rf
  have hiX6 : ∀ w ∈ wsX60, w ∈ wd_X6_init := mb_X6_init_1
  have hl := lv_entry ([.ref h]) (n := 1) (Nat.le_of_ble_eq_true rfl)
  rw [lg_entry_eq]
  generalize (lg_sl ([.ref h]) ++ List.replicate (1 - (lg_sl ([.ref h])).length) Slot.unset).toArray = ls at hl ⊢
  have hl : lv_has ls 1 [(0, .ref h)] := hl
  refine lv_aload_n hx hb dX6_init_0 rfl (lv_at hl 0 rfl) ?_
  refine W.objInit hx hb hown (hts (.methodLink RX6 3 objectInit) (mo_X6_init 0 rfl)) (hts (.instanceMethod objectInit) (mo_X6_init 1 rfl)) (hts (.code objectInit ⟨#[0xb1]⟩ 1 none) (mo_X6_init 2 rfl)) rfl (by rw [hml]; exact hl.1) rfl dX6_init_1 (Nat.le_of_ble_eq_true rfl) (Nat.le_of_ble_eq_true rfl) ?_
  refine W.eq (g2 := F0 m 4 ls []) rfl ?_
  refine lv_aload_n hx hb dX6_init_4 rfl (lv_at hl 0 rfl) ?_
  refine lv_sipush (v := 1024) hx hb dX6_init_5 (by decide) ?_
  refine va_newa (atype := .int) (ty := .int) (a0 := (1024, .inl (fun _ => 0))) hx hb (hts (.arrayClass .int) (mo_X6_init 3 rfl)) rfl hK hP hD hS hA (fun _ => rfl) (by decide) (N' := 1024) (by decide) (by decide) (Nat.le_of_ble_eq_true rfl) (Nat.le_of_ble_eq_true rfl) dX6_init_8 (fun q_1 k_2 H hK hP hD hS => ?_)
  have hP : va_P D vwCl [(h, .inr (6, [.null, .null, .null, .null, .null, .null, .null, .null, .null, .null, .null, .int 0])), (q_1, .inl (k_2, 1024, .inl (fun _ => 0)))] H := hP
  have hD : va_D A [(h, .inr (6, [.null, .null, .null, .null, .null, .null, .null, .null, .null, .null, .null, .int 0])), (q_1, .inl (k_2, 1024, .inl (fun _ => 0)))] := hD
  have hK : va_K D vwCl [(k_2, .int)] s := hK
  refine W.widen (k := 1) (n := 1024) (by decide) (Nat.le_of_ble_eq_true rfl) ?_
  refine va_putF (D := D) (ci := 6) (v := .ref q_1) (ty := .array .int) (C := RX6) (T := TX6) (N := 12) hx hb hts hiX6 tyX6 tyX6_ok nmX6 hown hK hP hD hS 0 rfl rfl 0 (by decide) (hts (.fieldLink RX6 9 "DynamicLogicProver$Pool" "kinds" "[I") (mo_X6_init 4 rfl)) (fun _ h9 => h9) rfl hin rfl (tyX6_ok 0 (by decide)) rfl rfl (Nat.le_of_ble_eq_true rfl) dX6_init_10 (fun H locs hP hD hS => ?_)
  have hP : va_P D vwCl [(h, .inr (6, [.ref q_1, .null, .null, .null, .null, .null, .null, .null, .null, .null, .null, .int 0])), (q_1, .inl (k_2, 1024, .inl (fun _ => 0)))] H := hP
  have hD : va_D A [(h, .inr (6, [.ref q_1, .null, .null, .null, .null, .null, .null, .null, .null, .null, .null, .int 0])), (q_1, .inl (k_2, 1024, .inl (fun _ => 0)))] := hD
  refine lv_aload_n hx hb dX6_init_13 rfl (lv_at hl 0 rfl) ?_
  refine lv_sipush (v := 1024) hx hb dX6_init_14 (by decide) ?_
  refine va_newa (atype := .int) (ty := .int) (a0 := (1024, .inl (fun _ => 0))) hx hb (hts (.arrayClass .int) (mo_X6_init 3 rfl)) rfl hK hP hD hS hA (fun _ => rfl) (by decide) (N' := 1024) (by decide) (by decide) (Nat.le_of_ble_eq_true rfl) (Nat.le_of_ble_eq_true rfl) dX6_init_17 (fun q_3 k_4 H hK hP hD hS => ?_)
  have hP : va_P D vwCl [(h, .inr (6, [.ref q_1, .null, .null, .null, .null, .null, .null, .null, .null, .null, .null, .int 0])), (q_1, .inl (k_2, 1024, .inl (fun _ => 0))), (q_3, .inl (k_4, 1024, .inl (fun _ => 0)))] H := hP
  have hD : va_D A [(h, .inr (6, [.ref q_1, .null, .null, .null, .null, .null, .null, .null, .null, .null, .null, .int 0])), (q_1, .inl (k_2, 1024, .inl (fun _ => 0))), (q_3, .inl (k_4, 1024, .inl (fun _ => 0)))] := hD
  have hK : va_K D vwCl [(k_2, .int), (k_4, .int)] s := hK
  refine W.widen (k := 2) (n := 2048) (by decide) (Nat.le_of_ble_eq_true rfl) ?_
  refine va_putF (D := D) (ci := 6) (v := .ref q_3) (ty := .array .int) (C := RX6) (T := TX6) (N := 12) hx hb hts hiX6 tyX6 tyX6_ok nmX6 hown hK hP hD hS 0 rfl rfl 1 (by decide) (hts (.fieldLink RX6 15 "DynamicLogicProver$Pool" "lefts" "[I") (mo_X6_init 5 rfl)) (fun _ h9 => h9) rfl hin rfl (tyX6_ok 1 (by decide)) rfl rfl (Nat.le_of_ble_eq_true rfl) dX6_init_19 (fun H locs hP hD hS => ?_)
  have hP : va_P D vwCl [(h, .inr (6, [.ref q_1, .ref q_3, .null, .null, .null, .null, .null, .null, .null, .null, .null, .int 0])), (q_1, .inl (k_2, 1024, .inl (fun _ => 0))), (q_3, .inl (k_4, 1024, .inl (fun _ => 0)))] H := hP
  have hD : va_D A [(h, .inr (6, [.ref q_1, .ref q_3, .null, .null, .null, .null, .null, .null, .null, .null, .null, .int 0])), (q_1, .inl (k_2, 1024, .inl (fun _ => 0))), (q_3, .inl (k_4, 1024, .inl (fun _ => 0)))] := hD
  refine lv_aload_n hx hb dX6_init_22 rfl (lv_at hl 0 rfl) ?_
  refine lv_sipush (v := 1024) hx hb dX6_init_23 (by decide) ?_
  refine va_newa (atype := .int) (ty := .int) (a0 := (1024, .inl (fun _ => 0))) hx hb (hts (.arrayClass .int) (mo_X6_init 3 rfl)) rfl hK hP hD hS hA (fun _ => rfl) (by decide) (N' := 1024) (by decide) (by decide) (Nat.le_of_ble_eq_true rfl) (Nat.le_of_ble_eq_true rfl) dX6_init_26 (fun q_5 k_6 H hK hP hD hS => ?_)
  have hP : va_P D vwCl [(h, .inr (6, [.ref q_1, .ref q_3, .null, .null, .null, .null, .null, .null, .null, .null, .null, .int 0])), (q_1, .inl (k_2, 1024, .inl (fun _ => 0))), (q_3, .inl (k_4, 1024, .inl (fun _ => 0))), (q_5, .inl (k_6, 1024, .inl (fun _ => 0)))] H := hP
  have hD : va_D A [(h, .inr (6, [.ref q_1, .ref q_3, .null, .null, .null, .null, .null, .null, .null, .null, .null, .int 0])), (q_1, .inl (k_2, 1024, .inl (fun _ => 0))), (q_3, .inl (k_4, 1024, .inl (fun _ => 0))), (q_5, .inl (k_6, 1024, .inl (fun _ => 0)))] := hD
  have hK : va_K D vwCl [(k_2, .int), (k_4, .int), (k_6, .int)] s := hK
  refine W.widen (k := 3) (n := 3072) (by decide) (Nat.le_of_ble_eq_true rfl) ?_
  refine va_putF (D := D) (ci := 6) (v := .ref q_5) (ty := .array .int) (C := RX6) (T := TX6) (N := 12) hx hb hts hiX6 tyX6 tyX6_ok nmX6 hown hK hP hD hS 0 rfl rfl 2 (by decide) (hts (.fieldLink RX6 18 "DynamicLogicProver$Pool" "rights" "[I") (mo_X6_init 6 rfl)) (fun _ h9 => h9) rfl hin rfl (tyX6_ok 2 (by decide)) rfl rfl (Nat.le_of_ble_eq_true rfl) dX6_init_28 (fun H locs hP hD hS => ?_)
  have hP : va_P D vwCl [(h, .inr (6, [.ref q_1, .ref q_3, .ref q_5, .null, .null, .null, .null, .null, .null, .null, .null, .int 0])), (q_1, .inl (k_2, 1024, .inl (fun _ => 0))), (q_3, .inl (k_4, 1024, .inl (fun _ => 0))), (q_5, .inl (k_6, 1024, .inl (fun _ => 0)))] H := hP
  have hD : va_D A [(h, .inr (6, [.ref q_1, .ref q_3, .ref q_5, .null, .null, .null, .null, .null, .null, .null, .null, .int 0])), (q_1, .inl (k_2, 1024, .inl (fun _ => 0))), (q_3, .inl (k_4, 1024, .inl (fun _ => 0))), (q_5, .inl (k_6, 1024, .inl (fun _ => 0)))] := hD
  refine lv_aload_n hx hb dX6_init_31 rfl (lv_at hl 0 rfl) ?_
  refine lv_sipush (v := 1024) hx hb dX6_init_32 (by decide) ?_
  refine va_newa (atype := .int) (ty := .int) (a0 := (1024, .inl (fun _ => 0))) hx hb (hts (.arrayClass .int) (mo_X6_init 3 rfl)) rfl hK hP hD hS hA (fun _ => rfl) (by decide) (N' := 1024) (by decide) (by decide) (Nat.le_of_ble_eq_true rfl) (Nat.le_of_ble_eq_true rfl) dX6_init_35 (fun q_7 k_8 H hK hP hD hS => ?_)
  have hP : va_P D vwCl [(h, .inr (6, [.ref q_1, .ref q_3, .ref q_5, .null, .null, .null, .null, .null, .null, .null, .null, .int 0])), (q_1, .inl (k_2, 1024, .inl (fun _ => 0))), (q_3, .inl (k_4, 1024, .inl (fun _ => 0))), (q_5, .inl (k_6, 1024, .inl (fun _ => 0))), (q_7, .inl (k_8, 1024, .inl (fun _ => 0)))] H := hP
  have hD : va_D A [(h, .inr (6, [.ref q_1, .ref q_3, .ref q_5, .null, .null, .null, .null, .null, .null, .null, .null, .int 0])), (q_1, .inl (k_2, 1024, .inl (fun _ => 0))), (q_3, .inl (k_4, 1024, .inl (fun _ => 0))), (q_5, .inl (k_6, 1024, .inl (fun _ => 0))), (q_7, .inl (k_8, 1024, .inl (fun _ => 0)))] := hD
  have hK : va_K D vwCl [(k_2, .int), (k_4, .int), (k_6, .int), (k_8, .int)] s := hK
  refine W.widen (k := 4) (n := 4096) (by decide) (Nat.le_of_ble_eq_true rfl) ?_
  refine va_putF (D := D) (ci := 6) (v := .ref q_7) (ty := .array .int) (C := RX6) (T := TX6) (N := 12) hx hb hts hiX6 tyX6 tyX6_ok nmX6 hown hK hP hD hS 0 rfl rfl 3 (by decide) (hts (.fieldLink RX6 21 "DynamicLogicProver$Pool" "sizes" "[I") (mo_X6_init 7 rfl)) (fun _ h9 => h9) rfl hin rfl (tyX6_ok 3 (by decide)) rfl rfl (Nat.le_of_ble_eq_true rfl) dX6_init_37 (fun H locs hP hD hS => ?_)
  have hP : va_P D vwCl [(h, .inr (6, [.ref q_1, .ref q_3, .ref q_5, .ref q_7, .null, .null, .null, .null, .null, .null, .null, .int 0])), (q_1, .inl (k_2, 1024, .inl (fun _ => 0))), (q_3, .inl (k_4, 1024, .inl (fun _ => 0))), (q_5, .inl (k_6, 1024, .inl (fun _ => 0))), (q_7, .inl (k_8, 1024, .inl (fun _ => 0)))] H := hP
  have hD : va_D A [(h, .inr (6, [.ref q_1, .ref q_3, .ref q_5, .ref q_7, .null, .null, .null, .null, .null, .null, .null, .int 0])), (q_1, .inl (k_2, 1024, .inl (fun _ => 0))), (q_3, .inl (k_4, 1024, .inl (fun _ => 0))), (q_5, .inl (k_6, 1024, .inl (fun _ => 0))), (q_7, .inl (k_8, 1024, .inl (fun _ => 0)))] := hD
  refine lv_aload_n hx hb dX6_init_40 rfl (lv_at hl 0 rfl) ?_
  refine lv_sipush (v := 1024) hx hb dX6_init_41 (by decide) ?_
  refine va_newa (atype := .int) (ty := .int) (a0 := (1024, .inl (fun _ => 0))) hx hb (hts (.arrayClass .int) (mo_X6_init 3 rfl)) rfl hK hP hD hS hA (fun _ => rfl) (by decide) (N' := 1024) (by decide) (by decide) (Nat.le_of_ble_eq_true rfl) (Nat.le_of_ble_eq_true rfl) dX6_init_44 (fun q_9 k_10 H hK hP hD hS => ?_)
  have hP : va_P D vwCl [(h, .inr (6, [.ref q_1, .ref q_3, .ref q_5, .ref q_7, .null, .null, .null, .null, .null, .null, .null, .int 0])), (q_1, .inl (k_2, 1024, .inl (fun _ => 0))), (q_3, .inl (k_4, 1024, .inl (fun _ => 0))), (q_5, .inl (k_6, 1024, .inl (fun _ => 0))), (q_7, .inl (k_8, 1024, .inl (fun _ => 0))), (q_9, .inl (k_10, 1024, .inl (fun _ => 0)))] H := hP
  have hD : va_D A [(h, .inr (6, [.ref q_1, .ref q_3, .ref q_5, .ref q_7, .null, .null, .null, .null, .null, .null, .null, .int 0])), (q_1, .inl (k_2, 1024, .inl (fun _ => 0))), (q_3, .inl (k_4, 1024, .inl (fun _ => 0))), (q_5, .inl (k_6, 1024, .inl (fun _ => 0))), (q_7, .inl (k_8, 1024, .inl (fun _ => 0))), (q_9, .inl (k_10, 1024, .inl (fun _ => 0)))] := hD
  have hK : va_K D vwCl [(k_2, .int), (k_4, .int), (k_6, .int), (k_8, .int), (k_10, .int)] s := hK
  refine W.widen (k := 5) (n := 5120) (by decide) (Nat.le_of_ble_eq_true rfl) ?_
  refine va_putF (D := D) (ci := 6) (v := .ref q_9) (ty := .array .int) (C := RX6) (T := TX6) (N := 12) hx hb hts hiX6 tyX6 tyX6_ok nmX6 hown hK hP hD hS 0 rfl rfl 4 (by decide) (hts (.fieldLink RX6 24 "DynamicLogicProver$Pool" "heights" "[I") (mo_X6_init 8 rfl)) (fun _ h9 => h9) rfl hin rfl (tyX6_ok 4 (by decide)) rfl rfl (Nat.le_of_ble_eq_true rfl) dX6_init_46 (fun H locs hP hD hS => ?_)
  have hP : va_P D vwCl [(h, .inr (6, [.ref q_1, .ref q_3, .ref q_5, .ref q_7, .ref q_9, .null, .null, .null, .null, .null, .null, .int 0])), (q_1, .inl (k_2, 1024, .inl (fun _ => 0))), (q_3, .inl (k_4, 1024, .inl (fun _ => 0))), (q_5, .inl (k_6, 1024, .inl (fun _ => 0))), (q_7, .inl (k_8, 1024, .inl (fun _ => 0))), (q_9, .inl (k_10, 1024, .inl (fun _ => 0)))] H := hP
  have hD : va_D A [(h, .inr (6, [.ref q_1, .ref q_3, .ref q_5, .ref q_7, .ref q_9, .null, .null, .null, .null, .null, .null, .int 0])), (q_1, .inl (k_2, 1024, .inl (fun _ => 0))), (q_3, .inl (k_4, 1024, .inl (fun _ => 0))), (q_5, .inl (k_6, 1024, .inl (fun _ => 0))), (q_7, .inl (k_8, 1024, .inl (fun _ => 0))), (q_9, .inl (k_10, 1024, .inl (fun _ => 0)))] := hD
  refine lv_aload_n hx hb dX6_init_49 rfl (lv_at hl 0 rfl) ?_
  refine lv_sipush (v := 1024) hx hb dX6_init_50 (by decide) ?_
  refine va_newa (atype := .int) (ty := .int) (a0 := (1024, .inl (fun _ => 0))) hx hb (hts (.arrayClass .int) (mo_X6_init 3 rfl)) rfl hK hP hD hS hA (fun _ => rfl) (by decide) (N' := 1024) (by decide) (by decide) (Nat.le_of_ble_eq_true rfl) (Nat.le_of_ble_eq_true rfl) dX6_init_53 (fun q_11 k_12 H hK hP hD hS => ?_)
  have hP : va_P D vwCl [(h, .inr (6, [.ref q_1, .ref q_3, .ref q_5, .ref q_7, .ref q_9, .null, .null, .null, .null, .null, .null, .int 0])), (q_1, .inl (k_2, 1024, .inl (fun _ => 0))), (q_3, .inl (k_4, 1024, .inl (fun _ => 0))), (q_5, .inl (k_6, 1024, .inl (fun _ => 0))), (q_7, .inl (k_8, 1024, .inl (fun _ => 0))), (q_9, .inl (k_10, 1024, .inl (fun _ => 0))), (q_11, .inl (k_12, 1024, .inl (fun _ => 0)))] H := hP
  have hD : va_D A [(h, .inr (6, [.ref q_1, .ref q_3, .ref q_5, .ref q_7, .ref q_9, .null, .null, .null, .null, .null, .null, .int 0])), (q_1, .inl (k_2, 1024, .inl (fun _ => 0))), (q_3, .inl (k_4, 1024, .inl (fun _ => 0))), (q_5, .inl (k_6, 1024, .inl (fun _ => 0))), (q_7, .inl (k_8, 1024, .inl (fun _ => 0))), (q_9, .inl (k_10, 1024, .inl (fun _ => 0))), (q_11, .inl (k_12, 1024, .inl (fun _ => 0)))] := hD
  have hK : va_K D vwCl [(k_2, .int), (k_4, .int), (k_6, .int), (k_8, .int), (k_10, .int), (k_12, .int)] s := hK
  refine W.widen (k := 6) (n := 6144) (by decide) (Nat.le_of_ble_eq_true rfl) ?_
  refine va_putF (D := D) (ci := 6) (v := .ref q_11) (ty := .array .int) (C := RX6) (T := TX6) (N := 12) hx hb hts hiX6 tyX6 tyX6_ok nmX6 hown hK hP hD hS 0 rfl rfl 5 (by decide) (hts (.fieldLink RX6 27 "DynamicLogicProver$Pool" "lengths" "[I") (mo_X6_init 9 rfl)) (fun _ h9 => h9) rfl hin rfl (tyX6_ok 5 (by decide)) rfl rfl (Nat.le_of_ble_eq_true rfl) dX6_init_55 (fun H locs hP hD hS => ?_)
  have hP : va_P D vwCl [(h, .inr (6, [.ref q_1, .ref q_3, .ref q_5, .ref q_7, .ref q_9, .ref q_11, .null, .null, .null, .null, .null, .int 0])), (q_1, .inl (k_2, 1024, .inl (fun _ => 0))), (q_3, .inl (k_4, 1024, .inl (fun _ => 0))), (q_5, .inl (k_6, 1024, .inl (fun _ => 0))), (q_7, .inl (k_8, 1024, .inl (fun _ => 0))), (q_9, .inl (k_10, 1024, .inl (fun _ => 0))), (q_11, .inl (k_12, 1024, .inl (fun _ => 0)))] H := hP
  have hD : va_D A [(h, .inr (6, [.ref q_1, .ref q_3, .ref q_5, .ref q_7, .ref q_9, .ref q_11, .null, .null, .null, .null, .null, .int 0])), (q_1, .inl (k_2, 1024, .inl (fun _ => 0))), (q_3, .inl (k_4, 1024, .inl (fun _ => 0))), (q_5, .inl (k_6, 1024, .inl (fun _ => 0))), (q_7, .inl (k_8, 1024, .inl (fun _ => 0))), (q_9, .inl (k_10, 1024, .inl (fun _ => 0))), (q_11, .inl (k_12, 1024, .inl (fun _ => 0)))] := hD
  refine lv_aload_n hx hb dX6_init_58 rfl (lv_at hl 0 rfl) ?_
  refine lv_sipush (v := 1024) hx hb dX6_init_59 (by decide) ?_
  refine va_newa (atype := .int) (ty := .int) (a0 := (1024, .inl (fun _ => 0))) hx hb (hts (.arrayClass .int) (mo_X6_init 3 rfl)) rfl hK hP hD hS hA (fun _ => rfl) (by decide) (N' := 1024) (by decide) (by decide) (Nat.le_of_ble_eq_true rfl) (Nat.le_of_ble_eq_true rfl) dX6_init_62 (fun q_13 k_14 H hK hP hD hS => ?_)
  have hP : va_P D vwCl [(h, .inr (6, [.ref q_1, .ref q_3, .ref q_5, .ref q_7, .ref q_9, .ref q_11, .null, .null, .null, .null, .null, .int 0])), (q_1, .inl (k_2, 1024, .inl (fun _ => 0))), (q_3, .inl (k_4, 1024, .inl (fun _ => 0))), (q_5, .inl (k_6, 1024, .inl (fun _ => 0))), (q_7, .inl (k_8, 1024, .inl (fun _ => 0))), (q_9, .inl (k_10, 1024, .inl (fun _ => 0))), (q_11, .inl (k_12, 1024, .inl (fun _ => 0))), (q_13, .inl (k_14, 1024, .inl (fun _ => 0)))] H := hP
  have hD : va_D A [(h, .inr (6, [.ref q_1, .ref q_3, .ref q_5, .ref q_7, .ref q_9, .ref q_11, .null, .null, .null, .null, .null, .int 0])), (q_1, .inl (k_2, 1024, .inl (fun _ => 0))), (q_3, .inl (k_4, 1024, .inl (fun _ => 0))), (q_5, .inl (k_6, 1024, .inl (fun _ => 0))), (q_7, .inl (k_8, 1024, .inl (fun _ => 0))), (q_9, .inl (k_10, 1024, .inl (fun _ => 0))), (q_11, .inl (k_12, 1024, .inl (fun _ => 0))), (q_13, .inl (k_14, 1024, .inl (fun _ => 0)))] := hD
  have hK : va_K D vwCl [(k_2, .int), (k_4, .int), (k_6, .int), (k_8, .int), (k_10, .int), (k_12, .int), (k_14, .int)] s := hK
  refine W.widen (k := 7) (n := 7168) (by decide) (Nat.le_of_ble_eq_true rfl) ?_
  refine va_putF (D := D) (ci := 6) (v := .ref q_13) (ty := .array .int) (C := RX6) (T := TX6) (N := 12) hx hb hts hiX6 tyX6 tyX6_ok nmX6 hown hK hP hD hS 0 rfl rfl 6 (by decide) (hts (.fieldLink RX6 30 "DynamicLogicProver$Pool" "chains" "[I") (mo_X6_init 10 rfl)) (fun _ h9 => h9) rfl hin rfl (tyX6_ok 6 (by decide)) rfl rfl (Nat.le_of_ble_eq_true rfl) dX6_init_64 (fun H locs hP hD hS => ?_)
  have hP : va_P D vwCl [(h, .inr (6, [.ref q_1, .ref q_3, .ref q_5, .ref q_7, .ref q_9, .ref q_11, .ref q_13, .null, .null, .null, .null, .int 0])), (q_1, .inl (k_2, 1024, .inl (fun _ => 0))), (q_3, .inl (k_4, 1024, .inl (fun _ => 0))), (q_5, .inl (k_6, 1024, .inl (fun _ => 0))), (q_7, .inl (k_8, 1024, .inl (fun _ => 0))), (q_9, .inl (k_10, 1024, .inl (fun _ => 0))), (q_11, .inl (k_12, 1024, .inl (fun _ => 0))), (q_13, .inl (k_14, 1024, .inl (fun _ => 0)))] H := hP
  have hD : va_D A [(h, .inr (6, [.ref q_1, .ref q_3, .ref q_5, .ref q_7, .ref q_9, .ref q_11, .ref q_13, .null, .null, .null, .null, .int 0])), (q_1, .inl (k_2, 1024, .inl (fun _ => 0))), (q_3, .inl (k_4, 1024, .inl (fun _ => 0))), (q_5, .inl (k_6, 1024, .inl (fun _ => 0))), (q_7, .inl (k_8, 1024, .inl (fun _ => 0))), (q_9, .inl (k_10, 1024, .inl (fun _ => 0))), (q_11, .inl (k_12, 1024, .inl (fun _ => 0))), (q_13, .inl (k_14, 1024, .inl (fun _ => 0)))] := hD
  refine lv_aload_n hx hb dX6_init_67 rfl (lv_at hl 0 rfl) ?_
  refine lv_sipush (v := 256) hx hb dX6_init_68 (by decide) ?_
  refine va_newa (atype := .int) (ty := .int) (a0 := (256, .inl (fun _ => 0))) hx hb (hts (.arrayClass .int) (mo_X6_init 3 rfl)) rfl hK hP hD hS hA (fun _ => rfl) (by decide) (N' := 256) (by decide) (by decide) (Nat.le_of_ble_eq_true rfl) (Nat.le_of_ble_eq_true rfl) dX6_init_71 (fun q_15 k_16 H hK hP hD hS => ?_)
  have hP : va_P D vwCl [(h, .inr (6, [.ref q_1, .ref q_3, .ref q_5, .ref q_7, .ref q_9, .ref q_11, .ref q_13, .null, .null, .null, .null, .int 0])), (q_1, .inl (k_2, 1024, .inl (fun _ => 0))), (q_3, .inl (k_4, 1024, .inl (fun _ => 0))), (q_5, .inl (k_6, 1024, .inl (fun _ => 0))), (q_7, .inl (k_8, 1024, .inl (fun _ => 0))), (q_9, .inl (k_10, 1024, .inl (fun _ => 0))), (q_11, .inl (k_12, 1024, .inl (fun _ => 0))), (q_13, .inl (k_14, 1024, .inl (fun _ => 0))), (q_15, .inl (k_16, 256, .inl (fun _ => 0)))] H := hP
  have hD : va_D A [(h, .inr (6, [.ref q_1, .ref q_3, .ref q_5, .ref q_7, .ref q_9, .ref q_11, .ref q_13, .null, .null, .null, .null, .int 0])), (q_1, .inl (k_2, 1024, .inl (fun _ => 0))), (q_3, .inl (k_4, 1024, .inl (fun _ => 0))), (q_5, .inl (k_6, 1024, .inl (fun _ => 0))), (q_7, .inl (k_8, 1024, .inl (fun _ => 0))), (q_9, .inl (k_10, 1024, .inl (fun _ => 0))), (q_11, .inl (k_12, 1024, .inl (fun _ => 0))), (q_13, .inl (k_14, 1024, .inl (fun _ => 0))), (q_15, .inl (k_16, 256, .inl (fun _ => 0)))] := hD
  have hK : va_K D vwCl [(k_2, .int), (k_4, .int), (k_6, .int), (k_8, .int), (k_10, .int), (k_12, .int), (k_14, .int), (k_16, .int)] s := hK
  refine W.widen (k := 8) (n := 7424) (by decide) (Nat.le_of_ble_eq_true rfl) ?_
  refine va_putF (D := D) (ci := 6) (v := .ref q_15) (ty := .array .int) (C := RX6) (T := TX6) (N := 12) hx hb hts hiX6 tyX6 tyX6_ok nmX6 hown hK hP hD hS 0 rfl rfl 7 (by decide) (hts (.fieldLink RX6 33 "DynamicLogicProver$Pool" "heads" "[I") (mo_X6_init 11 rfl)) (fun _ h9 => h9) rfl hin rfl (tyX6_ok 7 (by decide)) rfl rfl (Nat.le_of_ble_eq_true rfl) dX6_init_73 (fun H locs hP hD hS => ?_)
  have hP : va_P D vwCl [(h, .inr (6, [.ref q_1, .ref q_3, .ref q_5, .ref q_7, .ref q_9, .ref q_11, .ref q_13, .ref q_15, .null, .null, .null, .int 0])), (q_1, .inl (k_2, 1024, .inl (fun _ => 0))), (q_3, .inl (k_4, 1024, .inl (fun _ => 0))), (q_5, .inl (k_6, 1024, .inl (fun _ => 0))), (q_7, .inl (k_8, 1024, .inl (fun _ => 0))), (q_9, .inl (k_10, 1024, .inl (fun _ => 0))), (q_11, .inl (k_12, 1024, .inl (fun _ => 0))), (q_13, .inl (k_14, 1024, .inl (fun _ => 0))), (q_15, .inl (k_16, 256, .inl (fun _ => 0)))] H := hP
  have hD : va_D A [(h, .inr (6, [.ref q_1, .ref q_3, .ref q_5, .ref q_7, .ref q_9, .ref q_11, .ref q_13, .ref q_15, .null, .null, .null, .int 0])), (q_1, .inl (k_2, 1024, .inl (fun _ => 0))), (q_3, .inl (k_4, 1024, .inl (fun _ => 0))), (q_5, .inl (k_6, 1024, .inl (fun _ => 0))), (q_7, .inl (k_8, 1024, .inl (fun _ => 0))), (q_9, .inl (k_10, 1024, .inl (fun _ => 0))), (q_11, .inl (k_12, 1024, .inl (fun _ => 0))), (q_13, .inl (k_14, 1024, .inl (fun _ => 0))), (q_15, .inl (k_16, 256, .inl (fun _ => 0)))] := hD
  refine lv_aload_n hx hb dX6_init_76 rfl (lv_at hl 0 rfl) ?_
  refine lv_sipush (v := 2048) hx hb dX6_init_77 (by decide) ?_
  refine va_newa (atype := .int) (ty := .int) (a0 := (2048, .inl (fun _ => 0))) hx hb (hts (.arrayClass .int) (mo_X6_init 3 rfl)) rfl hK hP hD hS hA (fun _ => rfl) (by decide) (N' := 2048) (by decide) (by decide) (Nat.le_of_ble_eq_true rfl) (Nat.le_of_ble_eq_true rfl) dX6_init_80 (fun q_17 k_18 H hK hP hD hS => ?_)
  have hP : va_P D vwCl [(h, .inr (6, [.ref q_1, .ref q_3, .ref q_5, .ref q_7, .ref q_9, .ref q_11, .ref q_13, .ref q_15, .null, .null, .null, .int 0])), (q_1, .inl (k_2, 1024, .inl (fun _ => 0))), (q_3, .inl (k_4, 1024, .inl (fun _ => 0))), (q_5, .inl (k_6, 1024, .inl (fun _ => 0))), (q_7, .inl (k_8, 1024, .inl (fun _ => 0))), (q_9, .inl (k_10, 1024, .inl (fun _ => 0))), (q_11, .inl (k_12, 1024, .inl (fun _ => 0))), (q_13, .inl (k_14, 1024, .inl (fun _ => 0))), (q_15, .inl (k_16, 256, .inl (fun _ => 0))), (q_17, .inl (k_18, 2048, .inl (fun _ => 0)))] H := hP
  have hD : va_D A [(h, .inr (6, [.ref q_1, .ref q_3, .ref q_5, .ref q_7, .ref q_9, .ref q_11, .ref q_13, .ref q_15, .null, .null, .null, .int 0])), (q_1, .inl (k_2, 1024, .inl (fun _ => 0))), (q_3, .inl (k_4, 1024, .inl (fun _ => 0))), (q_5, .inl (k_6, 1024, .inl (fun _ => 0))), (q_7, .inl (k_8, 1024, .inl (fun _ => 0))), (q_9, .inl (k_10, 1024, .inl (fun _ => 0))), (q_11, .inl (k_12, 1024, .inl (fun _ => 0))), (q_13, .inl (k_14, 1024, .inl (fun _ => 0))), (q_15, .inl (k_16, 256, .inl (fun _ => 0))), (q_17, .inl (k_18, 2048, .inl (fun _ => 0)))] := hD
  have hK : va_K D vwCl [(k_2, .int), (k_4, .int), (k_6, .int), (k_8, .int), (k_10, .int), (k_12, .int), (k_14, .int), (k_16, .int), (k_18, .int)] s := hK
  refine W.widen (k := 9) (n := 9472) (by decide) (Nat.le_of_ble_eq_true rfl) ?_
  refine va_putF (D := D) (ci := 6) (v := .ref q_17) (ty := .array .int) (C := RX6) (T := TX6) (N := 12) hx hb hts hiX6 tyX6 tyX6_ok nmX6 hown hK hP hD hS 0 rfl rfl 8 (by decide) (hts (.fieldLink RX6 36 "DynamicLogicProver$Pool" "pending" "[I") (mo_X6_init 12 rfl)) (fun _ h9 => h9) rfl hin rfl (tyX6_ok 8 (by decide)) rfl rfl (Nat.le_of_ble_eq_true rfl) dX6_init_82 (fun H locs hP hD hS => ?_)
  have hP : va_P D vwCl [(h, .inr (6, [.ref q_1, .ref q_3, .ref q_5, .ref q_7, .ref q_9, .ref q_11, .ref q_13, .ref q_15, .ref q_17, .null, .null, .int 0])), (q_1, .inl (k_2, 1024, .inl (fun _ => 0))), (q_3, .inl (k_4, 1024, .inl (fun _ => 0))), (q_5, .inl (k_6, 1024, .inl (fun _ => 0))), (q_7, .inl (k_8, 1024, .inl (fun _ => 0))), (q_9, .inl (k_10, 1024, .inl (fun _ => 0))), (q_11, .inl (k_12, 1024, .inl (fun _ => 0))), (q_13, .inl (k_14, 1024, .inl (fun _ => 0))), (q_15, .inl (k_16, 256, .inl (fun _ => 0))), (q_17, .inl (k_18, 2048, .inl (fun _ => 0)))] H := hP
  have hD : va_D A [(h, .inr (6, [.ref q_1, .ref q_3, .ref q_5, .ref q_7, .ref q_9, .ref q_11, .ref q_13, .ref q_15, .ref q_17, .null, .null, .int 0])), (q_1, .inl (k_2, 1024, .inl (fun _ => 0))), (q_3, .inl (k_4, 1024, .inl (fun _ => 0))), (q_5, .inl (k_6, 1024, .inl (fun _ => 0))), (q_7, .inl (k_8, 1024, .inl (fun _ => 0))), (q_9, .inl (k_10, 1024, .inl (fun _ => 0))), (q_11, .inl (k_12, 1024, .inl (fun _ => 0))), (q_13, .inl (k_14, 1024, .inl (fun _ => 0))), (q_15, .inl (k_16, 256, .inl (fun _ => 0))), (q_17, .inl (k_18, 2048, .inl (fun _ => 0)))] := hD
  refine lv_aload_n hx hb dX6_init_85 rfl (lv_at hl 0 rfl) ?_
  refine lv_sipush (v := 2048) hx hb dX6_init_86 (by decide) ?_
  refine va_newa (atype := .int) (ty := .int) (a0 := (2048, .inl (fun _ => 0))) hx hb (hts (.arrayClass .int) (mo_X6_init 3 rfl)) rfl hK hP hD hS hA (fun _ => rfl) (by decide) (N' := 2048) (by decide) (by decide) (Nat.le_of_ble_eq_true rfl) (Nat.le_of_ble_eq_true rfl) dX6_init_89 (fun q_19 k_20 H hK hP hD hS => ?_)
  have hP : va_P D vwCl [(h, .inr (6, [.ref q_1, .ref q_3, .ref q_5, .ref q_7, .ref q_9, .ref q_11, .ref q_13, .ref q_15, .ref q_17, .null, .null, .int 0])), (q_1, .inl (k_2, 1024, .inl (fun _ => 0))), (q_3, .inl (k_4, 1024, .inl (fun _ => 0))), (q_5, .inl (k_6, 1024, .inl (fun _ => 0))), (q_7, .inl (k_8, 1024, .inl (fun _ => 0))), (q_9, .inl (k_10, 1024, .inl (fun _ => 0))), (q_11, .inl (k_12, 1024, .inl (fun _ => 0))), (q_13, .inl (k_14, 1024, .inl (fun _ => 0))), (q_15, .inl (k_16, 256, .inl (fun _ => 0))), (q_17, .inl (k_18, 2048, .inl (fun _ => 0))), (q_19, .inl (k_20, 2048, .inl (fun _ => 0)))] H := hP
  have hD : va_D A [(h, .inr (6, [.ref q_1, .ref q_3, .ref q_5, .ref q_7, .ref q_9, .ref q_11, .ref q_13, .ref q_15, .ref q_17, .null, .null, .int 0])), (q_1, .inl (k_2, 1024, .inl (fun _ => 0))), (q_3, .inl (k_4, 1024, .inl (fun _ => 0))), (q_5, .inl (k_6, 1024, .inl (fun _ => 0))), (q_7, .inl (k_8, 1024, .inl (fun _ => 0))), (q_9, .inl (k_10, 1024, .inl (fun _ => 0))), (q_11, .inl (k_12, 1024, .inl (fun _ => 0))), (q_13, .inl (k_14, 1024, .inl (fun _ => 0))), (q_15, .inl (k_16, 256, .inl (fun _ => 0))), (q_17, .inl (k_18, 2048, .inl (fun _ => 0))), (q_19, .inl (k_20, 2048, .inl (fun _ => 0)))] := hD
  have hK : va_K D vwCl [(k_2, .int), (k_4, .int), (k_6, .int), (k_8, .int), (k_10, .int), (k_12, .int), (k_14, .int), (k_16, .int), (k_18, .int), (k_20, .int)] s := hK
  refine W.widen (k := 10) (n := 11520) (by decide) (Nat.le_of_ble_eq_true rfl) ?_
  refine va_putF (D := D) (ci := 6) (v := .ref q_19) (ty := .array .int) (C := RX6) (T := TX6) (N := 12) hx hb hts hiX6 tyX6 tyX6_ok nmX6 hown hK hP hD hS 0 rfl rfl 9 (by decide) (hts (.fieldLink RX6 39 "DynamicLogicProver$Pool" "here" "[I") (mo_X6_init 13 rfl)) (fun _ h9 => h9) rfl hin rfl (tyX6_ok 9 (by decide)) rfl rfl (Nat.le_of_ble_eq_true rfl) dX6_init_91 (fun H locs hP hD hS => ?_)
  have hP : va_P D vwCl [(h, .inr (6, [.ref q_1, .ref q_3, .ref q_5, .ref q_7, .ref q_9, .ref q_11, .ref q_13, .ref q_15, .ref q_17, .ref q_19, .null, .int 0])), (q_1, .inl (k_2, 1024, .inl (fun _ => 0))), (q_3, .inl (k_4, 1024, .inl (fun _ => 0))), (q_5, .inl (k_6, 1024, .inl (fun _ => 0))), (q_7, .inl (k_8, 1024, .inl (fun _ => 0))), (q_9, .inl (k_10, 1024, .inl (fun _ => 0))), (q_11, .inl (k_12, 1024, .inl (fun _ => 0))), (q_13, .inl (k_14, 1024, .inl (fun _ => 0))), (q_15, .inl (k_16, 256, .inl (fun _ => 0))), (q_17, .inl (k_18, 2048, .inl (fun _ => 0))), (q_19, .inl (k_20, 2048, .inl (fun _ => 0)))] H := hP
  have hD : va_D A [(h, .inr (6, [.ref q_1, .ref q_3, .ref q_5, .ref q_7, .ref q_9, .ref q_11, .ref q_13, .ref q_15, .ref q_17, .ref q_19, .null, .int 0])), (q_1, .inl (k_2, 1024, .inl (fun _ => 0))), (q_3, .inl (k_4, 1024, .inl (fun _ => 0))), (q_5, .inl (k_6, 1024, .inl (fun _ => 0))), (q_7, .inl (k_8, 1024, .inl (fun _ => 0))), (q_9, .inl (k_10, 1024, .inl (fun _ => 0))), (q_11, .inl (k_12, 1024, .inl (fun _ => 0))), (q_13, .inl (k_14, 1024, .inl (fun _ => 0))), (q_15, .inl (k_16, 256, .inl (fun _ => 0))), (q_17, .inl (k_18, 2048, .inl (fun _ => 0))), (q_19, .inl (k_20, 2048, .inl (fun _ => 0)))] := hD
  refine lv_aload_n hx hb dX6_init_94 rfl (lv_at hl 0 rfl) ?_
  refine lv_sipush (v := 2048) hx hb dX6_init_95 (by decide) ?_
  refine va_newa (atype := .int) (ty := .int) (a0 := (2048, .inl (fun _ => 0))) hx hb (hts (.arrayClass .int) (mo_X6_init 3 rfl)) rfl hK hP hD hS hA (fun _ => rfl) (by decide) (N' := 2048) (by decide) (by decide) (Nat.le_of_ble_eq_true rfl) (Nat.le_of_ble_eq_true rfl) dX6_init_98 (fun q_21 k_22 H hK hP hD hS => ?_)
  have hP : va_P D vwCl [(h, .inr (6, [.ref q_1, .ref q_3, .ref q_5, .ref q_7, .ref q_9, .ref q_11, .ref q_13, .ref q_15, .ref q_17, .ref q_19, .null, .int 0])), (q_1, .inl (k_2, 1024, .inl (fun _ => 0))), (q_3, .inl (k_4, 1024, .inl (fun _ => 0))), (q_5, .inl (k_6, 1024, .inl (fun _ => 0))), (q_7, .inl (k_8, 1024, .inl (fun _ => 0))), (q_9, .inl (k_10, 1024, .inl (fun _ => 0))), (q_11, .inl (k_12, 1024, .inl (fun _ => 0))), (q_13, .inl (k_14, 1024, .inl (fun _ => 0))), (q_15, .inl (k_16, 256, .inl (fun _ => 0))), (q_17, .inl (k_18, 2048, .inl (fun _ => 0))), (q_19, .inl (k_20, 2048, .inl (fun _ => 0))), (q_21, .inl (k_22, 2048, .inl (fun _ => 0)))] H := hP
  have hD : va_D A [(h, .inr (6, [.ref q_1, .ref q_3, .ref q_5, .ref q_7, .ref q_9, .ref q_11, .ref q_13, .ref q_15, .ref q_17, .ref q_19, .null, .int 0])), (q_1, .inl (k_2, 1024, .inl (fun _ => 0))), (q_3, .inl (k_4, 1024, .inl (fun _ => 0))), (q_5, .inl (k_6, 1024, .inl (fun _ => 0))), (q_7, .inl (k_8, 1024, .inl (fun _ => 0))), (q_9, .inl (k_10, 1024, .inl (fun _ => 0))), (q_11, .inl (k_12, 1024, .inl (fun _ => 0))), (q_13, .inl (k_14, 1024, .inl (fun _ => 0))), (q_15, .inl (k_16, 256, .inl (fun _ => 0))), (q_17, .inl (k_18, 2048, .inl (fun _ => 0))), (q_19, .inl (k_20, 2048, .inl (fun _ => 0))), (q_21, .inl (k_22, 2048, .inl (fun _ => 0)))] := hD
  have hK : va_K D vwCl [(k_2, .int), (k_4, .int), (k_6, .int), (k_8, .int), (k_10, .int), (k_12, .int), (k_14, .int), (k_16, .int), (k_18, .int), (k_20, .int), (k_22, .int)] s := hK
  refine W.widen (k := 11) (n := 13568) (by decide) (Nat.le_of_ble_eq_true rfl) ?_
  refine va_putF (D := D) (ci := 6) (v := .ref q_21) (ty := .array .int) (C := RX6) (T := TX6) (N := 12) hx hb hts hiX6 tyX6 tyX6_ok nmX6 hown hK hP hD hS 0 rfl rfl 10 (by decide) (hts (.fieldLink RX6 42 "DynamicLogicProver$Pool" "there" "[I") (mo_X6_init 14 rfl)) (fun _ h9 => h9) rfl hin rfl (tyX6_ok 10 (by decide)) rfl rfl (Nat.le_of_ble_eq_true rfl) dX6_init_100 (fun H locs hP hD hS => ?_)
  have hP : va_P D vwCl [(h, .inr (6, [.ref q_1, .ref q_3, .ref q_5, .ref q_7, .ref q_9, .ref q_11, .ref q_13, .ref q_15, .ref q_17, .ref q_19, .ref q_21, .int 0])), (q_1, .inl (k_2, 1024, .inl (fun _ => 0))), (q_3, .inl (k_4, 1024, .inl (fun _ => 0))), (q_5, .inl (k_6, 1024, .inl (fun _ => 0))), (q_7, .inl (k_8, 1024, .inl (fun _ => 0))), (q_9, .inl (k_10, 1024, .inl (fun _ => 0))), (q_11, .inl (k_12, 1024, .inl (fun _ => 0))), (q_13, .inl (k_14, 1024, .inl (fun _ => 0))), (q_15, .inl (k_16, 256, .inl (fun _ => 0))), (q_17, .inl (k_18, 2048, .inl (fun _ => 0))), (q_19, .inl (k_20, 2048, .inl (fun _ => 0))), (q_21, .inl (k_22, 2048, .inl (fun _ => 0)))] H := hP
  have hD : va_D A [(h, .inr (6, [.ref q_1, .ref q_3, .ref q_5, .ref q_7, .ref q_9, .ref q_11, .ref q_13, .ref q_15, .ref q_17, .ref q_19, .ref q_21, .int 0])), (q_1, .inl (k_2, 1024, .inl (fun _ => 0))), (q_3, .inl (k_4, 1024, .inl (fun _ => 0))), (q_5, .inl (k_6, 1024, .inl (fun _ => 0))), (q_7, .inl (k_8, 1024, .inl (fun _ => 0))), (q_9, .inl (k_10, 1024, .inl (fun _ => 0))), (q_11, .inl (k_12, 1024, .inl (fun _ => 0))), (q_13, .inl (k_14, 1024, .inl (fun _ => 0))), (q_15, .inl (k_16, 256, .inl (fun _ => 0))), (q_17, .inl (k_18, 2048, .inl (fun _ => 0))), (q_19, .inl (k_20, 2048, .inl (fun _ => 0))), (q_21, .inl (k_22, 2048, .inl (fun _ => 0)))] := hD
  refine lv_aload_n hx hb dX6_init_103 rfl (lv_at hl 0 rfl) ?_
  refine va_get (D := D) (ci := 6) (v := .ref q_15) (C := RX6) (T := TX6) (N := 12) hx hb hts hiX6 hown hK hP 0 rfl rfl 7 (by decide) (hts (.fieldLink RX6 33 "DynamicLogicProver$Pool" "heads" "[I") (mo_X6_init 11 rfl)) (fun _ h9 => h9) rfl dX6_init_104 ?_
  refine lv_iconst (v := (-1)) hx hb dX6_init_107 (by decide) ?_
  refine kc_Sv (As := [.ref q_15, .int (-1)]) (rest := []) (wr := [(h, .inr (6, [.ref q_1, .ref q_3, .ref q_5, .ref q_7, .ref q_9, .ref q_11, .ref q_13, .ref q_15, .ref q_17, .ref q_19, .ref q_21, .int 0])), (q_1, .inl (k_2, 1024, .inl (fun _ => 0))), (q_3, .inl (k_4, 1024, .inl (fun _ => 0))), (q_5, .inl (k_6, 1024, .inl (fun _ => 0))), (q_7, .inl (k_8, 1024, .inl (fun _ => 0))), (q_9, .inl (k_10, 1024, .inl (fun _ => 0))), (q_11, .inl (k_12, 1024, .inl (fun _ => 0))), (q_13, .inl (k_14, 1024, .inl (fun _ => 0))), (q_17, .inl (k_18, 2048, .inl (fun _ => 0))), (q_19, .inl (k_20, 2048, .inl (fun _ => 0))), (q_21, .inl (k_22, 2048, .inl (fun _ => 0)))]) ⟨hx, hb, hml, hown, hts⟩ (ct_J7_fill_53178 l D q_15 k_16 256 (fun _ => 0) (-1) _ (by decide)) (va_cwS 2 hts (kg_S (mo_X6_init 15 rfl) (mo_X6_init 16 rfl) (mo_X6_init 17 rfl) (goodIn_sub mb_X6_init_0 gw_J7_fill_53178)) rfl rfl rfl hd_J7_fill_53178 ⟨Nat.le_of_ble_eq_true rfl, Nat.le_of_ble_eq_true rfl⟩) hK hN hP hD hS hA [8] [0, 1, 2, 3, 4, 5, 6, 7, 9, 10, 11] [7] rfl rfl (by decide) (by decide) (by decide) rfl rfl hl.1 rfl (Nat.le_of_ble_eq_true rfl) dX6_init_108 ⟨Nat.le_of_ble_eq_true rfl, Nat.le_of_ble_eq_true rfl⟩ (fun u_24 H locs w_25 hP hD hK1 hS => ?_)
  obtain ⟨o_26, rfl⟩ : ∃ z, z = u_24 := ⟨_, rfl⟩
  have hP : va_P D vwCl [(h, .inr (6, [.ref q_1, .ref q_3, .ref q_5, .ref q_7, .ref q_9, .ref q_11, .ref q_13, .ref q_15, .ref q_17, .ref q_19, .ref q_21, .int 0])), (q_1, .inl (k_2, 1024, .inl (fun _ => 0))), (q_3, .inl (k_4, 1024, .inl (fun _ => 0))), (q_5, .inl (k_6, 1024, .inl (fun _ => 0))), (q_7, .inl (k_8, 1024, .inl (fun _ => 0))), (q_9, .inl (k_10, 1024, .inl (fun _ => 0))), (q_11, .inl (k_12, 1024, .inl (fun _ => 0))), (q_13, .inl (k_14, 1024, .inl (fun _ => 0))), (q_17, .inl (k_18, 2048, .inl (fun _ => 0))), (q_19, .inl (k_20, 2048, .inl (fun _ => 0))), (q_21, .inl (k_22, 2048, .inl (fun _ => 0))), (q_15, .inl (k_16, 256, .inl o_26))] H := hP
  have hD : va_D A [(h, .inr (6, [.ref q_1, .ref q_3, .ref q_5, .ref q_7, .ref q_9, .ref q_11, .ref q_13, .ref q_15, .ref q_17, .ref q_19, .ref q_21, .int 0])), (q_1, .inl (k_2, 1024, .inl (fun _ => 0))), (q_3, .inl (k_4, 1024, .inl (fun _ => 0))), (q_5, .inl (k_6, 1024, .inl (fun _ => 0))), (q_7, .inl (k_8, 1024, .inl (fun _ => 0))), (q_9, .inl (k_10, 1024, .inl (fun _ => 0))), (q_11, .inl (k_12, 1024, .inl (fun _ => 0))), (q_13, .inl (k_14, 1024, .inl (fun _ => 0))), (q_17, .inl (k_18, 2048, .inl (fun _ => 0))), (q_19, .inl (k_20, 2048, .inl (fun _ => 0))), (q_21, .inl (k_22, 2048, .inl (fun _ => 0))), (q_15, .inl (k_16, 256, .inl o_26))] := hD
  have w_25 : ∀ k, k < 256 → o_26 k = (-1) := w_25
  refine lv_aload_n hx hb dX6_init_111 rfl (lv_at hl 0 rfl) ?_
  refine lv_iconst (v := 0) hx hb dX6_init_112 (by decide) ?_
  refine va_put (D := D) (ci := 6) (v := .int 0) (ty := .int) (C := RX6) (T := TX6) (N := 12) hx hb hts hiX6 tyX6 tyX6_ok nmX6 hown hK hP hD hS 0 rfl rfl 11 (by decide) (hts (.fieldLink RX6 51 "DynamicLogicProver$Pool" "used" "I") (mo_X6_init 18 rfl)) (fun _ h9 => h9) rfl (tyX6_ok 11 (by decide)) rfl rfl (Nat.le_of_ble_eq_true rfl) dX6_init_113 (fun H locs hP hD hS => ?_)
  have hP : va_P D vwCl [(h, .inr (6, [.ref q_1, .ref q_3, .ref q_5, .ref q_7, .ref q_9, .ref q_11, .ref q_13, .ref q_15, .ref q_17, .ref q_19, .ref q_21, .int 0])), (q_1, .inl (k_2, 1024, .inl (fun _ => 0))), (q_3, .inl (k_4, 1024, .inl (fun _ => 0))), (q_5, .inl (k_6, 1024, .inl (fun _ => 0))), (q_7, .inl (k_8, 1024, .inl (fun _ => 0))), (q_9, .inl (k_10, 1024, .inl (fun _ => 0))), (q_11, .inl (k_12, 1024, .inl (fun _ => 0))), (q_13, .inl (k_14, 1024, .inl (fun _ => 0))), (q_17, .inl (k_18, 2048, .inl (fun _ => 0))), (q_19, .inl (k_20, 2048, .inl (fun _ => 0))), (q_21, .inl (k_22, 2048, .inl (fun _ => 0))), (q_15, .inl (k_16, 256, .inl o_26))] H := hP
  have hD : va_D A [(h, .inr (6, [.ref q_1, .ref q_3, .ref q_5, .ref q_7, .ref q_9, .ref q_11, .ref q_13, .ref q_15, .ref q_17, .ref q_19, .ref q_21, .int 0])), (q_1, .inl (k_2, 1024, .inl (fun _ => 0))), (q_3, .inl (k_4, 1024, .inl (fun _ => 0))), (q_5, .inl (k_6, 1024, .inl (fun _ => 0))), (q_7, .inl (k_8, 1024, .inl (fun _ => 0))), (q_9, .inl (k_10, 1024, .inl (fun _ => 0))), (q_11, .inl (k_12, 1024, .inl (fun _ => 0))), (q_13, .inl (k_14, 1024, .inl (fun _ => 0))), (q_17, .inl (k_18, 2048, .inl (fun _ => 0))), (q_19, .inl (k_20, 2048, .inl (fun _ => 0))), (q_21, .inl (k_22, 2048, .inl (fun _ => 0))), (q_15, .inl (k_16, 256, .inl o_26))] := hD
  have hP9 := hP.sub (ws' := [(h, .inr (6, [.ref q_1, .ref q_3, .ref q_5, .ref q_7, .ref q_9, .ref q_11, .ref q_13, .ref q_15, .ref q_17, .ref q_19, .ref q_21, .int 0])), (q_15, .inl (k_16, 256, .inl o_26))]) [0, 11] rfl
  have hD9 := hD.sub (ws' := [(h, .inr (6, [.ref q_1, .ref q_3, .ref q_5, .ref q_7, .ref q_9, .ref q_11, .ref q_13, .ref q_15, .ref q_17, .ref q_19, .ref q_21, .int 0])), (q_15, .inl (k_16, 256, .inl o_26))]) [0, 11] (by decide) rfl
  have hK9 := hK.sub (tys' := [(k_16, .int)]) [7] rfl
  refine W.widen (k := 11) (n := 13568) (Nat.le_of_ble_eq_true rfl) (Nat.le_of_ble_eq_true rfl) ?_
  exact W.vret hx hb hr (fun tZ htZ hW => ⟨⟨(q_1, q_3, q_5, q_7, q_9, q_11, q_13, q_15, q_17, q_19, q_21, k_16, o_26), rfl, trivial, by rw [htZ]; exact hP9, va_K.moved hW.alike hK9, hD9⟩, hS.F htZ⟩) hS.2.2 dX6_init_116
theorem dX6_clear_0 : decode cX6_clear 0 = .ok (.aload_n 0, 1) := by decide +kernel
theorem dX6_clear_1 : decode cX6_clear 1 = .ok (.getfield 33, 3) := by decide +kernel
theorem dX6_clear_4 : decode cX6_clear 4 = .ok (.iconst (-1), 1) := by decide +kernel
theorem dX6_clear_5 : decode cX6_clear 5 = .ok (.invokestatic 45, 3) := by decide +kernel
theorem dX6_clear_8 : decode cX6_clear 8 = .ok (.aload_n 0, 1) := by decide +kernel
theorem dX6_clear_9 : decode cX6_clear 9 = .ok (.iconst 0, 1) := by decide +kernel
theorem dX6_clear_10 : decode cX6_clear 10 = .ok (.putfield 51, 3) := by decide +kernel
theorem dX6_clear_13 : decode cX6_clear 13 = .ok (.return_, 1) := by decide +kernel
def wo_X6_clear : List Cond := [.fieldLink RX6 33 "DynamicLogicProver$Pool" "heads" "[I", .methodLink RX6 45 yJ7_fill_53178, .static yJ7_fill_53178, .initialized RJ7, .fieldLink RX6 51 "DynamicLogicProver$Pool" "used" "I"]
def wd_X6_clear : List Cond := .code yX6_clear cX6_clear 1 none :: (wo_X6_clear ++ (wd_J7_fill_53178 ++ (wsX60 ++ ([] : List Cond))))
theorem mo_X6_clear {w : Cond} (i : Nat) (h : wo_X6_clear[i]? = some w) : w ∈ wd_X6_clear := List.mem_cons_of_mem _ (List.mem_append_left _ (List.mem_of_getElem? h))
theorem mb_X6_clear_0 : ∀ w ∈ wd_J7_fill_53178, w ∈ wd_X6_clear := fun w h => List.mem_cons_of_mem _ (List.mem_append_right _ (List.mem_append_left _ h))
theorem mb_X6_clear_1 : ∀ w ∈ wsX60, w ∈ wd_X6_clear := fun w h => List.mem_cons_of_mem _ (List.mem_append_right _ (List.mem_append_right _ (List.mem_append_left _ h)))
theorem hd_X6_clear : yX6_clear.cls ≠ "java/lang/invoke/MethodHandle" ∧ yX6_clear.cls ≠ "java/lang/invoke/VarHandle" ∧ (parseMethodDescriptor yX6_clear.desc).map (fun d => d.parameters.length) = some 0 := by decide +kernel
set_option maxRecDepth 20000 in
theorem gw_X6_clear : wd_X6_clear.all goodWord = true := by decide +kernel
abbrev qc_X6_clear (D : va_G) (h : Nat) (a1 : Nat) (a2 : Nat) (a3 : Nat) (a4 : Nat) (a5 : Nat) (a6 : Nat) (a7 : Nat) (a8 : Nat) (a9 : Nat) (b1 : Nat) (b2 : Nat) (k8 : ClassId) (f : Nat → Int32) (n : Int32) (A : Nat → Prop) : Array Value → State → Outcome → State → Prop := va_Qv (fun (uZ : (Nat → Int32)) => True) (fun uZ tZ => kc_pos D A [(h, .inr (6, [.ref a1, .ref a2, .ref a3, .ref a4, .ref a5, .ref a6, .ref a7, .ref a8, .ref a9, .ref b1, .ref b2, .int 0])), (a8, .inl (k8, 256, .inl uZ))] [] tZ) A
set_option maxHeartbeats 4000000 in
set_option maxRecDepth 100000 in
theorem ct_X6_clear (l : Launch) (D : va_G) (h : Nat) (a1 : Nat) (a2 : Nat) (a3 : Nat) (a4 : Nat) (a5 : Nat) (a6 : Nat) (a7 : Nat) (a8 : Nat) (a9 : Nat) (b1 : Nat) (b2 : Nat) (k8 : ClassId) (f : Nat → Int32) (n : Int32) (sz : Nat)  : Met l yX6_clear wd_X6_clear ({ frames := 1, cells := 0, slots := 0, locals := 23 }) (va_Pc [.ref h] (kc_pre D [(k8, .int)] [(h, .inr (6, [.ref a1, .ref a2, .ref a3, .ref a4, .ref a5, .ref a6, .ref a7, .ref a8, .ref a9, .ref b1, .ref b2, .int n])), (a8, .inl (k8, 256, .inl f))] sz)) (qc_X6_clear D h a1 a2 a3 a4 a5 a6 a7 a8 a9 b1 b2 k8 f n (va_A [(h, .inr (6, [.ref a1, .ref a2, .ref a3, .ref a4, .ref a5, .ref a6, .ref a7, .ref a8, .ref a9, .ref b1, .ref b2, .int n])), (a8, .inl (k8, 256, .inl f))] sz)) 0 0 (va_A [(h, .inr (6, [.ref a1, .ref a2, .ref a3, .ref a4, .ref a5, .ref a6, .ref a7, .ref a8, .ref a9, .ref b1, .ref b2, .int n])), (a8, .inl (k8, 256, .inl f))] sz) := by
  refine Met.ofW (cc := cX6_clear) (maxL := 1) (ret := none) (by decide) rfl ?_
  intro p e s m args below meth c s₁ B hml hv
  obtain ⟨rfl, hsz, hP, hK, hN, hD0⟩ := hv
  have hx := B.exec
  have hb := B.bytes
  have hr := B.returns
  have hts := atoms_spec (ws := wd_X6_clear) B.pre
  have hown : s.vm.findClass RX6 = some m.cls := findClass_of_methodNamed B.named
  have hlocks := B.notSynchronized
  subst hsz
  have hD := hD0.self (sz := s.heap.size)
  generalize hAe : va_A [(h, .inr (6, [.ref a1, .ref a2, .ref a3, .ref a4, .ref a5, .ref a6, .ref a7, .ref a8, .ref a9, .ref b1, .ref b2, .int n])), (a8, .inl (k8, 256, .inl f))] s.heap.size = A at hD ⊢
  have hA : ∀ q : Nat, s.heap.size ≤ q → A q := fun q h => by rw [← hAe]; exact Or.inr h
  have hS : va_S A s.heap s.heap [] := va_S.rf
  have hiX6 : ∀ w ∈ wsX60, w ∈ wd_X6_clear := mb_X6_clear_1
  have hl := lv_entry ([.ref h]) (n := 1) (Nat.le_of_ble_eq_true rfl)
  rw [lg_entry_eq]
  generalize (lg_sl ([.ref h]) ++ List.replicate (1 - (lg_sl ([.ref h])).length) Slot.unset).toArray = ls at hl ⊢
  have hl : lv_has ls 1 [(0, .ref h)] := hl
  refine lv_aload_n hx hb dX6_clear_0 rfl (lv_at hl 0 rfl) ?_
  refine va_get (D := D) (ci := 6) (v := .ref a8) (C := RX6) (T := TX6) (N := 12) hx hb hts hiX6 hown hK hP 0 rfl rfl 7 (by decide) (hts (.fieldLink RX6 33 "DynamicLogicProver$Pool" "heads" "[I") (mo_X6_clear 0 rfl)) (fun _ h9 => h9) rfl dX6_clear_1 ?_
  refine lv_iconst (v := (-1)) hx hb dX6_clear_4 (by decide) ?_
  refine kc_Sv (As := [.ref a8, .int (-1)]) (rest := []) (wr := [(h, .inr (6, [.ref a1, .ref a2, .ref a3, .ref a4, .ref a5, .ref a6, .ref a7, .ref a8, .ref a9, .ref b1, .ref b2, .int n]))]) ⟨hx, hb, hml, hown, hts⟩ (ct_J7_fill_53178 l D a8 k8 256 f (-1) _ (by decide)) (va_cwS 2 hts (kg_S (mo_X6_clear 1 rfl) (mo_X6_clear 2 rfl) (mo_X6_clear 3 rfl) (goodIn_sub mb_X6_clear_0 gw_J7_fill_53178)) rfl rfl rfl hd_J7_fill_53178 ⟨Nat.le_of_ble_eq_true rfl, Nat.le_of_ble_eq_true rfl⟩) hK hN hP hD hS hA [1] [0] [0] rfl rfl (by decide) (by decide) (by decide) rfl rfl hl.1 rfl (Nat.le_of_ble_eq_true rfl) dX6_clear_5 ⟨Nat.le_of_ble_eq_true rfl, Nat.le_of_ble_eq_true rfl⟩ (fun u_2 H locs w_3 hP hD hK1 hS => ?_)
  obtain ⟨o_4, rfl⟩ : ∃ z, z = u_2 := ⟨_, rfl⟩
  have hP : va_P D vwCl [(h, .inr (6, [.ref a1, .ref a2, .ref a3, .ref a4, .ref a5, .ref a6, .ref a7, .ref a8, .ref a9, .ref b1, .ref b2, .int n])), (a8, .inl (k8, 256, .inl o_4))] H := hP
  have hD : va_D A [(h, .inr (6, [.ref a1, .ref a2, .ref a3, .ref a4, .ref a5, .ref a6, .ref a7, .ref a8, .ref a9, .ref b1, .ref b2, .int n])), (a8, .inl (k8, 256, .inl o_4))] := hD
  have w_3 : ∀ k, k < 256 → o_4 k = (-1) := w_3
  refine lv_aload_n hx hb dX6_clear_8 rfl (lv_at hl 0 rfl) ?_
  refine lv_iconst (v := 0) hx hb dX6_clear_9 (by decide) ?_
  refine va_put (D := D) (ci := 6) (v := .int 0) (ty := .int) (C := RX6) (T := TX6) (N := 12) hx hb hts hiX6 tyX6 tyX6_ok nmX6 hown hK hP hD hS 0 rfl rfl 11 (by decide) (hts (.fieldLink RX6 51 "DynamicLogicProver$Pool" "used" "I") (mo_X6_clear 4 rfl)) (fun _ h9 => h9) rfl (tyX6_ok 11 (by decide)) rfl rfl (Nat.le_of_ble_eq_true rfl) dX6_clear_10 (fun H locs hP hD hS => ?_)
  have hP : va_P D vwCl [(h, .inr (6, [.ref a1, .ref a2, .ref a3, .ref a4, .ref a5, .ref a6, .ref a7, .ref a8, .ref a9, .ref b1, .ref b2, .int 0])), (a8, .inl (k8, 256, .inl o_4))] H := hP
  have hD : va_D A [(h, .inr (6, [.ref a1, .ref a2, .ref a3, .ref a4, .ref a5, .ref a6, .ref a7, .ref a8, .ref a9, .ref b1, .ref b2, .int 0])), (a8, .inl (k8, 256, .inl o_4))] := hD
  have hP9 := hP.sub (ws' := [(h, .inr (6, [.ref a1, .ref a2, .ref a3, .ref a4, .ref a5, .ref a6, .ref a7, .ref a8, .ref a9, .ref b1, .ref b2, .int 0])), (a8, .inl (k8, 256, .inl o_4))]) [0, 1] rfl
  have hD9 := hD.sub (ws' := [(h, .inr (6, [.ref a1, .ref a2, .ref a3, .ref a4, .ref a5, .ref a6, .ref a7, .ref a8, .ref a9, .ref b1, .ref b2, .int 0])), (a8, .inl (k8, 256, .inl o_4))]) [0, 1] (by decide) rfl
  have hK9 := hK.sub (tys' := []) [] rfl
  exact W.vret hx hb hr (fun tZ htZ hW => ⟨⟨o_4, rfl, trivial, by rw [htZ]; exact hP9, va_K.moved hW.alike hK9, hD9⟩, hS.F htZ⟩) hS.2.2 dX6_clear_13
theorem dX0_init_0 : decode cX0_init 0 = .ok (.aload_n 0, 1) := by decide +kernel
theorem dX0_init_1 : decode cX0_init 1 = .ok (.invokespecial 3, 3) := by decide +kernel
theorem dX0_init_4 : decode cX0_init 4 = .ok (.aload_n 0, 1) := by decide +kernel
theorem dX0_init_5 : decode cX0_init 5 = .ok (.bipush 6, 2) := by decide +kernel
theorem dX0_init_7 : decode cX0_init 7 = .ok (.newarray .int, 2) := by decide +kernel
theorem dX0_init_9 : decode cX0_init 9 = .ok (.putfield 11, 3) := by decide +kernel
theorem dX0_init_12 : decode cX0_init 12 = .ok (.aload_n 0, 1) := by decide +kernel
theorem dX0_init_13 : decode cX0_init 13 = .ok (.bipush 6, 2) := by decide +kernel
theorem dX0_init_15 : decode cX0_init 15 = .ok (.newarray .int, 2) := by decide +kernel
theorem dX0_init_17 : decode cX0_init 17 = .ok (.putfield 15, 3) := by decide +kernel
theorem dX0_init_20 : decode cX0_init 20 = .ok (.aload_n 0, 1) := by decide +kernel
theorem dX0_init_21 : decode cX0_init 21 = .ok (.sipush 360, 3) := by decide +kernel
theorem dX0_init_24 : decode cX0_init 24 = .ok (.newarray .long, 2) := by decide +kernel
theorem dX0_init_26 : decode cX0_init 26 = .ok (.putfield 18, 3) := by decide +kernel
theorem dX0_init_29 : decode cX0_init 29 = .ok (.aload_n 0, 1) := by decide +kernel
theorem dX0_init_30 : decode cX0_init 30 = .ok (.getfield 11, 3) := by decide +kernel
theorem dX0_init_33 : decode cX0_init 33 = .ok (.iconst (-1), 1) := by decide +kernel
theorem dX0_init_34 : decode cX0_init 34 = .ok (.invokestatic 22, 3) := by decide +kernel
theorem dX0_init_37 : decode cX0_init 37 = .ok (.return_, 1) := by decide +kernel
def wo_X0_init : List Cond := [.methodLink RX0 3 objectInit, .instanceMethod objectInit, .code objectInit ⟨#[0xb1]⟩ 1 none, .arrayClass .int, .fieldLink RX0 11 "DynamicLogicProver$Buffers" "types" "[I", .fieldLink RX0 15 "DynamicLogicProver$Buffers" "lengths" "[I", .arrayClass .long, .fieldLink RX0 18 "DynamicLogicProver$Buffers" "cells" "[J", .methodLink RX0 22 yJ7_fill_53178, .static yJ7_fill_53178, .initialized RJ7]
def wd_X0_init : List Cond := .code yX0_init cX0_init 1 none :: (wo_X0_init ++ (wd_J7_fill_53178 ++ (wsX00 ++ ([] : List Cond))))
theorem mo_X0_init {w : Cond} (i : Nat) (h : wo_X0_init[i]? = some w) : w ∈ wd_X0_init := List.mem_cons_of_mem _ (List.mem_append_left _ (List.mem_of_getElem? h))
theorem mb_X0_init_0 : ∀ w ∈ wd_J7_fill_53178, w ∈ wd_X0_init := fun w h => List.mem_cons_of_mem _ (List.mem_append_right _ (List.mem_append_left _ h))
theorem mb_X0_init_1 : ∀ w ∈ wsX00, w ∈ wd_X0_init := fun w h => List.mem_cons_of_mem _ (List.mem_append_right _ (List.mem_append_right _ (List.mem_append_left _ h)))
theorem hd_X0_init : yX0_init.cls ≠ "java/lang/invoke/MethodHandle" ∧ yX0_init.cls ≠ "java/lang/invoke/VarHandle" ∧ (parseMethodDescriptor yX0_init.desc).map (fun d => d.parameters.length) = some 0 := by decide +kernel
set_option maxRecDepth 20000 in
theorem gw_X0_init : wd_X0_init.all goodWord = true := by decide +kernel
abbrev qc_X0_init (D : va_G) (h : Nat) (A : Nat → Prop) : Array Value → State → Outcome → State → Prop := va_Qv (fun (uZ : (Nat) × (Nat) × (Nat) × (ClassId) × (ClassId) × (ClassId) × (Nat → Int32)) => ∀ k, k < 6 → uZ.2.2.2.2.2.2 k = -1) (fun uZ tZ => kc_pos D A [(h, .inr (0, [.ref uZ.1, .ref uZ.2.1, .ref uZ.2.2.1])), (uZ.1, .inl (uZ.2.2.2.1, 6, .inl uZ.2.2.2.2.2.2)), (uZ.2.1, .inl (uZ.2.2.2.2.1, 6, .inl (fun _ => 0))), (uZ.2.2.1, .inl (uZ.2.2.2.2.2.1, 360, .inr (.inl (fun _ => 0))))] [(uZ.2.2.2.1, .int), (uZ.2.2.2.2.1, .int), (uZ.2.2.2.2.2.1, .long)] tZ) A
set_option maxHeartbeats 4000000 in
set_option maxRecDepth 100000 in
theorem ct_X0_init (l : Launch) (D : va_G) (h : Nat) (sz : Nat)  : Met l yX0_init wd_X0_init ({ frames := 1, cells := 3, slots := 372, locals := 23 }) (va_Pc [.ref h] (kc_pre D [] [(h, .inr (0, [.null, .null, .null]))] sz)) (qc_X0_init D h (va_A [(h, .inr (0, [.null, .null, .null]))] sz)) 3 372 (va_A [(h, .inr (0, [.null, .null, .null]))] sz) := by
  refine Met.ofW (cc := cX0_init) (maxL := 1) (ret := none) (by decide) rfl ?_
  intro p e s m args below meth c s₁ B hml hv
  obtain ⟨rfl, hsz, hP, hK, hN, hD0⟩ := hv
  have hx := B.exec
  have hb := B.bytes
  have hr := B.returns
  have hts := atoms_spec (ws := wd_X0_init) B.pre
  have hown : s.vm.findClass RX0 = some m.cls := findClass_of_methodNamed B.named
  have hlocks := B.notSynchronized
  have hin : meth.name = "<init>" := (name_of_methodNamed B.named B.method).1
  subst hsz
  have hD := hD0.self (sz := s.heap.size)
  generalize hAe : va_A [(h, .inr (0, [.null, .null, .null]))] s.heap.size = A at hD ⊢
  have hA : ∀ q : Nat, s.heap.size ≤ q → A q := fun q h => by rw [← hAe]; exact Or.inr h
  have hS : va_S A s.heap s.heap [] := va_S.rf
  have hiX0 : ∀ w ∈ wsX00, w ∈ wd_X0_init := mb_X0_init_1
  have hl := lv_entry ([.ref h]) (n := 1) (Nat.le_of_ble_eq_true rfl)
  rw [lg_entry_eq]
  generalize (lg_sl ([.ref h]) ++ List.replicate (1 - (lg_sl ([.ref h])).length) Slot.unset).toArray = ls at hl ⊢
  have hl : lv_has ls 1 [(0, .ref h)] := hl
  refine lv_aload_n hx hb dX0_init_0 rfl (lv_at hl 0 rfl) ?_
  refine W.objInit hx hb hown (hts (.methodLink RX0 3 objectInit) (mo_X0_init 0 rfl)) (hts (.instanceMethod objectInit) (mo_X0_init 1 rfl)) (hts (.code objectInit ⟨#[0xb1]⟩ 1 none) (mo_X0_init 2 rfl)) rfl (by rw [hml]; exact hl.1) rfl dX0_init_1 (Nat.le_of_ble_eq_true rfl) (Nat.le_of_ble_eq_true rfl) ?_
  refine W.eq (g2 := F0 m 4 ls []) rfl ?_
  refine lv_aload_n hx hb dX0_init_4 rfl (lv_at hl 0 rfl) ?_
  refine lv_bipush (v := 6) hx hb dX0_init_5 (by decide) ?_
  refine va_newa (atype := .int) (ty := .int) (a0 := (6, .inl (fun _ => 0))) hx hb (hts (.arrayClass .int) (mo_X0_init 3 rfl)) rfl hK hP hD hS hA (fun _ => rfl) (by decide) (N' := 6) (by decide) (by decide) (Nat.le_of_ble_eq_true rfl) (Nat.le_of_ble_eq_true rfl) dX0_init_7 (fun q_1 k_2 H hK hP hD hS => ?_)
  have hP : va_P D vwCl [(h, .inr (0, [.null, .null, .null])), (q_1, .inl (k_2, 6, .inl (fun _ => 0)))] H := hP
  have hD : va_D A [(h, .inr (0, [.null, .null, .null])), (q_1, .inl (k_2, 6, .inl (fun _ => 0)))] := hD
  have hK : va_K D vwCl [(k_2, .int)] s := hK
  refine W.widen (k := 1) (n := 6) (by decide) (Nat.le_of_ble_eq_true rfl) ?_
  refine va_putF (D := D) (ci := 0) (v := .ref q_1) (ty := .array .int) (C := RX0) (T := TX0) (N := 3) hx hb hts hiX0 tyX0 tyX0_ok nmX0 hown hK hP hD hS 0 rfl rfl 0 (by decide) (hts (.fieldLink RX0 11 "DynamicLogicProver$Buffers" "types" "[I") (mo_X0_init 4 rfl)) (fun _ h9 => h9) rfl hin rfl (tyX0_ok 0 (by decide)) rfl rfl (Nat.le_of_ble_eq_true rfl) dX0_init_9 (fun H locs hP hD hS => ?_)
  have hP : va_P D vwCl [(h, .inr (0, [.ref q_1, .null, .null])), (q_1, .inl (k_2, 6, .inl (fun _ => 0)))] H := hP
  have hD : va_D A [(h, .inr (0, [.ref q_1, .null, .null])), (q_1, .inl (k_2, 6, .inl (fun _ => 0)))] := hD
  refine lv_aload_n hx hb dX0_init_12 rfl (lv_at hl 0 rfl) ?_
  refine lv_bipush (v := 6) hx hb dX0_init_13 (by decide) ?_
  refine va_newa (atype := .int) (ty := .int) (a0 := (6, .inl (fun _ => 0))) hx hb (hts (.arrayClass .int) (mo_X0_init 3 rfl)) rfl hK hP hD hS hA (fun _ => rfl) (by decide) (N' := 6) (by decide) (by decide) (Nat.le_of_ble_eq_true rfl) (Nat.le_of_ble_eq_true rfl) dX0_init_15 (fun q_3 k_4 H hK hP hD hS => ?_)
  have hP : va_P D vwCl [(h, .inr (0, [.ref q_1, .null, .null])), (q_1, .inl (k_2, 6, .inl (fun _ => 0))), (q_3, .inl (k_4, 6, .inl (fun _ => 0)))] H := hP
  have hD : va_D A [(h, .inr (0, [.ref q_1, .null, .null])), (q_1, .inl (k_2, 6, .inl (fun _ => 0))), (q_3, .inl (k_4, 6, .inl (fun _ => 0)))] := hD
  have hK : va_K D vwCl [(k_2, .int), (k_4, .int)] s := hK
  refine W.widen (k := 2) (n := 12) (by decide) (Nat.le_of_ble_eq_true rfl) ?_
  refine va_putF (D := D) (ci := 0) (v := .ref q_3) (ty := .array .int) (C := RX0) (T := TX0) (N := 3) hx hb hts hiX0 tyX0 tyX0_ok nmX0 hown hK hP hD hS 0 rfl rfl 1 (by decide) (hts (.fieldLink RX0 15 "DynamicLogicProver$Buffers" "lengths" "[I") (mo_X0_init 5 rfl)) (fun _ h9 => h9) rfl hin rfl (tyX0_ok 1 (by decide)) rfl rfl (Nat.le_of_ble_eq_true rfl) dX0_init_17 (fun H locs hP hD hS => ?_)
  have hP : va_P D vwCl [(h, .inr (0, [.ref q_1, .ref q_3, .null])), (q_1, .inl (k_2, 6, .inl (fun _ => 0))), (q_3, .inl (k_4, 6, .inl (fun _ => 0)))] H := hP
  have hD : va_D A [(h, .inr (0, [.ref q_1, .ref q_3, .null])), (q_1, .inl (k_2, 6, .inl (fun _ => 0))), (q_3, .inl (k_4, 6, .inl (fun _ => 0)))] := hD
  refine lv_aload_n hx hb dX0_init_20 rfl (lv_at hl 0 rfl) ?_
  refine lv_sipush (v := 360) hx hb dX0_init_21 (by decide) ?_
  refine va_newa (atype := .long) (ty := .long) (a0 := (360, .inr (.inl (fun _ => 0)))) hx hb (hts (.arrayClass .long) (mo_X0_init 6 rfl)) rfl hK hP hD hS hA (fun _ => rfl) (by decide) (N' := 360) (by decide) (by decide) (Nat.le_of_ble_eq_true rfl) (Nat.le_of_ble_eq_true rfl) dX0_init_24 (fun q_5 k_6 H hK hP hD hS => ?_)
  have hP : va_P D vwCl [(h, .inr (0, [.ref q_1, .ref q_3, .null])), (q_1, .inl (k_2, 6, .inl (fun _ => 0))), (q_3, .inl (k_4, 6, .inl (fun _ => 0))), (q_5, .inl (k_6, 360, .inr (.inl (fun _ => 0))))] H := hP
  have hD : va_D A [(h, .inr (0, [.ref q_1, .ref q_3, .null])), (q_1, .inl (k_2, 6, .inl (fun _ => 0))), (q_3, .inl (k_4, 6, .inl (fun _ => 0))), (q_5, .inl (k_6, 360, .inr (.inl (fun _ => 0))))] := hD
  have hK : va_K D vwCl [(k_2, .int), (k_4, .int), (k_6, .long)] s := hK
  refine W.widen (k := 3) (n := 372) (by decide) (Nat.le_of_ble_eq_true rfl) ?_
  refine va_putF (D := D) (ci := 0) (v := .ref q_5) (ty := .array .long) (C := RX0) (T := TX0) (N := 3) hx hb hts hiX0 tyX0 tyX0_ok nmX0 hown hK hP hD hS 0 rfl rfl 2 (by decide) (hts (.fieldLink RX0 18 "DynamicLogicProver$Buffers" "cells" "[J") (mo_X0_init 7 rfl)) (fun _ h9 => h9) rfl hin rfl (tyX0_ok 2 (by decide)) rfl rfl (Nat.le_of_ble_eq_true rfl) dX0_init_26 (fun H locs hP hD hS => ?_)
  have hP : va_P D vwCl [(h, .inr (0, [.ref q_1, .ref q_3, .ref q_5])), (q_1, .inl (k_2, 6, .inl (fun _ => 0))), (q_3, .inl (k_4, 6, .inl (fun _ => 0))), (q_5, .inl (k_6, 360, .inr (.inl (fun _ => 0))))] H := hP
  have hD : va_D A [(h, .inr (0, [.ref q_1, .ref q_3, .ref q_5])), (q_1, .inl (k_2, 6, .inl (fun _ => 0))), (q_3, .inl (k_4, 6, .inl (fun _ => 0))), (q_5, .inl (k_6, 360, .inr (.inl (fun _ => 0))))] := hD
  refine lv_aload_n hx hb dX0_init_29 rfl (lv_at hl 0 rfl) ?_
  refine va_get (D := D) (ci := 0) (v := .ref q_1) (C := RX0) (T := TX0) (N := 3) hx hb hts hiX0 hown hK hP 0 rfl rfl 0 (by decide) (hts (.fieldLink RX0 11 "DynamicLogicProver$Buffers" "types" "[I") (mo_X0_init 4 rfl)) (fun _ h9 => h9) rfl dX0_init_30 ?_
  refine lv_iconst (v := (-1)) hx hb dX0_init_33 (by decide) ?_
  refine kc_Sv (As := [.ref q_1, .int (-1)]) (rest := []) (wr := [(h, .inr (0, [.ref q_1, .ref q_3, .ref q_5])), (q_3, .inl (k_4, 6, .inl (fun _ => 0))), (q_5, .inl (k_6, 360, .inr (.inl (fun _ => 0))))]) ⟨hx, hb, hml, hown, hts⟩ (ct_J7_fill_53178 l D q_1 k_2 6 (fun _ => 0) (-1) _ (by decide)) (va_cwS 2 hts (kg_S (mo_X0_init 8 rfl) (mo_X0_init 9 rfl) (mo_X0_init 10 rfl) (goodIn_sub mb_X0_init_0 gw_J7_fill_53178)) rfl rfl rfl hd_J7_fill_53178 ⟨Nat.le_of_ble_eq_true rfl, Nat.le_of_ble_eq_true rfl⟩) hK hN hP hD hS hA [1] [0, 2, 3] [0] rfl rfl (by decide) (by decide) (by decide) rfl rfl hl.1 rfl (Nat.le_of_ble_eq_true rfl) dX0_init_34 ⟨Nat.le_of_ble_eq_true rfl, Nat.le_of_ble_eq_true rfl⟩ (fun u_8 H locs w_9 hP hD hK1 hS => ?_)
  obtain ⟨o_10, rfl⟩ : ∃ z, z = u_8 := ⟨_, rfl⟩
  have hP : va_P D vwCl [(h, .inr (0, [.ref q_1, .ref q_3, .ref q_5])), (q_3, .inl (k_4, 6, .inl (fun _ => 0))), (q_5, .inl (k_6, 360, .inr (.inl (fun _ => 0)))), (q_1, .inl (k_2, 6, .inl o_10))] H := hP
  have hD : va_D A [(h, .inr (0, [.ref q_1, .ref q_3, .ref q_5])), (q_3, .inl (k_4, 6, .inl (fun _ => 0))), (q_5, .inl (k_6, 360, .inr (.inl (fun _ => 0)))), (q_1, .inl (k_2, 6, .inl o_10))] := hD
  have w_9 : ∀ k, k < 6 → o_10 k = (-1) := w_9
  have hP9 := hP.sub (ws' := [(h, .inr (0, [.ref q_1, .ref q_3, .ref q_5])), (q_1, .inl (k_2, 6, .inl o_10)), (q_3, .inl (k_4, 6, .inl (fun _ => 0))), (q_5, .inl (k_6, 360, .inr (.inl (fun _ => 0))))]) [0, 3, 1, 2] rfl
  have hD9 := hD.sub (ws' := [(h, .inr (0, [.ref q_1, .ref q_3, .ref q_5])), (q_1, .inl (k_2, 6, .inl o_10)), (q_3, .inl (k_4, 6, .inl (fun _ => 0))), (q_5, .inl (k_6, 360, .inr (.inl (fun _ => 0))))]) [0, 3, 1, 2] (by decide) rfl
  have hK9 := hK.sub (tys' := [(k_2, .int), (k_4, .int), (k_6, .long)]) [0, 1, 2] rfl
  refine W.widen (k := 3) (n := 372) (Nat.le_of_ble_eq_true rfl) (Nat.le_of_ble_eq_true rfl) ?_
  exact W.vret hx hb hr (fun tZ htZ hW => ⟨⟨(q_1, q_3, q_5, k_2, k_4, k_6, o_10), rfl, w_9, by rw [htZ]; exact hP9, va_K.moved hW.alike hK9, hD9⟩, hS.F htZ⟩) hS.2.2 dX0_init_37
theorem dX0_has_0 : decode cX0_has 0 = .ok (.iload_n 1, 1) := by decide +kernel
theorem dX0_has_1 : decode cX0_has 1 = .ok (.ifCond .lt 13, 3) := by decide +kernel
theorem dX0_has_4 : decode cX0_has 4 = .ok (.iload_n 1, 1) := by decide +kernel
theorem dX0_has_5 : decode cX0_has 5 = .ok (.bipush 6, 2) := by decide +kernel
theorem dX0_has_7 : decode cX0_has 7 = .ok (.if_icmp .ge 7, 3) := by decide +kernel
theorem dX0_has_10 : decode cX0_has 10 = .ok (.iconst 1, 1) := by decide +kernel
theorem dX0_has_11 : decode cX0_has 11 = .ok (.goto 4, 3) := by decide +kernel
theorem dX0_has_14 : decode cX0_has 14 = .ok (.iconst 0, 1) := by decide +kernel
theorem dX0_has_15 : decode cX0_has 15 = .ok (.ireturn, 1) := by decide +kernel
def wo_X0_has : List Cond := []
def wd_X0_has : List Cond := .code yX0_has cX0_has 2 (some .boolean) :: (wo_X0_has ++ ([] : List Cond))
theorem hd_X0_has : yX0_has.cls ≠ "java/lang/invoke/MethodHandle" ∧ yX0_has.cls ≠ "java/lang/invoke/VarHandle" ∧ (parseMethodDescriptor yX0_has.desc).map (fun d => d.parameters.length) = some 1 := by decide +kernel
set_option maxRecDepth 20000 in
theorem gw_X0_has : wd_X0_has.all goodWord = true := by decide +kernel
abbrev qc_X0_has (D : va_G) (h : Nat) (a : Nat) (b : Nat) (d : Nat) (w : Int32) (A : Nat → Prop) : Array Value → State → Outcome → State → Prop := va_Qi (fun (r : Int32) (uZ : Unit) => (r = 1 ∧ (0 ≤ w ∧ w < 6)) ∨ (r = 0 ∧ ¬ (0 ≤ w ∧ w < 6))) (fun uZ tZ => kc_pos D A [(h, .inr (0, [.ref a, .ref b, .ref d]))] [] tZ) A
set_option maxHeartbeats 4000000 in
set_option maxRecDepth 100000 in
theorem ct_X0_has (l : Launch) (D : va_G) (h : Nat) (a : Nat) (b : Nat) (d : Nat) (w : Int32) (sz : Nat)  : Met l yX0_has wd_X0_has ({ frames := 0, cells := 0, slots := 0, locals := 0 }) (va_Pc [.ref h, .int w] (kc_pre D [] [(h, .inr (0, [.ref a, .ref b, .ref d]))] sz)) (qc_X0_has D h a b d w (va_A [(h, .inr (0, [.ref a, .ref b, .ref d]))] sz)) 0 0 (va_A [(h, .inr (0, [.ref a, .ref b, .ref d]))] sz) := by
  refine Met.ofW (cc := cX0_has) (maxL := 2) (ret := (some .boolean)) (by decide) rfl ?_
  intro p e s m args below meth c s₁ B hml hv
  obtain ⟨rfl, hsz, hP, hK, hN, hD0⟩ := hv
  have hx := B.exec
  have hb := B.bytes
  have hr := B.returns
  have hts := atoms_spec (ws := wd_X0_has) B.pre
  have hown : s.vm.findClass RX0 = some m.cls := findClass_of_methodNamed B.named
  have hlocks := B.notSynchronized
  subst hsz
  have hD := hD0.self (sz := s.heap.size)
  generalize hAe : va_A [(h, .inr (0, [.ref a, .ref b, .ref d]))] s.heap.size = A at hD ⊢
  have hA : ∀ q : Nat, s.heap.size ≤ q → A q := fun q h => by rw [← hAe]; exact Or.inr h
  have hS : va_S A s.heap s.heap [] := va_S.rf
  have hl := lv_entry ([.ref h, .int w]) (n := 2) (Nat.le_of_ble_eq_true rfl)
  rw [lg_entry_eq]
  generalize (lg_sl ([.ref h, .int w]) ++ List.replicate (2 - (lg_sl ([.ref h, .int w])).length) Slot.unset).toArray = ls at hl ⊢
  have hl : lv_has ls 2 [(0, .ref h), (1, .int w)] := hl
  refine lv_iload_n hx hb dX0_has_0 rfl (lv_at hl 1 rfl) ?_
  refine lv_if_lt (tgt := 14) hx hb dX0_has_1 (by decide) (fun c_1 => ?_) (fun c_1 => ?_)
  · refine lv_iconst (v := 0) hx hb dX0_has_14 (by decide) ?_
    have hP9 := hP.sub (ws' := [(h, .inr (0, [.ref a, .ref b, .ref d]))]) [0] rfl
    have hD9 := hD.sub (ws' := [(h, .inr (0, [.ref a, .ref b, .ref d]))]) [0] (by decide) rfl
    have hK9 := hK.sub (tys' := []) [] rfl
    exact W.zret (v := 0) (ty := .boolean) hx hb hr rfl (fun tZ htZ hW => ⟨⟨0, (), rfl, (Or.inr ⟨rfl, by (try simp only [fa_lt, fa_le, fa_eq]); (try simp only [fa_lt, fa_le, fa_eq] at c_1); (try simp only [ti_0] at *); omega⟩), by rw [htZ]; exact hP9, va_K.moved hW.alike hK9, hD9⟩, hS.F htZ⟩) hS.2.2 dX0_has_15
  · refine lv_iload_n hx hb dX0_has_4 rfl (lv_at hl 1 rfl) ?_
    refine lv_bipush (v := 6) hx hb dX0_has_5 (by decide) ?_
    refine lv_icmp_ge (tgt := 14) hx hb dX0_has_7 (by decide) (fun c_2 => ?_) (fun c_2 => ?_)
    · refine lv_iconst (v := 0) hx hb dX0_has_14 (by decide) ?_
      have hP9 := hP.sub (ws' := [(h, .inr (0, [.ref a, .ref b, .ref d]))]) [0] rfl
      have hD9 := hD.sub (ws' := [(h, .inr (0, [.ref a, .ref b, .ref d]))]) [0] (by decide) rfl
      have hK9 := hK.sub (tys' := []) [] rfl
      exact W.zret (v := 0) (ty := .boolean) hx hb hr rfl (fun tZ htZ hW => ⟨⟨0, (), rfl, (Or.inr ⟨rfl, by (try simp only [fa_lt, fa_le, fa_eq]); (try simp only [fa_lt, fa_le, fa_eq] at c_1); (try simp only [fa_lt, fa_le, fa_eq] at c_2); (try simp only [ti_0] at *); omega⟩), by rw [htZ]; exact hP9, va_K.moved hW.alike hK9, hD9⟩, hS.F htZ⟩) hS.2.2 dX0_has_15
    · refine lv_iconst (v := 1) hx hb dX0_has_10 (by decide) ?_
      refine lv_goto (tgt := 15) hx hb dX0_has_11 (by decide) ?_
      have hP9 := hP.sub (ws' := [(h, .inr (0, [.ref a, .ref b, .ref d]))]) [0] rfl
      have hD9 := hD.sub (ws' := [(h, .inr (0, [.ref a, .ref b, .ref d]))]) [0] (by decide) rfl
      have hK9 := hK.sub (tys' := []) [] rfl
      exact W.zret (v := 1) (ty := .boolean) hx hb hr rfl (fun tZ htZ hW => ⟨⟨1, (), rfl, (Or.inl ⟨rfl, by (try simp only [fa_lt, fa_le, fa_eq]); (try simp only [fa_lt, fa_le, fa_eq] at c_1); (try simp only [fa_lt, fa_le, fa_eq] at c_2); (try simp only [ti_0] at *); omega⟩), by rw [htZ]; exact hP9, va_K.moved hW.alike hK9, hD9⟩, hS.F htZ⟩) hS.2.2 dX0_has_15
theorem dX0_isType_0 : decode cX0_isType 0 = .ok (.iload_n 1, 1) := by decide +kernel
theorem dX0_isType_1 : decode cX0_isType 1 = .ok (.ifCond .lt 12, 3) := by decide +kernel
theorem dX0_isType_4 : decode cX0_isType 4 = .ok (.iload_n 1, 1) := by decide +kernel
theorem dX0_isType_5 : decode cX0_isType 5 = .ok (.iconst 5, 1) := by decide +kernel
theorem dX0_isType_6 : decode cX0_isType 6 = .ok (.if_icmp .ge 7, 3) := by decide +kernel
theorem dX0_isType_9 : decode cX0_isType 9 = .ok (.iconst 1, 1) := by decide +kernel
theorem dX0_isType_10 : decode cX0_isType 10 = .ok (.goto 4, 3) := by decide +kernel
theorem dX0_isType_13 : decode cX0_isType 13 = .ok (.iconst 0, 1) := by decide +kernel
theorem dX0_isType_14 : decode cX0_isType 14 = .ok (.ireturn, 1) := by decide +kernel
def wo_X0_isType : List Cond := []
def wd_X0_isType : List Cond := .code yX0_isType cX0_isType 2 (some .boolean) :: (wo_X0_isType ++ ([] : List Cond))
theorem hd_X0_isType : yX0_isType.cls ≠ "java/lang/invoke/MethodHandle" ∧ yX0_isType.cls ≠ "java/lang/invoke/VarHandle" ∧ (parseMethodDescriptor yX0_isType.desc).map (fun d => d.parameters.length) = some 1 := by decide +kernel
set_option maxRecDepth 20000 in
theorem gw_X0_isType : wd_X0_isType.all goodWord = true := by decide +kernel
abbrev qc_X0_isType (D : va_G) (h : Nat) (a : Nat) (b : Nat) (d : Nat) (w : Int32) (A : Nat → Prop) : Array Value → State → Outcome → State → Prop := va_Qi (fun (r : Int32) (uZ : Unit) => (r = 1 ∧ (0 ≤ w ∧ w < 5)) ∨ (r = 0 ∧ ¬ (0 ≤ w ∧ w < 5))) (fun uZ tZ => kc_pos D A [(h, .inr (0, [.ref a, .ref b, .ref d]))] [] tZ) A
set_option maxHeartbeats 4000000 in
set_option maxRecDepth 100000 in
theorem ct_X0_isType (l : Launch) (D : va_G) (h : Nat) (a : Nat) (b : Nat) (d : Nat) (w : Int32) (sz : Nat)  : Met l yX0_isType wd_X0_isType ({ frames := 0, cells := 0, slots := 0, locals := 0 }) (va_Pc [.ref h, .int w] (kc_pre D [] [(h, .inr (0, [.ref a, .ref b, .ref d]))] sz)) (qc_X0_isType D h a b d w (va_A [(h, .inr (0, [.ref a, .ref b, .ref d]))] sz)) 0 0 (va_A [(h, .inr (0, [.ref a, .ref b, .ref d]))] sz) := by
  refine Met.ofW (cc := cX0_isType) (maxL := 2) (ret := (some .boolean)) (by decide) rfl ?_
  intro p e s m args below meth c s₁ B hml hv
  obtain ⟨rfl, hsz, hP, hK, hN, hD0⟩ := hv
  have hx := B.exec
  have hb := B.bytes
  have hr := B.returns
  have hts := atoms_spec (ws := wd_X0_isType) B.pre
  have hown : s.vm.findClass RX0 = some m.cls := findClass_of_methodNamed B.named
  have hlocks := B.notSynchronized
  subst hsz
  have hD := hD0.self (sz := s.heap.size)
  generalize hAe : va_A [(h, .inr (0, [.ref a, .ref b, .ref d]))] s.heap.size = A at hD ⊢
  have hA : ∀ q : Nat, s.heap.size ≤ q → A q := fun q h => by rw [← hAe]; exact Or.inr h
  have hS : va_S A s.heap s.heap [] := va_S.rf
  have hl := lv_entry ([.ref h, .int w]) (n := 2) (Nat.le_of_ble_eq_true rfl)
  rw [lg_entry_eq]
  generalize (lg_sl ([.ref h, .int w]) ++ List.replicate (2 - (lg_sl ([.ref h, .int w])).length) Slot.unset).toArray = ls at hl ⊢
  have hl : lv_has ls 2 [(0, .ref h), (1, .int w)] := hl
  refine lv_iload_n hx hb dX0_isType_0 rfl (lv_at hl 1 rfl) ?_
  refine lv_if_lt (tgt := 13) hx hb dX0_isType_1 (by decide) (fun c_1 => ?_) (fun c_1 => ?_)
  · refine lv_iconst (v := 0) hx hb dX0_isType_13 (by decide) ?_
    have hP9 := hP.sub (ws' := [(h, .inr (0, [.ref a, .ref b, .ref d]))]) [0] rfl
    have hD9 := hD.sub (ws' := [(h, .inr (0, [.ref a, .ref b, .ref d]))]) [0] (by decide) rfl
    have hK9 := hK.sub (tys' := []) [] rfl
    exact W.zret (v := 0) (ty := .boolean) hx hb hr rfl (fun tZ htZ hW => ⟨⟨0, (), rfl, (Or.inr ⟨rfl, by (try simp only [fa_lt, fa_le, fa_eq]); (try simp only [fa_lt, fa_le, fa_eq] at c_1); (try simp only [ti_0] at *); omega⟩), by rw [htZ]; exact hP9, va_K.moved hW.alike hK9, hD9⟩, hS.F htZ⟩) hS.2.2 dX0_isType_14
  · refine lv_iload_n hx hb dX0_isType_4 rfl (lv_at hl 1 rfl) ?_
    refine lv_iconst (v := 5) hx hb dX0_isType_5 (by decide) ?_
    refine lv_icmp_ge (tgt := 13) hx hb dX0_isType_6 (by decide) (fun c_2 => ?_) (fun c_2 => ?_)
    · refine lv_iconst (v := 0) hx hb dX0_isType_13 (by decide) ?_
      have hP9 := hP.sub (ws' := [(h, .inr (0, [.ref a, .ref b, .ref d]))]) [0] rfl
      have hD9 := hD.sub (ws' := [(h, .inr (0, [.ref a, .ref b, .ref d]))]) [0] (by decide) rfl
      have hK9 := hK.sub (tys' := []) [] rfl
      exact W.zret (v := 0) (ty := .boolean) hx hb hr rfl (fun tZ htZ hW => ⟨⟨0, (), rfl, (Or.inr ⟨rfl, by (try simp only [fa_lt, fa_le, fa_eq]); (try simp only [fa_lt, fa_le, fa_eq] at c_1); (try simp only [fa_lt, fa_le, fa_eq] at c_2); (try simp only [ti_0] at *); omega⟩), by rw [htZ]; exact hP9, va_K.moved hW.alike hK9, hD9⟩, hS.F htZ⟩) hS.2.2 dX0_isType_14
    · refine lv_iconst (v := 1) hx hb dX0_isType_9 (by decide) ?_
      refine lv_goto (tgt := 14) hx hb dX0_isType_10 (by decide) ?_
      have hP9 := hP.sub (ws' := [(h, .inr (0, [.ref a, .ref b, .ref d]))]) [0] rfl
      have hD9 := hD.sub (ws' := [(h, .inr (0, [.ref a, .ref b, .ref d]))]) [0] (by decide) rfl
      have hK9 := hK.sub (tys' := []) [] rfl
      exact W.zret (v := 1) (ty := .boolean) hx hb hr rfl (fun tZ htZ hW => ⟨⟨1, (), rfl, (Or.inl ⟨rfl, by (try simp only [fa_lt, fa_le, fa_eq]); (try simp only [fa_lt, fa_le, fa_eq] at c_1); (try simp only [fa_lt, fa_le, fa_eq] at c_2); (try simp only [ti_0] at *); omega⟩), by rw [htZ]; exact hP9, va_K.moved hW.alike hK9, hD9⟩, hS.F htZ⟩) hS.2.2 dX0_isType_14
theorem dX0_isNull_0 : decode cX0_isNull 0 = .ok (.aload_n 0, 1) := by decide +kernel
theorem dX0_isNull_1 : decode cX0_isNull 1 = .ok (.getfield 11, 3) := by decide +kernel
theorem dX0_isNull_4 : decode cX0_isNull 4 = .ok (.iload_n 1, 1) := by decide +kernel
theorem dX0_isNull_5 : decode cX0_isNull 5 = .ok (.invokestatic 28, 3) := by decide +kernel
theorem dX0_isNull_8 : decode cX0_isNull 8 = .ok (.iconst (-1), 1) := by decide +kernel
theorem dX0_isNull_9 : decode cX0_isNull 9 = .ok (.if_icmp .ne 7, 3) := by decide +kernel
theorem dX0_isNull_12 : decode cX0_isNull 12 = .ok (.iconst 1, 1) := by decide +kernel
theorem dX0_isNull_13 : decode cX0_isNull 13 = .ok (.goto 4, 3) := by decide +kernel
theorem dX0_isNull_16 : decode cX0_isNull 16 = .ok (.iconst 0, 1) := by decide +kernel
theorem dX0_isNull_17 : decode cX0_isNull 17 = .ok (.ireturn, 1) := by decide +kernel
def wo_X0_isNull1 : List Cond := [.fieldLink RX0 11 "DynamicLogicProver$Buffers" "types" "[I", .initialized RX11, .static yX11_at]
def wd_X0_isNull1 : List Cond := .code yX0_isNull cX0_isNull 2 (some .boolean) :: (wo_X0_isNull1 ++ (wd_X11_at ++ (wsX00 ++ ([] : List Cond))))
theorem mo_X0_isNull1 {w : Cond} (i : Nat) (h : wo_X0_isNull1[i]? = some w) : w ∈ wd_X0_isNull1 := List.mem_cons_of_mem _ (List.mem_append_left _ (List.mem_of_getElem? h))
theorem mb_X0_isNull1_0 : ∀ w ∈ wd_X11_at, w ∈ wd_X0_isNull1 := fun w h => List.mem_cons_of_mem _ (List.mem_append_right _ (List.mem_append_left _ h))
theorem mb_X0_isNull1_1 : ∀ w ∈ wsX00, w ∈ wd_X0_isNull1 := fun w h => List.mem_cons_of_mem _ (List.mem_append_right _ (List.mem_append_right _ (List.mem_append_left _ h)))
theorem hd_X0_isNull : yX0_isNull.cls ≠ "java/lang/invoke/MethodHandle" ∧ yX0_isNull.cls ≠ "java/lang/invoke/VarHandle" ∧ (parseMethodDescriptor yX0_isNull.desc).map (fun d => d.parameters.length) = some 1 := by decide +kernel
set_option maxRecDepth 20000 in
theorem gw_X0_isNull1 : wd_X0_isNull1.all goodWord = true := by decide +kernel
abbrev qc_X0_isNull1 (D : va_G) (h : Nat) (a : Nat) (b : Nat) (d : Nat) (ka : ClassId) (f : Nat → Int32) (w : Int32) (A : Nat → Prop) : Array Value → State → Outcome → State → Prop := va_Qi (fun (r : Int32) (uZ : Unit) => r = 1) (fun uZ tZ => kc_pos D A [(h, .inr (0, [.ref a, .ref b, .ref d])), (a, .inl (ka, 6, .inl f))] [] tZ) A
set_option maxHeartbeats 4000000 in
set_option maxRecDepth 100000 in
theorem ct_X0_isNull1 (l : Launch) (D : va_G) (h : Nat) (a : Nat) (b : Nat) (d : Nat) (ka : ClassId) (f : Nat → Int32) (w : Int32) (sz : Nat) (hf : ∀ k, k < 6 → f k = -1) (hb6 : 0 ≤ w ∧ w < 6) : Met l yX0_isNull wd_X0_isNull1 ({ frames := 1, cells := 0, slots := 0, locals := 21 }) (va_Pc [.ref h, .int w] (kc_pre D [(ka, .int)] [(h, .inr (0, [.ref a, .ref b, .ref d])), (a, .inl (ka, 6, .inl f))] sz)) (qc_X0_isNull1 D h a b d ka f w (va_A [(h, .inr (0, [.ref a, .ref b, .ref d])), (a, .inl (ka, 6, .inl f))] sz)) 0 0 (va_A [(h, .inr (0, [.ref a, .ref b, .ref d])), (a, .inl (ka, 6, .inl f))] sz) := by
  refine Met.ofW (cc := cX0_isNull) (maxL := 2) (ret := (some .boolean)) (by decide) rfl ?_
  intro p e s m args below meth c s₁ B hml hv
  obtain ⟨rfl, hsz, hP, hK, hN, hD0⟩ := hv
  have hx := B.exec
  have hb := B.bytes
  have hr := B.returns
  have hts := atoms_spec (ws := wd_X0_isNull1) B.pre
  have hown : s.vm.findClass RX0 = some m.cls := findClass_of_methodNamed B.named
  have hlocks := B.notSynchronized
  subst hsz
  have hD := hD0.self (sz := s.heap.size)
  generalize hAe : va_A [(h, .inr (0, [.ref a, .ref b, .ref d])), (a, .inl (ka, 6, .inl f))] s.heap.size = A at hD ⊢
  have hA : ∀ q : Nat, s.heap.size ≤ q → A q := fun q h => by rw [← hAe]; exact Or.inr h
  have hS : va_S A s.heap s.heap [] := va_S.rf
  have hiX0 : ∀ w ∈ wsX00, w ∈ wd_X0_isNull1 := mb_X0_isNull1_1
  have hl := lv_entry ([.ref h, .int w]) (n := 2) (Nat.le_of_ble_eq_true rfl)
  rw [lg_entry_eq]
  generalize (lg_sl ([.ref h, .int w]) ++ List.replicate (2 - (lg_sl ([.ref h, .int w])).length) Slot.unset).toArray = ls at hl ⊢
  have hl : lv_has ls 2 [(0, .ref h), (1, .int w)] := hl
  refine lv_aload_n hx hb dX0_isNull_0 rfl (lv_at hl 0 rfl) ?_
  refine va_get (D := D) (ci := 0) (v := .ref a) (C := RX0) (T := TX0) (N := 3) hx hb hts hiX0 hown hK hP 0 rfl rfl 0 (by decide) (hts (.fieldLink RX0 11 "DynamicLogicProver$Buffers" "types" "[I") (mo_X0_isNull1 0 rfl)) (fun _ h9 => h9) rfl dX0_isNull_1 ?_
  refine lv_iload_n hx hb dX0_isNull_4 rfl (lv_at hl 1 rfl) ?_
  refine kc_Ni (As := [.ref a, .int w]) (rest := []) (wr := [(h, .inr (0, [.ref a, .ref b, .ref d]))]) ⟨hx, hb, hml, hown, hts⟩ (ct_X11_at l D a ka 6 f w _ (by decide)) ⟨va_cnB 2 hts (goodIn_sub mb_X0_isNull1_0 gw_X11_at) rfl rfl rfl (hN.1 (RX0, 28, yX11_at) (List.mem_of_getElem? (i := 0) rfl)) (hts (.initialized RX11) (mo_X0_isNull1 1 rfl)) hd_X11_at ⟨Nat.le_of_ble_eq_true rfl, Nat.le_of_ble_eq_true rfl⟩, (hts (.static yX11_at) (mo_X0_isNull1 2 rfl)), trivial⟩ hK hN hP hD hS hA [1] [0] [0] rfl rfl (by decide) (by decide) (by decide) rfl rfl hl.1 rfl (Nat.le_of_ble_eq_true rfl) dX0_isNull_5 ⟨Nat.le_of_ble_eq_true rfl, Nat.le_of_ble_eq_true rfl⟩ (fun r_1 u_2 H locs w_3 hP hD hK1 hS => ?_)
  have hP : va_P D vwCl [(h, .inr (0, [.ref a, .ref b, .ref d])), (a, .inl (ka, 6, .inl f))] H := hP
  have hD : va_D A [(h, .inr (0, [.ref a, .ref b, .ref d])), (a, .inl (ka, 6, .inl f))] := hD
  have w_3 : r_1 = at_v f 6 w := w_3
  refine lv_iconst (v := (-1)) hx hb dX0_isNull_8 (by decide) ?_
  refine lv_icmp_ne (tgt := 16) hx hb dX0_isNull_9 (by decide) (fun c_4 => ?_) (fun c_4 => ?_)
  · exact absurd (w_3.trans (at_m1 hf hb6)) c_4
  · refine lv_iconst (v := 1) hx hb dX0_isNull_12 (by decide) ?_
    refine lv_goto (tgt := 17) hx hb dX0_isNull_13 (by decide) ?_
    have hP9 := hP.sub (ws' := [(h, .inr (0, [.ref a, .ref b, .ref d])), (a, .inl (ka, 6, .inl f))]) [0, 1] rfl
    have hD9 := hD.sub (ws' := [(h, .inr (0, [.ref a, .ref b, .ref d])), (a, .inl (ka, 6, .inl f))]) [0, 1] (by decide) rfl
    have hK9 := hK.sub (tys' := []) [] rfl
    exact W.zret (v := 1) (ty := .boolean) hx hb hr rfl (fun tZ htZ hW => ⟨⟨1, (), rfl, rfl, by rw [htZ]; exact hP9, va_K.moved hW.alike hK9, hD9⟩, hS.F htZ⟩) hS.2.2 dX0_isNull_17
theorem dX0_discard_0 : decode cX0_discard 0 = .ok (.aload_n 0, 1) := by decide +kernel
theorem dX0_discard_1 : decode cX0_discard 1 = .ok (.getfield 11, 3) := by decide +kernel
theorem dX0_discard_4 : decode cX0_discard 4 = .ok (.iload_n 1, 1) := by decide +kernel
theorem dX0_discard_5 : decode cX0_discard 5 = .ok (.iconst (-1), 1) := by decide +kernel
theorem dX0_discard_6 : decode cX0_discard 6 = .ok (.invokestatic 32, 3) := by decide +kernel
theorem dX0_discard_9 : decode cX0_discard 9 = .ok (.aload_n 0, 1) := by decide +kernel
theorem dX0_discard_10 : decode cX0_discard 10 = .ok (.getfield 15, 3) := by decide +kernel
theorem dX0_discard_13 : decode cX0_discard 13 = .ok (.iload_n 1, 1) := by decide +kernel
theorem dX0_discard_14 : decode cX0_discard 14 = .ok (.iconst 0, 1) := by decide +kernel
theorem dX0_discard_15 : decode cX0_discard 15 = .ok (.invokestatic 32, 3) := by decide +kernel
theorem dX0_discard_18 : decode cX0_discard 18 = .ok (.return_, 1) := by decide +kernel
def wo_X0_discard : List Cond := [.fieldLink RX0 11 "DynamicLogicProver$Buffers" "types" "[I", .initialized RX11, .static yX11_put, .fieldLink RX0 15 "DynamicLogicProver$Buffers" "lengths" "[I"]
def wd_X0_discard : List Cond := .code yX0_discard cX0_discard 2 none :: (wo_X0_discard ++ (wd_X11_put ++ (wsX00 ++ ([] : List Cond))))
theorem mo_X0_discard {w : Cond} (i : Nat) (h : wo_X0_discard[i]? = some w) : w ∈ wd_X0_discard := List.mem_cons_of_mem _ (List.mem_append_left _ (List.mem_of_getElem? h))
theorem mb_X0_discard_0 : ∀ w ∈ wd_X11_put, w ∈ wd_X0_discard := fun w h => List.mem_cons_of_mem _ (List.mem_append_right _ (List.mem_append_left _ h))
theorem mb_X0_discard_1 : ∀ w ∈ wsX00, w ∈ wd_X0_discard := fun w h => List.mem_cons_of_mem _ (List.mem_append_right _ (List.mem_append_right _ (List.mem_append_left _ h)))
theorem hd_X0_discard : yX0_discard.cls ≠ "java/lang/invoke/MethodHandle" ∧ yX0_discard.cls ≠ "java/lang/invoke/VarHandle" ∧ (parseMethodDescriptor yX0_discard.desc).map (fun d => d.parameters.length) = some 1 := by decide +kernel
set_option maxRecDepth 20000 in
theorem gw_X0_discard : wd_X0_discard.all goodWord = true := by decide +kernel
abbrev qc_X0_discard (D : va_G) (h : Nat) (a : Nat) (b : Nat) (d : Nat) (ka : ClassId) (kb : ClassId) (f : Nat → Int32) (g : Nat → Int32) (w : Int32) (A : Nat → Prop) : Array Value → State → Outcome → State → Prop := va_Qv (fun (uZ : (Nat → Int32) × (Nat → Int32)) => True) (fun uZ tZ => kc_pos D A [(h, .inr (0, [.ref a, .ref b, .ref d])), (a, .inl (ka, 6, .inl uZ.1)), (b, .inl (kb, 6, .inl uZ.2))] [] tZ) A
set_option maxHeartbeats 4000000 in
set_option maxRecDepth 100000 in
theorem ct_X0_discard (l : Launch) (D : va_G) (h : Nat) (a : Nat) (b : Nat) (d : Nat) (ka : ClassId) (kb : ClassId) (f : Nat → Int32) (g : Nat → Int32) (w : Int32) (sz : Nat)  : Met l yX0_discard wd_X0_discard ({ frames := 1, cells := 0, slots := 0, locals := 22 }) (va_Pc [.ref h, .int w] (kc_pre D [(ka, .int), (kb, .int)] [(h, .inr (0, [.ref a, .ref b, .ref d])), (a, .inl (ka, 6, .inl f)), (b, .inl (kb, 6, .inl g))] sz)) (qc_X0_discard D h a b d ka kb f g w (va_A [(h, .inr (0, [.ref a, .ref b, .ref d])), (a, .inl (ka, 6, .inl f)), (b, .inl (kb, 6, .inl g))] sz)) 0 0 (va_A [(h, .inr (0, [.ref a, .ref b, .ref d])), (a, .inl (ka, 6, .inl f)), (b, .inl (kb, 6, .inl g))] sz) := by
  refine Met.ofW (cc := cX0_discard) (maxL := 2) (ret := none) (by decide) rfl ?_
  intro p e s m args below meth c s₁ B hml hv
  obtain ⟨rfl, hsz, hP, hK, hN, hD0⟩ := hv
  have hx := B.exec
  have hb := B.bytes
  have hr := B.returns
  have hts := atoms_spec (ws := wd_X0_discard) B.pre
  have hown : s.vm.findClass RX0 = some m.cls := findClass_of_methodNamed B.named
  have hlocks := B.notSynchronized
  subst hsz
  have hD := hD0.self (sz := s.heap.size)
  generalize hAe : va_A [(h, .inr (0, [.ref a, .ref b, .ref d])), (a, .inl (ka, 6, .inl f)), (b, .inl (kb, 6, .inl g))] s.heap.size = A at hD ⊢
  have hA : ∀ q : Nat, s.heap.size ≤ q → A q := fun q h => by rw [← hAe]; exact Or.inr h
  have hS : va_S A s.heap s.heap [] := va_S.rf
  have hiX0 : ∀ w ∈ wsX00, w ∈ wd_X0_discard := mb_X0_discard_1
  have hl := lv_entry ([.ref h, .int w]) (n := 2) (Nat.le_of_ble_eq_true rfl)
  rw [lg_entry_eq]
  generalize (lg_sl ([.ref h, .int w]) ++ List.replicate (2 - (lg_sl ([.ref h, .int w])).length) Slot.unset).toArray = ls at hl ⊢
  have hl : lv_has ls 2 [(0, .ref h), (1, .int w)] := hl
  refine lv_aload_n hx hb dX0_discard_0 rfl (lv_at hl 0 rfl) ?_
  refine va_get (D := D) (ci := 0) (v := .ref a) (C := RX0) (T := TX0) (N := 3) hx hb hts hiX0 hown hK hP 0 rfl rfl 0 (by decide) (hts (.fieldLink RX0 11 "DynamicLogicProver$Buffers" "types" "[I") (mo_X0_discard 0 rfl)) (fun _ h9 => h9) rfl dX0_discard_1 ?_
  refine lv_iload_n hx hb dX0_discard_4 rfl (lv_at hl 1 rfl) ?_
  refine lv_iconst (v := (-1)) hx hb dX0_discard_5 (by decide) ?_
  refine kc_Nv (As := [.ref a, .int w, .int (-1)]) (rest := []) (wr := [(h, .inr (0, [.ref a, .ref b, .ref d])), (b, .inl (kb, 6, .inl g))]) ⟨hx, hb, hml, hown, hts⟩ (ct_X11_put l D a ka 6 f w (-1) _ (by decide)) ⟨va_cnB 3 hts (goodIn_sub mb_X0_discard_0 gw_X11_put) rfl rfl rfl (hN.1 (RX0, 32, yX11_put) (List.mem_of_getElem? (i := 1) rfl)) (hts (.initialized RX11) (mo_X0_discard 1 rfl)) hd_X11_put ⟨Nat.le_of_ble_eq_true rfl, Nat.le_of_ble_eq_true rfl⟩, (hts (.static yX11_put) (mo_X0_discard 2 rfl)), trivial⟩ hK hN hP hD hS hA [1] [0, 2] [0] rfl rfl (by decide) (by decide) (by decide) rfl rfl hl.1 rfl (Nat.le_of_ble_eq_true rfl) dX0_discard_6 ⟨Nat.le_of_ble_eq_true rfl, Nat.le_of_ble_eq_true rfl⟩ (fun u_2 H locs w_3 hP hD hK1 hS => ?_)
  obtain ⟨o_4, rfl⟩ : ∃ z, z = u_2 := ⟨_, rfl⟩
  have hP : va_P D vwCl [(h, .inr (0, [.ref a, .ref b, .ref d])), (b, .inl (kb, 6, .inl g)), (a, .inl (ka, 6, .inl o_4))] H := hP
  have hD : va_D A [(h, .inr (0, [.ref a, .ref b, .ref d])), (b, .inl (kb, 6, .inl g)), (a, .inl (ka, 6, .inl o_4))] := hD
  have w_3 : o_4 = put_v f 6 w (-1) := w_3
  refine lv_aload_n hx hb dX0_discard_9 rfl (lv_at hl 0 rfl) ?_
  refine va_get (D := D) (ci := 0) (v := .ref b) (C := RX0) (T := TX0) (N := 3) hx hb hts hiX0 hown hK hP 0 rfl rfl 1 (by decide) (hts (.fieldLink RX0 15 "DynamicLogicProver$Buffers" "lengths" "[I") (mo_X0_discard 3 rfl)) (fun _ h9 => h9) rfl dX0_discard_10 ?_
  refine lv_iload_n hx hb dX0_discard_13 rfl (lv_at hl 1 rfl) ?_
  refine lv_iconst (v := 0) hx hb dX0_discard_14 (by decide) ?_
  refine kc_Nv (As := [.ref b, .int w, .int 0]) (rest := []) (wr := [(h, .inr (0, [.ref a, .ref b, .ref d])), (a, .inl (ka, 6, .inl o_4))]) ⟨hx, hb, hml, hown, hts⟩ (ct_X11_put l D b kb 6 g w 0 _ (by decide)) ⟨va_cnB 3 hts (goodIn_sub mb_X0_discard_0 gw_X11_put) rfl rfl rfl (hN.1 (RX0, 32, yX11_put) (List.mem_of_getElem? (i := 1) rfl)) (hts (.initialized RX11) (mo_X0_discard 1 rfl)) hd_X11_put ⟨Nat.le_of_ble_eq_true rfl, Nat.le_of_ble_eq_true rfl⟩, (hts (.static yX11_put) (mo_X0_discard 2 rfl)), trivial⟩ hK hN hP hD hS hA [1] [0, 2] [1] rfl rfl (by decide) (by decide) (by decide) rfl rfl hl.1 rfl (Nat.le_of_ble_eq_true rfl) dX0_discard_15 ⟨Nat.le_of_ble_eq_true rfl, Nat.le_of_ble_eq_true rfl⟩ (fun u_6 H locs w_7 hP hD hK1 hS => ?_)
  obtain ⟨o_8, rfl⟩ : ∃ z, z = u_6 := ⟨_, rfl⟩
  have hP : va_P D vwCl [(h, .inr (0, [.ref a, .ref b, .ref d])), (a, .inl (ka, 6, .inl o_4)), (b, .inl (kb, 6, .inl o_8))] H := hP
  have hD : va_D A [(h, .inr (0, [.ref a, .ref b, .ref d])), (a, .inl (ka, 6, .inl o_4)), (b, .inl (kb, 6, .inl o_8))] := hD
  have w_7 : o_8 = put_v g 6 w 0 := w_7
  have hP9 := hP.sub (ws' := [(h, .inr (0, [.ref a, .ref b, .ref d])), (a, .inl (ka, 6, .inl o_4)), (b, .inl (kb, 6, .inl o_8))]) [0, 1, 2] rfl
  have hD9 := hD.sub (ws' := [(h, .inr (0, [.ref a, .ref b, .ref d])), (a, .inl (ka, 6, .inl o_4)), (b, .inl (kb, 6, .inl o_8))]) [0, 1, 2] (by decide) rfl
  have hK9 := hK.sub (tys' := []) [] rfl
  exact W.vret hx hb hr (fun tZ htZ hW => ⟨⟨(o_4, o_8), rfl, trivial, by rw [htZ]; exact hP9, va_K.moved hW.alike hK9, hD9⟩, hS.F htZ⟩) hS.2.2 dX0_discard_18
theorem dX0_renew_0 : decode cX0_renew 0 = .ok (.aload_n 0, 1) := by decide +kernel
theorem dX0_renew_1 : decode cX0_renew 1 = .ok (.getfield 11, 3) := by decide +kernel
theorem dX0_renew_4 : decode cX0_renew 4 = .ok (.iload_n 1, 1) := by decide +kernel
theorem dX0_renew_5 : decode cX0_renew 5 = .ok (.iload_n 2, 1) := by decide +kernel
theorem dX0_renew_6 : decode cX0_renew 6 = .ok (.invokestatic 32, 3) := by decide +kernel
theorem dX0_renew_9 : decode cX0_renew 9 = .ok (.aload_n 0, 1) := by decide +kernel
theorem dX0_renew_10 : decode cX0_renew 10 = .ok (.getfield 15, 3) := by decide +kernel
theorem dX0_renew_13 : decode cX0_renew 13 = .ok (.iload_n 1, 1) := by decide +kernel
theorem dX0_renew_14 : decode cX0_renew 14 = .ok (.iload_n 3, 1) := by decide +kernel
theorem dX0_renew_15 : decode cX0_renew 15 = .ok (.invokestatic 32, 3) := by decide +kernel
theorem dX0_renew_18 : decode cX0_renew 18 = .ok (.iconst 0, 1) := by decide +kernel
theorem dX0_renew_19 : decode cX0_renew 19 = .ok (.istore 4, 2) := by decide +kernel
theorem dX0_renew_21 : decode cX0_renew 21 = .ok (.iload 4, 2) := by decide +kernel
theorem dX0_renew_23 : decode cX0_renew 23 = .ok (.iload_n 3, 1) := by decide +kernel
theorem dX0_renew_24 : decode cX0_renew 24 = .ok (.if_icmp .ge 31, 3) := by decide +kernel
theorem dX0_renew_27 : decode cX0_renew 27 = .ok (.iload 4, 2) := by decide +kernel
theorem dX0_renew_29 : decode cX0_renew 29 = .ok (.bipush 60, 2) := by decide +kernel
theorem dX0_renew_31 : decode cX0_renew 31 = .ok (.if_icmp .ge 24, 3) := by decide +kernel
theorem dX0_renew_34 : decode cX0_renew 34 = .ok (.aload_n 0, 1) := by decide +kernel
theorem dX0_renew_35 : decode cX0_renew 35 = .ok (.getfield 18, 3) := by decide +kernel
theorem dX0_renew_38 : decode cX0_renew 38 = .ok (.iload_n 1, 1) := by decide +kernel
theorem dX0_renew_39 : decode cX0_renew 39 = .ok (.bipush 60, 2) := by decide +kernel
theorem dX0_renew_41 : decode cX0_renew 41 = .ok (.imul, 1) := by decide +kernel
theorem dX0_renew_42 : decode cX0_renew 42 = .ok (.iload 4, 2) := by decide +kernel
theorem dX0_renew_44 : decode cX0_renew 44 = .ok (.iadd, 1) := by decide +kernel
theorem dX0_renew_45 : decode cX0_renew 45 = .ok (.lconst 0, 1) := by decide +kernel
theorem dX0_renew_46 : decode cX0_renew 46 = .ok (.invokestatic 36, 3) := by decide +kernel
theorem dX0_renew_49 : decode cX0_renew 49 = .ok (.iinc 4 1, 3) := by decide +kernel
theorem dX0_renew_52 : decode cX0_renew 52 = .ok (.goto (-31), 3) := by decide +kernel
theorem dX0_renew_55 : decode cX0_renew 55 = .ok (.return_, 1) := by decide +kernel
def wo_X0_renew : List Cond := [.fieldLink RX0 11 "DynamicLogicProver$Buffers" "types" "[I", .initialized RX11, .static yX11_put, .fieldLink RX0 15 "DynamicLogicProver$Buffers" "lengths" "[I", .fieldLink RX0 18 "DynamicLogicProver$Buffers" "cells" "[J", .static yX11_putWide]
def wd_X0_renew : List Cond := .code yX0_renew cX0_renew 5 none :: (wo_X0_renew ++ (wd_X11_put ++ (wd_X11_putWide ++ (wsX00 ++ ([] : List Cond)))))
theorem mo_X0_renew {w : Cond} (i : Nat) (h : wo_X0_renew[i]? = some w) : w ∈ wd_X0_renew := List.mem_cons_of_mem _ (List.mem_append_left _ (List.mem_of_getElem? h))
theorem mb_X0_renew_0 : ∀ w ∈ wd_X11_put, w ∈ wd_X0_renew := fun w h => List.mem_cons_of_mem _ (List.mem_append_right _ (List.mem_append_left _ h))
theorem mb_X0_renew_1 : ∀ w ∈ wd_X11_putWide, w ∈ wd_X0_renew := fun w h => List.mem_cons_of_mem _ (List.mem_append_right _ (List.mem_append_right _ (List.mem_append_left _ h)))
theorem mb_X0_renew_2 : ∀ w ∈ wsX00, w ∈ wd_X0_renew := fun w h => List.mem_cons_of_mem _ (List.mem_append_right _ (List.mem_append_right _ (List.mem_append_right _ (List.mem_append_left _ h))))
theorem hd_X0_renew : yX0_renew.cls ≠ "java/lang/invoke/MethodHandle" ∧ yX0_renew.cls ≠ "java/lang/invoke/VarHandle" ∧ (parseMethodDescriptor yX0_renew.desc).map (fun d => d.parameters.length) = some 3 := by decide +kernel
set_option maxRecDepth 20000 in
theorem gw_X0_renew : wd_X0_renew.all goodWord = true := by decide +kernel
abbrev qc_X0_renew (D : va_G) (h : Nat) (a : Nat) (b : Nat) (d : Nat) (ka : ClassId) (kb : ClassId) (kd : ClassId) (f : Nat → Int32) (g : Nat → Int32) (x : Nat → Int64) (w : Int32) (ty : Int32) (le : Int32) (A : Nat → Prop) : Array Value → State → Outcome → State → Prop := va_Qv (fun (uZ : (Nat → Int32) × (Nat → Int32) × (Nat → Int64)) => True) (fun uZ tZ => kc_pos D A [(h, .inr (0, [.ref a, .ref b, .ref d])), (a, .inl (ka, 6, .inl uZ.1)), (b, .inl (kb, 6, .inl uZ.2.1)), (d, .inl (kd, 360, .inr (.inl uZ.2.2)))] [] tZ) A
set_option maxHeartbeats 4000000 in
set_option maxRecDepth 100000 in
theorem ct_X0_renew (l : Launch) (D : va_G) (h : Nat) (a : Nat) (b : Nat) (d : Nat) (ka : ClassId) (kb : ClassId) (kd : ClassId) (f : Nat → Int32) (g : Nat → Int32) (x : Nat → Int64) (w : Int32) (ty : Int32) (le : Int32) (sz : Nat)  : Met l yX0_renew wd_X0_renew ({ frames := 1, cells := 0, slots := 0, locals := 23 }) (va_Pc [.ref h, .int w, .int ty, .int le] (kc_pre D [(ka, .int), (kb, .int), (kd, .long)] [(h, .inr (0, [.ref a, .ref b, .ref d])), (a, .inl (ka, 6, .inl f)), (b, .inl (kb, 6, .inl g)), (d, .inl (kd, 360, .inr (.inl x)))] sz)) (qc_X0_renew D h a b d ka kb kd f g x w ty le (va_A [(h, .inr (0, [.ref a, .ref b, .ref d])), (a, .inl (ka, 6, .inl f)), (b, .inl (kb, 6, .inl g)), (d, .inl (kd, 360, .inr (.inl x)))] sz)) 0 0 (va_A [(h, .inr (0, [.ref a, .ref b, .ref d])), (a, .inl (ka, 6, .inl f)), (b, .inl (kb, 6, .inl g)), (d, .inl (kd, 360, .inr (.inl x)))] sz) := by
  refine Met.ofW (cc := cX0_renew) (maxL := 5) (ret := none) (by decide) rfl ?_
  intro p e s m args below meth c s₁ B hml hv
  obtain ⟨rfl, hsz, hP, hK, hN, hD0⟩ := hv
  have hx := B.exec
  have hb := B.bytes
  have hr := B.returns
  have hts := atoms_spec (ws := wd_X0_renew) B.pre
  have hown : s.vm.findClass RX0 = some m.cls := findClass_of_methodNamed B.named
  have hlocks := B.notSynchronized
  subst hsz
  have hD := hD0.self (sz := s.heap.size)
  generalize hAe : va_A [(h, .inr (0, [.ref a, .ref b, .ref d])), (a, .inl (ka, 6, .inl f)), (b, .inl (kb, 6, .inl g)), (d, .inl (kd, 360, .inr (.inl x)))] s.heap.size = A at hD ⊢
  have hA : ∀ q : Nat, s.heap.size ≤ q → A q := fun q h => by rw [← hAe]; exact Or.inr h
  have hS : va_S A s.heap s.heap [] := va_S.rf
  have hiX0 : ∀ w ∈ wsX00, w ∈ wd_X0_renew := mb_X0_renew_2
  have hl := lv_entry ([.ref h, .int w, .int ty, .int le]) (n := 5) (Nat.le_of_ble_eq_true rfl)
  rw [lg_entry_eq]
  generalize (lg_sl ([.ref h, .int w, .int ty, .int le]) ++ List.replicate (5 - (lg_sl ([.ref h, .int w, .int ty, .int le])).length) Slot.unset).toArray = ls at hl ⊢
  have hl : lv_has ls 5 [(0, .ref h), (1, .int w), (2, .int ty), (3, .int le)] := hl
  refine lv_aload_n hx hb dX0_renew_0 rfl (lv_at hl 0 rfl) ?_
  refine va_get (D := D) (ci := 0) (v := .ref a) (C := RX0) (T := TX0) (N := 3) hx hb hts hiX0 hown hK hP 0 rfl rfl 0 (by decide) (hts (.fieldLink RX0 11 "DynamicLogicProver$Buffers" "types" "[I") (mo_X0_renew 0 rfl)) (fun _ h9 => h9) rfl dX0_renew_1 ?_
  refine lv_iload_n hx hb dX0_renew_4 rfl (lv_at hl 1 rfl) ?_
  refine lv_iload_n hx hb dX0_renew_5 rfl (lv_at hl 2 rfl) ?_
  refine kc_Nv (As := [.ref a, .int w, .int ty]) (rest := []) (wr := [(h, .inr (0, [.ref a, .ref b, .ref d])), (b, .inl (kb, 6, .inl g)), (d, .inl (kd, 360, .inr (.inl x)))]) ⟨hx, hb, hml, hown, hts⟩ (ct_X11_put l D a ka 6 f w ty _ (by decide)) ⟨va_cnB 3 hts (goodIn_sub mb_X0_renew_0 gw_X11_put) rfl rfl rfl (hN.1 (RX0, 32, yX11_put) (List.mem_of_getElem? (i := 1) rfl)) (hts (.initialized RX11) (mo_X0_renew 1 rfl)) hd_X11_put ⟨Nat.le_of_ble_eq_true rfl, Nat.le_of_ble_eq_true rfl⟩, (hts (.static yX11_put) (mo_X0_renew 2 rfl)), trivial⟩ hK hN hP hD hS hA [1] [0, 2, 3] [0] rfl rfl (by decide) (by decide) (by decide) rfl rfl hl.1 rfl (Nat.le_of_ble_eq_true rfl) dX0_renew_6 ⟨Nat.le_of_ble_eq_true rfl, Nat.le_of_ble_eq_true rfl⟩ (fun u_2 H locs w_3 hP hD hK1 hS => ?_)
  obtain ⟨o_4, rfl⟩ : ∃ z, z = u_2 := ⟨_, rfl⟩
  have hP : va_P D vwCl [(h, .inr (0, [.ref a, .ref b, .ref d])), (b, .inl (kb, 6, .inl g)), (d, .inl (kd, 360, .inr (.inl x))), (a, .inl (ka, 6, .inl o_4))] H := hP
  have hD : va_D A [(h, .inr (0, [.ref a, .ref b, .ref d])), (b, .inl (kb, 6, .inl g)), (d, .inl (kd, 360, .inr (.inl x))), (a, .inl (ka, 6, .inl o_4))] := hD
  have w_3 : o_4 = put_v f 6 w ty := w_3
  refine lv_aload_n hx hb dX0_renew_9 rfl (lv_at hl 0 rfl) ?_
  refine va_get (D := D) (ci := 0) (v := .ref b) (C := RX0) (T := TX0) (N := 3) hx hb hts hiX0 hown hK hP 0 rfl rfl 1 (by decide) (hts (.fieldLink RX0 15 "DynamicLogicProver$Buffers" "lengths" "[I") (mo_X0_renew 3 rfl)) (fun _ h9 => h9) rfl dX0_renew_10 ?_
  refine lv_iload_n hx hb dX0_renew_13 rfl (lv_at hl 1 rfl) ?_
  refine lv_iload_n hx hb dX0_renew_14 rfl (lv_at hl 3 rfl) ?_
  refine kc_Nv (As := [.ref b, .int w, .int le]) (rest := []) (wr := [(h, .inr (0, [.ref a, .ref b, .ref d])), (d, .inl (kd, 360, .inr (.inl x))), (a, .inl (ka, 6, .inl o_4))]) ⟨hx, hb, hml, hown, hts⟩ (ct_X11_put l D b kb 6 g w le _ (by decide)) ⟨va_cnB 3 hts (goodIn_sub mb_X0_renew_0 gw_X11_put) rfl rfl rfl (hN.1 (RX0, 32, yX11_put) (List.mem_of_getElem? (i := 1) rfl)) (hts (.initialized RX11) (mo_X0_renew 1 rfl)) hd_X11_put ⟨Nat.le_of_ble_eq_true rfl, Nat.le_of_ble_eq_true rfl⟩, (hts (.static yX11_put) (mo_X0_renew 2 rfl)), trivial⟩ hK hN hP hD hS hA [1] [0, 2, 3] [1] rfl rfl (by decide) (by decide) (by decide) rfl rfl hl.1 rfl (Nat.le_of_ble_eq_true rfl) dX0_renew_15 ⟨Nat.le_of_ble_eq_true rfl, Nat.le_of_ble_eq_true rfl⟩ (fun u_6 H locs w_7 hP hD hK1 hS => ?_)
  obtain ⟨o_8, rfl⟩ : ∃ z, z = u_6 := ⟨_, rfl⟩
  have hP : va_P D vwCl [(h, .inr (0, [.ref a, .ref b, .ref d])), (d, .inl (kd, 360, .inr (.inl x))), (a, .inl (ka, 6, .inl o_4)), (b, .inl (kb, 6, .inl o_8))] H := hP
  have hD : va_D A [(h, .inr (0, [.ref a, .ref b, .ref d])), (d, .inl (kd, 360, .inr (.inl x))), (a, .inl (ka, 6, .inl o_4)), (b, .inl (kb, 6, .inl o_8))] := hD
  have w_7 : o_8 = put_v g 6 w le := w_7
  refine lv_iconst (v := 0) hx hb dX0_renew_18 (by decide) ?_
  refine lv_istore (lv' := [(4, .int 0), (0, .ref h), (1, .int w), (2, .int ty), (3, .int le)]) hx hb dX0_renew_19 hl (by decide) rfl (fun ls hl => ?_)
  have lp_9 : ∀ (fu_11 : Nat) (j : Nat) (y : Nat → Int64) (H : Heap) (locs : List Loc) (ls : Array Slot), (j ≤ 60) → 60 - j < fu_11 → va_P D vwCl [(h, .inr (0, [.ref a, .ref b, .ref d])), (d, .inl (kd, 360, .inr (.inl y))), (a, .inl (ka, 6, .inl o_4)), (b, .inl (kb, 6, .inl o_8))] H → va_D A [(h, .inr (0, [.ref a, .ref b, .ref d])), (d, .inl (kd, 360, .inr (.inl y))), (a, .inl (ka, 6, .inl o_4)), (b, .inl (kb, 6, .inl o_8))] → va_S A s.heap H locs → lv_has ls 5 [(4, .int (nI j)), (0, .ref h), (1, .int w), (2, .int ty), (3, .int le)] → W p l e (headSpec wd_X0_renew ({ frames := 1, cells := 0, slots := 0, locals := 23 })).room s m [.ref h, .int w, .int ty, .int le].toArray below meth c H locs 0 0 (MQ below (qc_X0_renew D h a b d ka kb kd f g x w ty le A) [.ref h, .int w, .int ty, .int le].toArray s 0 0 A) (F0 m 21 ls []) := by
    intro fu_11
    induction fu_11 with
    | zero => intro j y H locs ls hj hf; exact absurd hf (Nat.not_lt_zero _)
    | succ fu_11 ih_10 =>
      intro j y H locs ls hj hf hP hD hS hl
      refine lv_iload hx hb dX0_renew_21 (lv_at hl 0 rfl) ?_
      refine lv_iload_n hx hb dX0_renew_23 rfl (lv_at hl 4 rfl) ?_
      refine lv_icmp_ge (tgt := 55) hx hb dX0_renew_24 (by decide) (fun c_12 => ?_) (fun c_12 => ?_)
      · have hP9 := hP.sub (ws' := [(h, .inr (0, [.ref a, .ref b, .ref d])), (a, .inl (ka, 6, .inl o_4)), (b, .inl (kb, 6, .inl o_8)), (d, .inl (kd, 360, .inr (.inl y)))]) [0, 2, 3, 1] rfl
        have hD9 := hD.sub (ws' := [(h, .inr (0, [.ref a, .ref b, .ref d])), (a, .inl (ka, 6, .inl o_4)), (b, .inl (kb, 6, .inl o_8)), (d, .inl (kd, 360, .inr (.inl y)))]) [0, 2, 3, 1] (by decide) rfl
        have hK9 := hK.sub (tys' := []) [] rfl
        exact W.vret hx hb hr (fun tZ htZ hW => ⟨⟨(o_4, o_8, y), rfl, trivial, by rw [htZ]; exact hP9, va_K.moved hW.alike hK9, hD9⟩, hS.F htZ⟩) hS.2.2 dX0_renew_55
      · refine lv_iload hx hb dX0_renew_27 (lv_at hl 0 rfl) ?_
        refine lv_bipush (v := 60) hx hb dX0_renew_29 (by decide) ?_
        refine lv_icmp_ge (tgt := 55) hx hb dX0_renew_31 (by decide) (fun c_13 => ?_) (fun c_13 => ?_)
        · have hP9 := hP.sub (ws' := [(h, .inr (0, [.ref a, .ref b, .ref d])), (a, .inl (ka, 6, .inl o_4)), (b, .inl (kb, 6, .inl o_8)), (d, .inl (kd, 360, .inr (.inl y)))]) [0, 2, 3, 1] rfl
          have hD9 := hD.sub (ws' := [(h, .inr (0, [.ref a, .ref b, .ref d])), (a, .inl (ka, 6, .inl o_4)), (b, .inl (kb, 6, .inl o_8)), (d, .inl (kd, 360, .inr (.inl y)))]) [0, 2, 3, 1] (by decide) rfl
          have hK9 := hK.sub (tys' := []) [] rfl
          exact W.vret hx hb hr (fun tZ htZ hW => ⟨⟨(o_4, o_8, y), rfl, trivial, by rw [htZ]; exact hP9, va_K.moved hW.alike hK9, hD9⟩, hS.F htZ⟩) hS.2.2 dX0_renew_55
        · refine lv_aload_n hx hb dX0_renew_34 rfl (lv_at hl 1 rfl) ?_
          refine va_get (D := D) (ci := 0) (v := .ref d) (C := RX0) (T := TX0) (N := 3) hx hb hts hiX0 hown hK hP 0 rfl rfl 2 (by decide) (hts (.fieldLink RX0 18 "DynamicLogicProver$Buffers" "cells" "[J") (mo_X0_renew 4 rfl)) (fun _ h9 => h9) rfl dX0_renew_35 ?_
          refine lv_iload_n hx hb dX0_renew_38 rfl (lv_at hl 2 rfl) ?_
          refine lv_bipush (v := 60) hx hb dX0_renew_39 (by decide) ?_
          refine lv_imul hx hb dX0_renew_41 ?_
          refine lv_topi (fun x_14 ex_14 => ?_)
          refine lv_iload hx hb dX0_renew_42 (lv_at hl 0 rfl) ?_
          refine lv_iadd hx hb dX0_renew_44 ?_
          refine lv_topi (fun x_15 ex_15 => ?_)
          refine lv_lconst (v := 0) hx hb dX0_renew_45 (by decide) ?_
          refine kc_Nv (As := [.ref d, .int x_15, .long 0]) (rest := []) (wr := [(h, .inr (0, [.ref a, .ref b, .ref d])), (a, .inl (ka, 6, .inl o_4)), (b, .inl (kb, 6, .inl o_8))]) ⟨hx, hb, hml, hown, hts⟩ (ct_X11_putWide l D d kd 360 y x_15 0 _ (by decide)) ⟨va_cnB 3 hts (goodIn_sub mb_X0_renew_1 gw_X11_putWide) rfl rfl rfl (hN.1 (RX0, 36, yX11_putWide) (List.mem_of_getElem? (i := 2) rfl)) (hts (.initialized RX11) (mo_X0_renew 1 rfl)) hd_X11_putWide ⟨Nat.le_of_ble_eq_true rfl, Nat.le_of_ble_eq_true rfl⟩, (hts (.static yX11_putWide) (mo_X0_renew 5 rfl)), trivial⟩ hK hN hP hD hS hA [1] [0, 2, 3] [2] rfl rfl (by decide) (by decide) (by decide) rfl rfl hl.1 rfl (Nat.le_of_ble_eq_true rfl) dX0_renew_46 ⟨Nat.le_of_ble_eq_true rfl, Nat.le_of_ble_eq_true rfl⟩ (fun u_17 H locs w_18 hP hD hK1 hS => ?_)
          obtain ⟨o_19, rfl⟩ : ∃ z, z = u_17 := ⟨_, rfl⟩
          have hP : va_P D vwCl [(h, .inr (0, [.ref a, .ref b, .ref d])), (a, .inl (ka, 6, .inl o_4)), (b, .inl (kb, 6, .inl o_8)), (d, .inl (kd, 360, .inr (.inl o_19)))] H := hP
          have hD : va_D A [(h, .inr (0, [.ref a, .ref b, .ref d])), (a, .inl (ka, 6, .inl o_4)), (b, .inl (kb, 6, .inl o_8)), (d, .inl (kd, 360, .inr (.inl o_19)))] := hD
          have w_18 : o_19 = putL_v y 360 x_15 0 := w_18
          refine lv_iinc (v := nI (j + 1)) (lv' := [(4, .int (nI (j + 1))), (0, .ref h), (1, .int w), (2, .int ty), (3, .int le)]) hx hb dX0_renew_49 hl (k := 0) rfl (by rw [← nI_1]; rfl) (by decide) rfl (fun ls hl => ?_)
          refine lv_goto (tgt := 21) hx hb dX0_renew_52 (by decide) ?_
          exact ih_10 (j + 1) o_19 _ _ _ (nk_lt (n := 60) (by decide) hj c_13) (by have := nk_lt (n := 60) (by decide) hj c_13; omega) (hP.sub [0, 3, 1, 2] rfl) (hD.sub [0, 3, 1, 2] (by decide) rfl) hS (lv_sub hl [0, 1, 2, 3, 4] rfl)
  exact lp_9 _ 0 x _ _ _ (Nat.zero_le _) (Nat.lt_succ_self _) hP hD hS (lv_sub hl [0, 1, 2, 3, 4] rfl)
theorem dX5_init_0 : decode cX5_init 0 = .ok (.aload_n 0, 1) := by decide +kernel
theorem dX5_init_1 : decode cX5_init 1 = .ok (.invokespecial 3, 3) := by decide +kernel
theorem dX5_init_4 : decode cX5_init 4 = .ok (.aload_n 0, 1) := by decide +kernel
theorem dX5_init_5 : decode cX5_init 5 = .ok (.bipush 6, 2) := by decide +kernel
theorem dX5_init_7 : decode cX5_init 7 = .ok (.newarray .int, 2) := by decide +kernel
theorem dX5_init_9 : decode cX5_init 9 = .ok (.putfield 9, 3) := by decide +kernel
theorem dX5_init_12 : decode cX5_init 12 = .ok (.aload_n 0, 1) := by decide +kernel
theorem dX5_init_13 : decode cX5_init 13 = .ok (.bipush 6, 2) := by decide +kernel
theorem dX5_init_15 : decode cX5_init 15 = .ok (.newarray .int, 2) := by decide +kernel
theorem dX5_init_17 : decode cX5_init 17 = .ok (.putfield 15, 3) := by decide +kernel
theorem dX5_init_20 : decode cX5_init 20 = .ok (.aload_n 0, 1) := by decide +kernel
theorem dX5_init_21 : decode cX5_init 21 = .ok (.bipush 6, 2) := by decide +kernel
theorem dX5_init_23 : decode cX5_init 23 = .ok (.newarray .int, 2) := by decide +kernel
theorem dX5_init_25 : decode cX5_init 25 = .ok (.putfield 18, 3) := by decide +kernel
theorem dX5_init_28 : decode cX5_init 28 = .ok (.aload_n 0, 1) := by decide +kernel
theorem dX5_init_29 : decode cX5_init 29 = .ok (.iconst 1, 1) := by decide +kernel
theorem dX5_init_30 : decode cX5_init 30 = .ok (.putfield 21, 3) := by decide +kernel
theorem dX5_init_33 : decode cX5_init 33 = .ok (.aload_n 0, 1) := by decide +kernel
theorem dX5_init_34 : decode cX5_init 34 = .ok (.iconst 1, 1) := by decide +kernel
theorem dX5_init_35 : decode cX5_init 35 = .ok (.putfield 25, 3) := by decide +kernel
theorem dX5_init_38 : decode cX5_init 38 = .ok (.return_, 1) := by decide +kernel
def wo_X5_init : List Cond := [.methodLink RX5 3 objectInit, .instanceMethod objectInit, .code objectInit ⟨#[0xb1]⟩ 1 none, .arrayClass .int, .fieldLink RX5 9 "DynamicLogicProver$Partition" "classes" "[I", .fieldLink RX5 15 "DynamicLogicProver$Partition" "before" "[I", .fieldLink RX5 18 "DynamicLogicProver$Partition" "images" "[I", .fieldLink RX5 21 "DynamicLogicProver$Partition" "worlds" "I", .fieldLink RX5 25 "DynamicLogicProver$Partition" "number" "I"]
def wd_X5_init : List Cond := .code yX5_init cX5_init 1 none :: (wo_X5_init ++ (wsX50 ++ ([] : List Cond)))
theorem mo_X5_init {w : Cond} (i : Nat) (h : wo_X5_init[i]? = some w) : w ∈ wd_X5_init := List.mem_cons_of_mem _ (List.mem_append_left _ (List.mem_of_getElem? h))
theorem mb_X5_init_0 : ∀ w ∈ wsX50, w ∈ wd_X5_init := fun w h => List.mem_cons_of_mem _ (List.mem_append_right _ (List.mem_append_left _ h))
theorem hd_X5_init : yX5_init.cls ≠ "java/lang/invoke/MethodHandle" ∧ yX5_init.cls ≠ "java/lang/invoke/VarHandle" ∧ (parseMethodDescriptor yX5_init.desc).map (fun d => d.parameters.length) = some 0 := by decide +kernel
set_option maxRecDepth 20000 in
theorem gw_X5_init : wd_X5_init.all goodWord = true := by decide +kernel
abbrev qc_X5_init (D : va_G) (h : Nat) (A : Nat → Prop) : Array Value → State → Outcome → State → Prop := va_Qv (fun (uZ : (Nat) × (Nat) × (Nat) × (ClassId) × (ClassId) × (ClassId)) => True) (fun uZ tZ => kc_pos D A [(h, .inr (5, [.ref uZ.1, .ref uZ.2.1, .ref uZ.2.2.1, .int 1, .int 1])), (uZ.1, .inl (uZ.2.2.2.1, 6, .inl (fun _ => 0))), (uZ.2.1, .inl (uZ.2.2.2.2.1, 6, .inl (fun _ => 0))), (uZ.2.2.1, .inl (uZ.2.2.2.2.2, 6, .inl (fun _ => 0)))] [(uZ.2.2.2.1, .int), (uZ.2.2.2.2.1, .int), (uZ.2.2.2.2.2, .int)] tZ) A
set_option maxHeartbeats 4000000 in
set_option maxRecDepth 100000 in
theorem ct_X5_init (l : Launch) (D : va_G) (h : Nat) (sz : Nat)  : Met l yX5_init wd_X5_init ({ frames := 1, cells := 3, slots := 18, locals := 12 }) (va_Pc [.ref h] (kc_pre D [] [(h, .inr (5, [.null, .null, .null, .int 0, .int 0]))] sz)) (qc_X5_init D h (va_A [(h, .inr (5, [.null, .null, .null, .int 0, .int 0]))] sz)) 3 18 (va_A [(h, .inr (5, [.null, .null, .null, .int 0, .int 0]))] sz) := by
  refine Met.ofW (cc := cX5_init) (maxL := 1) (ret := none) (by decide) rfl ?_
  intro p e s m args below meth c s₁ B hml hv
  obtain ⟨rfl, hsz, hP, hK, hN, hD0⟩ := hv
  have hx := B.exec
  have hb := B.bytes
  have hr := B.returns
  have hts := atoms_spec (ws := wd_X5_init) B.pre
  have hown : s.vm.findClass RX5 = some m.cls := findClass_of_methodNamed B.named
  have hlocks := B.notSynchronized
  have hin : meth.name = "<init>" := (name_of_methodNamed B.named B.method).1
  subst hsz
  have hD := hD0.self (sz := s.heap.size)
  generalize hAe : va_A [(h, .inr (5, [.null, .null, .null, .int 0, .int 0]))] s.heap.size = A at hD ⊢
  have hA : ∀ q : Nat, s.heap.size ≤ q → A q := fun q h => by rw [← hAe]; exact Or.inr h
  have hS : va_S A s.heap s.heap [] := va_S.rf
  have hiX5 : ∀ w ∈ wsX50, w ∈ wd_X5_init := mb_X5_init_0
  have hl := lv_entry ([.ref h]) (n := 1) (Nat.le_of_ble_eq_true rfl)
  rw [lg_entry_eq]
  generalize (lg_sl ([.ref h]) ++ List.replicate (1 - (lg_sl ([.ref h])).length) Slot.unset).toArray = ls at hl ⊢
  have hl : lv_has ls 1 [(0, .ref h)] := hl
  refine lv_aload_n hx hb dX5_init_0 rfl (lv_at hl 0 rfl) ?_
  refine W.objInit hx hb hown (hts (.methodLink RX5 3 objectInit) (mo_X5_init 0 rfl)) (hts (.instanceMethod objectInit) (mo_X5_init 1 rfl)) (hts (.code objectInit ⟨#[0xb1]⟩ 1 none) (mo_X5_init 2 rfl)) rfl (by rw [hml]; exact hl.1) rfl dX5_init_1 (Nat.le_of_ble_eq_true rfl) (Nat.le_of_ble_eq_true rfl) ?_
  refine W.eq (g2 := F0 m 4 ls []) rfl ?_
  refine lv_aload_n hx hb dX5_init_4 rfl (lv_at hl 0 rfl) ?_
  refine lv_bipush (v := 6) hx hb dX5_init_5 (by decide) ?_
  refine va_newa (atype := .int) (ty := .int) (a0 := (6, .inl (fun _ => 0))) hx hb (hts (.arrayClass .int) (mo_X5_init 3 rfl)) rfl hK hP hD hS hA (fun _ => rfl) (by decide) (N' := 6) (by decide) (by decide) (Nat.le_of_ble_eq_true rfl) (Nat.le_of_ble_eq_true rfl) dX5_init_7 (fun q_1 k_2 H hK hP hD hS => ?_)
  have hP : va_P D vwCl [(h, .inr (5, [.null, .null, .null, .int 0, .int 0])), (q_1, .inl (k_2, 6, .inl (fun _ => 0)))] H := hP
  have hD : va_D A [(h, .inr (5, [.null, .null, .null, .int 0, .int 0])), (q_1, .inl (k_2, 6, .inl (fun _ => 0)))] := hD
  have hK : va_K D vwCl [(k_2, .int)] s := hK
  refine W.widen (k := 1) (n := 6) (by decide) (Nat.le_of_ble_eq_true rfl) ?_
  refine va_putF (D := D) (ci := 5) (v := .ref q_1) (ty := .array .int) (C := RX5) (T := TX5) (N := 5) hx hb hts hiX5 tyX5 tyX5_ok nmX5 hown hK hP hD hS 0 rfl rfl 0 (by decide) (hts (.fieldLink RX5 9 "DynamicLogicProver$Partition" "classes" "[I") (mo_X5_init 4 rfl)) (fun _ h9 => h9) rfl hin rfl (tyX5_ok 0 (by decide)) rfl rfl (Nat.le_of_ble_eq_true rfl) dX5_init_9 (fun H locs hP hD hS => ?_)
  have hP : va_P D vwCl [(h, .inr (5, [.ref q_1, .null, .null, .int 0, .int 0])), (q_1, .inl (k_2, 6, .inl (fun _ => 0)))] H := hP
  have hD : va_D A [(h, .inr (5, [.ref q_1, .null, .null, .int 0, .int 0])), (q_1, .inl (k_2, 6, .inl (fun _ => 0)))] := hD
  refine lv_aload_n hx hb dX5_init_12 rfl (lv_at hl 0 rfl) ?_
  refine lv_bipush (v := 6) hx hb dX5_init_13 (by decide) ?_
  refine va_newa (atype := .int) (ty := .int) (a0 := (6, .inl (fun _ => 0))) hx hb (hts (.arrayClass .int) (mo_X5_init 3 rfl)) rfl hK hP hD hS hA (fun _ => rfl) (by decide) (N' := 6) (by decide) (by decide) (Nat.le_of_ble_eq_true rfl) (Nat.le_of_ble_eq_true rfl) dX5_init_15 (fun q_3 k_4 H hK hP hD hS => ?_)
  have hP : va_P D vwCl [(h, .inr (5, [.ref q_1, .null, .null, .int 0, .int 0])), (q_1, .inl (k_2, 6, .inl (fun _ => 0))), (q_3, .inl (k_4, 6, .inl (fun _ => 0)))] H := hP
  have hD : va_D A [(h, .inr (5, [.ref q_1, .null, .null, .int 0, .int 0])), (q_1, .inl (k_2, 6, .inl (fun _ => 0))), (q_3, .inl (k_4, 6, .inl (fun _ => 0)))] := hD
  have hK : va_K D vwCl [(k_2, .int), (k_4, .int)] s := hK
  refine W.widen (k := 2) (n := 12) (by decide) (Nat.le_of_ble_eq_true rfl) ?_
  refine va_putF (D := D) (ci := 5) (v := .ref q_3) (ty := .array .int) (C := RX5) (T := TX5) (N := 5) hx hb hts hiX5 tyX5 tyX5_ok nmX5 hown hK hP hD hS 0 rfl rfl 1 (by decide) (hts (.fieldLink RX5 15 "DynamicLogicProver$Partition" "before" "[I") (mo_X5_init 5 rfl)) (fun _ h9 => h9) rfl hin rfl (tyX5_ok 1 (by decide)) rfl rfl (Nat.le_of_ble_eq_true rfl) dX5_init_17 (fun H locs hP hD hS => ?_)
  have hP : va_P D vwCl [(h, .inr (5, [.ref q_1, .ref q_3, .null, .int 0, .int 0])), (q_1, .inl (k_2, 6, .inl (fun _ => 0))), (q_3, .inl (k_4, 6, .inl (fun _ => 0)))] H := hP
  have hD : va_D A [(h, .inr (5, [.ref q_1, .ref q_3, .null, .int 0, .int 0])), (q_1, .inl (k_2, 6, .inl (fun _ => 0))), (q_3, .inl (k_4, 6, .inl (fun _ => 0)))] := hD
  refine lv_aload_n hx hb dX5_init_20 rfl (lv_at hl 0 rfl) ?_
  refine lv_bipush (v := 6) hx hb dX5_init_21 (by decide) ?_
  refine va_newa (atype := .int) (ty := .int) (a0 := (6, .inl (fun _ => 0))) hx hb (hts (.arrayClass .int) (mo_X5_init 3 rfl)) rfl hK hP hD hS hA (fun _ => rfl) (by decide) (N' := 6) (by decide) (by decide) (Nat.le_of_ble_eq_true rfl) (Nat.le_of_ble_eq_true rfl) dX5_init_23 (fun q_5 k_6 H hK hP hD hS => ?_)
  have hP : va_P D vwCl [(h, .inr (5, [.ref q_1, .ref q_3, .null, .int 0, .int 0])), (q_1, .inl (k_2, 6, .inl (fun _ => 0))), (q_3, .inl (k_4, 6, .inl (fun _ => 0))), (q_5, .inl (k_6, 6, .inl (fun _ => 0)))] H := hP
  have hD : va_D A [(h, .inr (5, [.ref q_1, .ref q_3, .null, .int 0, .int 0])), (q_1, .inl (k_2, 6, .inl (fun _ => 0))), (q_3, .inl (k_4, 6, .inl (fun _ => 0))), (q_5, .inl (k_6, 6, .inl (fun _ => 0)))] := hD
  have hK : va_K D vwCl [(k_2, .int), (k_4, .int), (k_6, .int)] s := hK
  refine W.widen (k := 3) (n := 18) (by decide) (Nat.le_of_ble_eq_true rfl) ?_
  refine va_putF (D := D) (ci := 5) (v := .ref q_5) (ty := .array .int) (C := RX5) (T := TX5) (N := 5) hx hb hts hiX5 tyX5 tyX5_ok nmX5 hown hK hP hD hS 0 rfl rfl 2 (by decide) (hts (.fieldLink RX5 18 "DynamicLogicProver$Partition" "images" "[I") (mo_X5_init 6 rfl)) (fun _ h9 => h9) rfl hin rfl (tyX5_ok 2 (by decide)) rfl rfl (Nat.le_of_ble_eq_true rfl) dX5_init_25 (fun H locs hP hD hS => ?_)
  have hP : va_P D vwCl [(h, .inr (5, [.ref q_1, .ref q_3, .ref q_5, .int 0, .int 0])), (q_1, .inl (k_2, 6, .inl (fun _ => 0))), (q_3, .inl (k_4, 6, .inl (fun _ => 0))), (q_5, .inl (k_6, 6, .inl (fun _ => 0)))] H := hP
  have hD : va_D A [(h, .inr (5, [.ref q_1, .ref q_3, .ref q_5, .int 0, .int 0])), (q_1, .inl (k_2, 6, .inl (fun _ => 0))), (q_3, .inl (k_4, 6, .inl (fun _ => 0))), (q_5, .inl (k_6, 6, .inl (fun _ => 0)))] := hD
  refine lv_aload_n hx hb dX5_init_28 rfl (lv_at hl 0 rfl) ?_
  refine lv_iconst (v := 1) hx hb dX5_init_29 (by decide) ?_
  refine va_put (D := D) (ci := 5) (v := .int 1) (ty := .int) (C := RX5) (T := TX5) (N := 5) hx hb hts hiX5 tyX5 tyX5_ok nmX5 hown hK hP hD hS 0 rfl rfl 3 (by decide) (hts (.fieldLink RX5 21 "DynamicLogicProver$Partition" "worlds" "I") (mo_X5_init 7 rfl)) (fun _ h9 => h9) rfl (tyX5_ok 3 (by decide)) rfl rfl (Nat.le_of_ble_eq_true rfl) dX5_init_30 (fun H locs hP hD hS => ?_)
  have hP : va_P D vwCl [(h, .inr (5, [.ref q_1, .ref q_3, .ref q_5, .int 1, .int 0])), (q_1, .inl (k_2, 6, .inl (fun _ => 0))), (q_3, .inl (k_4, 6, .inl (fun _ => 0))), (q_5, .inl (k_6, 6, .inl (fun _ => 0)))] H := hP
  have hD : va_D A [(h, .inr (5, [.ref q_1, .ref q_3, .ref q_5, .int 1, .int 0])), (q_1, .inl (k_2, 6, .inl (fun _ => 0))), (q_3, .inl (k_4, 6, .inl (fun _ => 0))), (q_5, .inl (k_6, 6, .inl (fun _ => 0)))] := hD
  refine lv_aload_n hx hb dX5_init_33 rfl (lv_at hl 0 rfl) ?_
  refine lv_iconst (v := 1) hx hb dX5_init_34 (by decide) ?_
  refine va_put (D := D) (ci := 5) (v := .int 1) (ty := .int) (C := RX5) (T := TX5) (N := 5) hx hb hts hiX5 tyX5 tyX5_ok nmX5 hown hK hP hD hS 0 rfl rfl 4 (by decide) (hts (.fieldLink RX5 25 "DynamicLogicProver$Partition" "number" "I") (mo_X5_init 8 rfl)) (fun _ h9 => h9) rfl (tyX5_ok 4 (by decide)) rfl rfl (Nat.le_of_ble_eq_true rfl) dX5_init_35 (fun H locs hP hD hS => ?_)
  have hP : va_P D vwCl [(h, .inr (5, [.ref q_1, .ref q_3, .ref q_5, .int 1, .int 1])), (q_1, .inl (k_2, 6, .inl (fun _ => 0))), (q_3, .inl (k_4, 6, .inl (fun _ => 0))), (q_5, .inl (k_6, 6, .inl (fun _ => 0)))] H := hP
  have hD : va_D A [(h, .inr (5, [.ref q_1, .ref q_3, .ref q_5, .int 1, .int 1])), (q_1, .inl (k_2, 6, .inl (fun _ => 0))), (q_3, .inl (k_4, 6, .inl (fun _ => 0))), (q_5, .inl (k_6, 6, .inl (fun _ => 0)))] := hD
  have hP9 := hP.sub (ws' := [(h, .inr (5, [.ref q_1, .ref q_3, .ref q_5, .int 1, .int 1])), (q_1, .inl (k_2, 6, .inl (fun _ => 0))), (q_3, .inl (k_4, 6, .inl (fun _ => 0))), (q_5, .inl (k_6, 6, .inl (fun _ => 0)))]) [0, 1, 2, 3] rfl
  have hD9 := hD.sub (ws' := [(h, .inr (5, [.ref q_1, .ref q_3, .ref q_5, .int 1, .int 1])), (q_1, .inl (k_2, 6, .inl (fun _ => 0))), (q_3, .inl (k_4, 6, .inl (fun _ => 0))), (q_5, .inl (k_6, 6, .inl (fun _ => 0)))]) [0, 1, 2, 3] (by decide) rfl
  have hK9 := hK.sub (tys' := [(k_2, .int), (k_4, .int), (k_6, .int)]) [0, 1, 2] rfl
  refine W.widen (k := 3) (n := 18) (Nat.le_of_ble_eq_true rfl) (Nat.le_of_ble_eq_true rfl) ?_
  exact W.vret hx hb hr (fun tZ htZ hW => ⟨⟨(q_1, q_3, q_5, k_2, k_4, k_6), rfl, trivial, by rw [htZ]; exact hP9, va_K.moved hW.alike hK9, hD9⟩, hS.F htZ⟩) hS.2.2 dX5_init_38
theorem dX5_size_0 : decode cX5_size 0 = .ok (.aload_n 0, 1) := by decide +kernel
theorem dX5_size_1 : decode cX5_size 1 = .ok (.getfield 25, 3) := by decide +kernel
theorem dX5_size_4 : decode cX5_size 4 = .ok (.ireturn, 1) := by decide +kernel
def wo_X5_size : List Cond := [.fieldLink RX5 25 "DynamicLogicProver$Partition" "number" "I"]
def wd_X5_size : List Cond := .code yX5_size cX5_size 1 (some .int) :: (wo_X5_size ++ (wsX50 ++ ([] : List Cond)))
theorem mo_X5_size {w : Cond} (i : Nat) (h : wo_X5_size[i]? = some w) : w ∈ wd_X5_size := List.mem_cons_of_mem _ (List.mem_append_left _ (List.mem_of_getElem? h))
theorem mb_X5_size_0 : ∀ w ∈ wsX50, w ∈ wd_X5_size := fun w h => List.mem_cons_of_mem _ (List.mem_append_right _ (List.mem_append_left _ h))
theorem hd_X5_size : yX5_size.cls ≠ "java/lang/invoke/MethodHandle" ∧ yX5_size.cls ≠ "java/lang/invoke/VarHandle" ∧ (parseMethodDescriptor yX5_size.desc).map (fun d => d.parameters.length) = some 0 := by decide +kernel
set_option maxRecDepth 20000 in
theorem gw_X5_size : wd_X5_size.all goodWord = true := by decide +kernel
abbrev qc_X5_size (D : va_G) (h : Nat) (a : Nat) (b : Nat) (d : Nat) (k : Int32) (n : Int32) (A : Nat → Prop) : Array Value → State → Outcome → State → Prop := va_Qi (fun (r : Int32) (uZ : Unit) => r = n) (fun uZ tZ => kc_pos D A [(h, .inr (5, [.ref a, .ref b, .ref d, .int k, .int n]))] [] tZ) A
set_option maxHeartbeats 4000000 in
set_option maxRecDepth 100000 in
theorem ct_X5_size (l : Launch) (D : va_G) (h : Nat) (a : Nat) (b : Nat) (d : Nat) (k : Int32) (n : Int32) (sz : Nat)  : Met l yX5_size wd_X5_size ({ frames := 0, cells := 0, slots := 0, locals := 0 }) (va_Pc [.ref h] (kc_pre D [] [(h, .inr (5, [.ref a, .ref b, .ref d, .int k, .int n]))] sz)) (qc_X5_size D h a b d k n (va_A [(h, .inr (5, [.ref a, .ref b, .ref d, .int k, .int n]))] sz)) 0 0 (va_A [(h, .inr (5, [.ref a, .ref b, .ref d, .int k, .int n]))] sz) := by
  refine Met.ofW (cc := cX5_size) (maxL := 1) (ret := (some .int)) (by decide) rfl ?_
  intro p e s m args below meth c s₁ B hml hv
  obtain ⟨rfl, hsz, hP, hK, hN, hD0⟩ := hv
  have hx := B.exec
  have hb := B.bytes
  have hr := B.returns
  have hts := atoms_spec (ws := wd_X5_size) B.pre
  have hown : s.vm.findClass RX5 = some m.cls := findClass_of_methodNamed B.named
  have hlocks := B.notSynchronized
  subst hsz
  have hD := hD0.self (sz := s.heap.size)
  generalize hAe : va_A [(h, .inr (5, [.ref a, .ref b, .ref d, .int k, .int n]))] s.heap.size = A at hD ⊢
  have hA : ∀ q : Nat, s.heap.size ≤ q → A q := fun q h => by rw [← hAe]; exact Or.inr h
  have hS : va_S A s.heap s.heap [] := va_S.rf
  have hiX5 : ∀ w ∈ wsX50, w ∈ wd_X5_size := mb_X5_size_0
  have hl := lv_entry ([.ref h]) (n := 1) (Nat.le_of_ble_eq_true rfl)
  rw [lg_entry_eq]
  generalize (lg_sl ([.ref h]) ++ List.replicate (1 - (lg_sl ([.ref h])).length) Slot.unset).toArray = ls at hl ⊢
  have hl : lv_has ls 1 [(0, .ref h)] := hl
  refine lv_aload_n hx hb dX5_size_0 rfl (lv_at hl 0 rfl) ?_
  refine va_get (D := D) (ci := 5) (v := .int n) (C := RX5) (T := TX5) (N := 5) hx hb hts hiX5 hown hK hP 0 rfl rfl 4 (by decide) (hts (.fieldLink RX5 25 "DynamicLogicProver$Partition" "number" "I") (mo_X5_size 0 rfl)) (fun _ h9 => h9) rfl dX5_size_1 ?_
  have hP9 := hP.sub (ws' := [(h, .inr (5, [.ref a, .ref b, .ref d, .int k, .int n]))]) [0] rfl
  have hD9 := hD.sub (ws' := [(h, .inr (5, [.ref a, .ref b, .ref d, .int k, .int n]))]) [0] (by decide) rfl
  have hK9 := hK.sub (tys' := []) [] rfl
  exact W.iret (v := n) hx hb hr (fun tZ htZ hW => ⟨⟨n, (), rfl, rfl, by rw [htZ]; exact hP9, va_K.moved hW.alike hK9, hD9⟩, hS.F htZ⟩) hS.2.2 dX5_size_4
theorem dX5_classOf_0 : decode cX5_classOf 0 = .ok (.aload_n 0, 1) := by decide +kernel
theorem dX5_classOf_1 : decode cX5_classOf 1 = .ok (.getfield 9, 3) := by decide +kernel
theorem dX5_classOf_4 : decode cX5_classOf 4 = .ok (.iload_n 1, 1) := by decide +kernel
theorem dX5_classOf_5 : decode cX5_classOf 5 = .ok (.invokestatic 28, 3) := by decide +kernel
theorem dX5_classOf_8 : decode cX5_classOf 8 = .ok (.ireturn, 1) := by decide +kernel
def wo_X5_classOf : List Cond := [.fieldLink RX5 9 "DynamicLogicProver$Partition" "classes" "[I", .initialized RX11, .static yX11_at]
def wd_X5_classOf : List Cond := .code yX5_classOf cX5_classOf 2 (some .int) :: (wo_X5_classOf ++ (wd_X11_at ++ (wsX50 ++ ([] : List Cond))))
theorem mo_X5_classOf {w : Cond} (i : Nat) (h : wo_X5_classOf[i]? = some w) : w ∈ wd_X5_classOf := List.mem_cons_of_mem _ (List.mem_append_left _ (List.mem_of_getElem? h))
theorem mb_X5_classOf_0 : ∀ w ∈ wd_X11_at, w ∈ wd_X5_classOf := fun w h => List.mem_cons_of_mem _ (List.mem_append_right _ (List.mem_append_left _ h))
theorem mb_X5_classOf_1 : ∀ w ∈ wsX50, w ∈ wd_X5_classOf := fun w h => List.mem_cons_of_mem _ (List.mem_append_right _ (List.mem_append_right _ (List.mem_append_left _ h)))
theorem hd_X5_classOf : yX5_classOf.cls ≠ "java/lang/invoke/MethodHandle" ∧ yX5_classOf.cls ≠ "java/lang/invoke/VarHandle" ∧ (parseMethodDescriptor yX5_classOf.desc).map (fun d => d.parameters.length) = some 1 := by decide +kernel
set_option maxRecDepth 20000 in
theorem gw_X5_classOf : wd_X5_classOf.all goodWord = true := by decide +kernel
abbrev qc_X5_classOf (D : va_G) (h : Nat) (a : Nat) (b : Nat) (d : Nat) (ka : ClassId) (f : Nat → Int32) (k : Int32) (n : Int32) (w : Int32) (A : Nat → Prop) : Array Value → State → Outcome → State → Prop := va_Qi (fun (r : Int32) (uZ : Unit) => r = at_v f 6 w) (fun uZ tZ => kc_pos D A [(h, .inr (5, [.ref a, .ref b, .ref d, .int k, .int n])), (a, .inl (ka, 6, .inl f))] [] tZ) A
set_option maxHeartbeats 4000000 in
set_option maxRecDepth 100000 in
theorem ct_X5_classOf (l : Launch) (D : va_G) (h : Nat) (a : Nat) (b : Nat) (d : Nat) (ka : ClassId) (f : Nat → Int32) (k : Int32) (n : Int32) (w : Int32) (sz : Nat)  : Met l yX5_classOf wd_X5_classOf ({ frames := 1, cells := 0, slots := 0, locals := 21 }) (va_Pc [.ref h, .int w] (kc_pre D [(ka, .int)] [(h, .inr (5, [.ref a, .ref b, .ref d, .int k, .int n])), (a, .inl (ka, 6, .inl f))] sz)) (qc_X5_classOf D h a b d ka f k n w (va_A [(h, .inr (5, [.ref a, .ref b, .ref d, .int k, .int n])), (a, .inl (ka, 6, .inl f))] sz)) 0 0 (va_A [(h, .inr (5, [.ref a, .ref b, .ref d, .int k, .int n])), (a, .inl (ka, 6, .inl f))] sz) := by
  refine Met.ofW (cc := cX5_classOf) (maxL := 2) (ret := (some .int)) (by decide) rfl ?_
  intro p e s m args below meth c s₁ B hml hv
  obtain ⟨rfl, hsz, hP, hK, hN, hD0⟩ := hv
  have hx := B.exec
  have hb := B.bytes
  have hr := B.returns
  have hts := atoms_spec (ws := wd_X5_classOf) B.pre
  have hown : s.vm.findClass RX5 = some m.cls := findClass_of_methodNamed B.named
  have hlocks := B.notSynchronized
  subst hsz
  have hD := hD0.self (sz := s.heap.size)
  generalize hAe : va_A [(h, .inr (5, [.ref a, .ref b, .ref d, .int k, .int n])), (a, .inl (ka, 6, .inl f))] s.heap.size = A at hD ⊢
  have hA : ∀ q : Nat, s.heap.size ≤ q → A q := fun q h => by rw [← hAe]; exact Or.inr h
  have hS : va_S A s.heap s.heap [] := va_S.rf
  have hiX5 : ∀ w ∈ wsX50, w ∈ wd_X5_classOf := mb_X5_classOf_1
  have hl := lv_entry ([.ref h, .int w]) (n := 2) (Nat.le_of_ble_eq_true rfl)
  rw [lg_entry_eq]
  generalize (lg_sl ([.ref h, .int w]) ++ List.replicate (2 - (lg_sl ([.ref h, .int w])).length) Slot.unset).toArray = ls at hl ⊢
  have hl : lv_has ls 2 [(0, .ref h), (1, .int w)] := hl
  refine lv_aload_n hx hb dX5_classOf_0 rfl (lv_at hl 0 rfl) ?_
  refine va_get (D := D) (ci := 5) (v := .ref a) (C := RX5) (T := TX5) (N := 5) hx hb hts hiX5 hown hK hP 0 rfl rfl 0 (by decide) (hts (.fieldLink RX5 9 "DynamicLogicProver$Partition" "classes" "[I") (mo_X5_classOf 0 rfl)) (fun _ h9 => h9) rfl dX5_classOf_1 ?_
  refine lv_iload_n hx hb dX5_classOf_4 rfl (lv_at hl 1 rfl) ?_
  refine kc_Ni (As := [.ref a, .int w]) (rest := []) (wr := [(h, .inr (5, [.ref a, .ref b, .ref d, .int k, .int n]))]) ⟨hx, hb, hml, hown, hts⟩ (ct_X11_at l D a ka 6 f w _ (by decide)) ⟨va_cnB 2 hts (goodIn_sub mb_X5_classOf_0 gw_X11_at) rfl rfl rfl (hN.1 (RX5, 28, yX11_at) (List.mem_of_getElem? (i := 17) rfl)) (hts (.initialized RX11) (mo_X5_classOf 1 rfl)) hd_X11_at ⟨Nat.le_of_ble_eq_true rfl, Nat.le_of_ble_eq_true rfl⟩, (hts (.static yX11_at) (mo_X5_classOf 2 rfl)), trivial⟩ hK hN hP hD hS hA [1] [0] [0] rfl rfl (by decide) (by decide) (by decide) rfl rfl hl.1 rfl (Nat.le_of_ble_eq_true rfl) dX5_classOf_5 ⟨Nat.le_of_ble_eq_true rfl, Nat.le_of_ble_eq_true rfl⟩ (fun r_1 u_2 H locs w_3 hP hD hK1 hS => ?_)
  have hP : va_P D vwCl [(h, .inr (5, [.ref a, .ref b, .ref d, .int k, .int n])), (a, .inl (ka, 6, .inl f))] H := hP
  have hD : va_D A [(h, .inr (5, [.ref a, .ref b, .ref d, .int k, .int n])), (a, .inl (ka, 6, .inl f))] := hD
  have w_3 : r_1 = at_v f 6 w := w_3
  have hP9 := hP.sub (ws' := [(h, .inr (5, [.ref a, .ref b, .ref d, .int k, .int n])), (a, .inl (ka, 6, .inl f))]) [0, 1] rfl
  have hD9 := hD.sub (ws' := [(h, .inr (5, [.ref a, .ref b, .ref d, .int k, .int n])), (a, .inl (ka, 6, .inl f))]) [0, 1] (by decide) rfl
  have hK9 := hK.sub (tys' := []) [] rfl
  exact W.iret (v := r_1) hx hb hr (fun tZ htZ hW => ⟨⟨r_1, (), rfl, w_3, by rw [htZ]; exact hP9, va_K.moved hW.alike hK9, hD9⟩, hS.F htZ⟩) hS.2.2 dX5_classOf_8
theorem dX5_begin_0 : decode cX5_begin 0 = .ok (.aload_n 0, 1) := by decide +kernel
theorem dX5_begin_1 : decode cX5_begin 1 = .ok (.iload_n 1, 1) := by decide +kernel
theorem dX5_begin_2 : decode cX5_begin 2 = .ok (.putfield 21, 3) := by decide +kernel
theorem dX5_begin_5 : decode cX5_begin 5 = .ok (.aload_n 0, 1) := by decide +kernel
theorem dX5_begin_6 : decode cX5_begin 6 = .ok (.iconst 1, 1) := by decide +kernel
theorem dX5_begin_7 : decode cX5_begin 7 = .ok (.putfield 25, 3) := by decide +kernel
theorem dX5_begin_10 : decode cX5_begin 10 = .ok (.aload_n 0, 1) := by decide +kernel
theorem dX5_begin_11 : decode cX5_begin 11 = .ok (.getfield 9, 3) := by decide +kernel
theorem dX5_begin_14 : decode cX5_begin 14 = .ok (.iconst 0, 1) := by decide +kernel
theorem dX5_begin_15 : decode cX5_begin 15 = .ok (.invokestatic 32, 3) := by decide +kernel
theorem dX5_begin_18 : decode cX5_begin 18 = .ok (.return_, 1) := by decide +kernel
def wo_X5_begin : List Cond := [.fieldLink RX5 21 "DynamicLogicProver$Partition" "worlds" "I", .fieldLink RX5 25 "DynamicLogicProver$Partition" "number" "I", .fieldLink RX5 9 "DynamicLogicProver$Partition" "classes" "[I", .methodLink RX5 32 yJ7_fill_53178, .static yJ7_fill_53178, .initialized RJ7]
def wd_X5_begin : List Cond := .code yX5_begin cX5_begin 2 none :: (wo_X5_begin ++ (wd_J7_fill_53178 ++ (wsX50 ++ ([] : List Cond))))
theorem mo_X5_begin {w : Cond} (i : Nat) (h : wo_X5_begin[i]? = some w) : w ∈ wd_X5_begin := List.mem_cons_of_mem _ (List.mem_append_left _ (List.mem_of_getElem? h))
theorem mb_X5_begin_0 : ∀ w ∈ wd_J7_fill_53178, w ∈ wd_X5_begin := fun w h => List.mem_cons_of_mem _ (List.mem_append_right _ (List.mem_append_left _ h))
theorem mb_X5_begin_1 : ∀ w ∈ wsX50, w ∈ wd_X5_begin := fun w h => List.mem_cons_of_mem _ (List.mem_append_right _ (List.mem_append_right _ (List.mem_append_left _ h)))
theorem hd_X5_begin : yX5_begin.cls ≠ "java/lang/invoke/MethodHandle" ∧ yX5_begin.cls ≠ "java/lang/invoke/VarHandle" ∧ (parseMethodDescriptor yX5_begin.desc).map (fun d => d.parameters.length) = some 1 := by decide +kernel
set_option maxRecDepth 20000 in
theorem gw_X5_begin : wd_X5_begin.all goodWord = true := by decide +kernel
abbrev qc_X5_begin (D : va_G) (h : Nat) (a : Nat) (b : Nat) (d : Nat) (ka : ClassId) (f : Nat → Int32) (k : Int32) (n : Int32) (w : Int32) (A : Nat → Prop) : Array Value → State → Outcome → State → Prop := va_Qv (fun (uZ : (Nat → Int32)) => True) (fun uZ tZ => kc_pos D A [(h, .inr (5, [.ref a, .ref b, .ref d, .int w, .int 1])), (a, .inl (ka, 6, .inl uZ))] [] tZ) A
set_option maxHeartbeats 4000000 in
set_option maxRecDepth 100000 in
theorem ct_X5_begin (l : Launch) (D : va_G) (h : Nat) (a : Nat) (b : Nat) (d : Nat) (ka : ClassId) (f : Nat → Int32) (k : Int32) (n : Int32) (w : Int32) (sz : Nat)  : Met l yX5_begin wd_X5_begin ({ frames := 1, cells := 0, slots := 0, locals := 23 }) (va_Pc [.ref h, .int w] (kc_pre D [(ka, .int)] [(h, .inr (5, [.ref a, .ref b, .ref d, .int k, .int n])), (a, .inl (ka, 6, .inl f))] sz)) (qc_X5_begin D h a b d ka f k n w (va_A [(h, .inr (5, [.ref a, .ref b, .ref d, .int k, .int n])), (a, .inl (ka, 6, .inl f))] sz)) 0 0 (va_A [(h, .inr (5, [.ref a, .ref b, .ref d, .int k, .int n])), (a, .inl (ka, 6, .inl f))] sz) := by
  refine Met.ofW (cc := cX5_begin) (maxL := 2) (ret := none) (by decide) rfl ?_
  intro p e s m args below meth c s₁ B hml hv
  obtain ⟨rfl, hsz, hP, hK, hN, hD0⟩ := hv
  have hx := B.exec
  have hb := B.bytes
  have hr := B.returns
  have hts := atoms_spec (ws := wd_X5_begin) B.pre
  have hown : s.vm.findClass RX5 = some m.cls := findClass_of_methodNamed B.named
  have hlocks := B.notSynchronized
  subst hsz
  have hD := hD0.self (sz := s.heap.size)
  generalize hAe : va_A [(h, .inr (5, [.ref a, .ref b, .ref d, .int k, .int n])), (a, .inl (ka, 6, .inl f))] s.heap.size = A at hD ⊢
  have hA : ∀ q : Nat, s.heap.size ≤ q → A q := fun q h => by rw [← hAe]; exact Or.inr h
  have hS : va_S A s.heap s.heap [] := va_S.rf
  have hiX5 : ∀ w ∈ wsX50, w ∈ wd_X5_begin := mb_X5_begin_1
  have hl := lv_entry ([.ref h, .int w]) (n := 2) (Nat.le_of_ble_eq_true rfl)
  rw [lg_entry_eq]
  generalize (lg_sl ([.ref h, .int w]) ++ List.replicate (2 - (lg_sl ([.ref h, .int w])).length) Slot.unset).toArray = ls at hl ⊢
  have hl : lv_has ls 2 [(0, .ref h), (1, .int w)] := hl
  refine lv_aload_n hx hb dX5_begin_0 rfl (lv_at hl 0 rfl) ?_
  refine lv_iload_n hx hb dX5_begin_1 rfl (lv_at hl 1 rfl) ?_
  refine va_put (D := D) (ci := 5) (v := .int w) (ty := .int) (C := RX5) (T := TX5) (N := 5) hx hb hts hiX5 tyX5 tyX5_ok nmX5 hown hK hP hD hS 0 rfl rfl 3 (by decide) (hts (.fieldLink RX5 21 "DynamicLogicProver$Partition" "worlds" "I") (mo_X5_begin 0 rfl)) (fun _ h9 => h9) rfl (tyX5_ok 3 (by decide)) rfl rfl (Nat.le_of_ble_eq_true rfl) dX5_begin_2 (fun H locs hP hD hS => ?_)
  have hP : va_P D vwCl [(h, .inr (5, [.ref a, .ref b, .ref d, .int w, .int n])), (a, .inl (ka, 6, .inl f))] H := hP
  have hD : va_D A [(h, .inr (5, [.ref a, .ref b, .ref d, .int w, .int n])), (a, .inl (ka, 6, .inl f))] := hD
  refine lv_aload_n hx hb dX5_begin_5 rfl (lv_at hl 0 rfl) ?_
  refine lv_iconst (v := 1) hx hb dX5_begin_6 (by decide) ?_
  refine va_put (D := D) (ci := 5) (v := .int 1) (ty := .int) (C := RX5) (T := TX5) (N := 5) hx hb hts hiX5 tyX5 tyX5_ok nmX5 hown hK hP hD hS 0 rfl rfl 4 (by decide) (hts (.fieldLink RX5 25 "DynamicLogicProver$Partition" "number" "I") (mo_X5_begin 1 rfl)) (fun _ h9 => h9) rfl (tyX5_ok 4 (by decide)) rfl rfl (Nat.le_of_ble_eq_true rfl) dX5_begin_7 (fun H locs hP hD hS => ?_)
  have hP : va_P D vwCl [(h, .inr (5, [.ref a, .ref b, .ref d, .int w, .int 1])), (a, .inl (ka, 6, .inl f))] H := hP
  have hD : va_D A [(h, .inr (5, [.ref a, .ref b, .ref d, .int w, .int 1])), (a, .inl (ka, 6, .inl f))] := hD
  refine lv_aload_n hx hb dX5_begin_10 rfl (lv_at hl 0 rfl) ?_
  refine va_get (D := D) (ci := 5) (v := .ref a) (C := RX5) (T := TX5) (N := 5) hx hb hts hiX5 hown hK hP 0 rfl rfl 0 (by decide) (hts (.fieldLink RX5 9 "DynamicLogicProver$Partition" "classes" "[I") (mo_X5_begin 2 rfl)) (fun _ h9 => h9) rfl dX5_begin_11 ?_
  refine lv_iconst (v := 0) hx hb dX5_begin_14 (by decide) ?_
  refine kc_Sv (As := [.ref a, .int 0]) (rest := []) (wr := [(h, .inr (5, [.ref a, .ref b, .ref d, .int w, .int 1]))]) ⟨hx, hb, hml, hown, hts⟩ (ct_J7_fill_53178 l D a ka 6 f 0 _ (by decide)) (va_cwS 2 hts (kg_S (mo_X5_begin 3 rfl) (mo_X5_begin 4 rfl) (mo_X5_begin 5 rfl) (goodIn_sub mb_X5_begin_0 gw_J7_fill_53178)) rfl rfl rfl hd_J7_fill_53178 ⟨Nat.le_of_ble_eq_true rfl, Nat.le_of_ble_eq_true rfl⟩) hK hN hP hD hS hA [1] [0] [0] rfl rfl (by decide) (by decide) (by decide) rfl rfl hl.1 rfl (Nat.le_of_ble_eq_true rfl) dX5_begin_15 ⟨Nat.le_of_ble_eq_true rfl, Nat.le_of_ble_eq_true rfl⟩ (fun u_2 H locs w_3 hP hD hK1 hS => ?_)
  obtain ⟨o_4, rfl⟩ : ∃ z, z = u_2 := ⟨_, rfl⟩
  have hP : va_P D vwCl [(h, .inr (5, [.ref a, .ref b, .ref d, .int w, .int 1])), (a, .inl (ka, 6, .inl o_4))] H := hP
  have hD : va_D A [(h, .inr (5, [.ref a, .ref b, .ref d, .int w, .int 1])), (a, .inl (ka, 6, .inl o_4))] := hD
  have w_3 : ∀ k, k < 6 → o_4 k = 0 := w_3
  have hP9 := hP.sub (ws' := [(h, .inr (5, [.ref a, .ref b, .ref d, .int w, .int 1])), (a, .inl (ka, 6, .inl o_4))]) [0, 1] rfl
  have hD9 := hD.sub (ws' := [(h, .inr (5, [.ref a, .ref b, .ref d, .int w, .int 1])), (a, .inl (ka, 6, .inl o_4))]) [0, 1] (by decide) rfl
  have hK9 := hK.sub (tys' := []) [] rfl
  exact W.vret hx hb hr (fun tZ htZ hW => ⟨⟨o_4, rfl, trivial, by rw [htZ]; exact hP9, va_K.moved hW.alike hK9, hD9⟩, hS.F htZ⟩) hS.2.2 dX5_begin_18
theorem dX5_split_0 : decode cX5_split 0 = .ok (.aload_n 0, 1) := by decide +kernel
theorem dX5_split_1 : decode cX5_split 1 = .ok (.getfield 9, 3) := by decide +kernel
theorem dX5_split_4 : decode cX5_split 4 = .ok (.iconst 0, 1) := by decide +kernel
theorem dX5_split_5 : decode cX5_split 5 = .ok (.aload_n 0, 1) := by decide +kernel
theorem dX5_split_6 : decode cX5_split 6 = .ok (.getfield 15, 3) := by decide +kernel
theorem dX5_split_9 : decode cX5_split 9 = .ok (.iconst 0, 1) := by decide +kernel
theorem dX5_split_10 : decode cX5_split 10 = .ok (.bipush 6, 2) := by decide +kernel
theorem dX5_split_12 : decode cX5_split 12 = .ok (.invokestatic 38, 3) := by decide +kernel
theorem dX5_split_15 : decode cX5_split 15 = .ok (.aload_n 0, 1) := by decide +kernel
theorem dX5_split_16 : decode cX5_split 16 = .ok (.iconst 0, 1) := by decide +kernel
theorem dX5_split_17 : decode cX5_split 17 = .ok (.putfield 25, 3) := by decide +kernel
theorem dX5_split_20 : decode cX5_split 20 = .ok (.iconst 0, 1) := by decide +kernel
theorem dX5_split_21 : decode cX5_split 21 = .ok (.istore_n 2, 1) := by decide +kernel
theorem dX5_split_22 : decode cX5_split 22 = .ok (.iload_n 2, 1) := by decide +kernel
theorem dX5_split_23 : decode cX5_split 23 = .ok (.aload_n 0, 1) := by decide +kernel
theorem dX5_split_24 : decode cX5_split 24 = .ok (.getfield 21, 3) := by decide +kernel
theorem dX5_split_27 : decode cX5_split 27 = .ok (.if_icmp .ge 111, 3) := by decide +kernel
theorem dX5_split_30 : decode cX5_split 30 = .ok (.aload_n 0, 1) := by decide +kernel
theorem dX5_split_31 : decode cX5_split 31 = .ok (.getfield 25, 3) := by decide +kernel
theorem dX5_split_34 : decode cX5_split 34 = .ok (.istore_n 3, 1) := by decide +kernel
theorem dX5_split_35 : decode cX5_split 35 = .ok (.iconst 0, 1) := by decide +kernel
theorem dX5_split_36 : decode cX5_split 36 = .ok (.istore 4, 2) := by decide +kernel
theorem dX5_split_38 : decode cX5_split 38 = .ok (.iload 4, 2) := by decide +kernel
theorem dX5_split_40 : decode cX5_split 40 = .ok (.iload_n 2, 1) := by decide +kernel
theorem dX5_split_41 : decode cX5_split 41 = .ok (.if_icmp .ge 68, 3) := by decide +kernel
theorem dX5_split_44 : decode cX5_split 44 = .ok (.iload_n 1, 1) := by decide +kernel
theorem dX5_split_45 : decode cX5_split 45 = .ok (.iload_n 2, 1) := by decide +kernel
theorem dX5_split_46 : decode cX5_split 46 = .ok (.ishr, 1) := by decide +kernel
theorem dX5_split_47 : decode cX5_split 47 = .ok (.iconst 1, 1) := by decide +kernel
theorem dX5_split_48 : decode cX5_split 48 = .ok (.iand, 1) := by decide +kernel
theorem dX5_split_49 : decode cX5_split 49 = .ok (.iload_n 1, 1) := by decide +kernel
theorem dX5_split_50 : decode cX5_split 50 = .ok (.iload 4, 2) := by decide +kernel
theorem dX5_split_52 : decode cX5_split 52 = .ok (.ishr, 1) := by decide +kernel
theorem dX5_split_53 : decode cX5_split 53 = .ok (.iconst 1, 1) := by decide +kernel
theorem dX5_split_54 : decode cX5_split 54 = .ok (.iand, 1) := by decide +kernel
theorem dX5_split_55 : decode cX5_split 55 = .ok (.if_icmp .ne 7, 3) := by decide +kernel
theorem dX5_split_58 : decode cX5_split 58 = .ok (.iconst 1, 1) := by decide +kernel
theorem dX5_split_59 : decode cX5_split 59 = .ok (.goto 4, 3) := by decide +kernel
theorem dX5_split_62 : decode cX5_split 62 = .ok (.iconst 0, 1) := by decide +kernel
theorem dX5_split_63 : decode cX5_split 63 = .ok (.istore 5, 2) := by decide +kernel
theorem dX5_split_65 : decode cX5_split 65 = .ok (.iload 5, 2) := by decide +kernel
theorem dX5_split_67 : decode cX5_split 67 = .ok (.ifCond .eq 36, 3) := by decide +kernel
theorem dX5_split_70 : decode cX5_split 70 = .ok (.aload_n 0, 1) := by decide +kernel
theorem dX5_split_71 : decode cX5_split 71 = .ok (.getfield 15, 3) := by decide +kernel
theorem dX5_split_74 : decode cX5_split 74 = .ok (.iload 4, 2) := by decide +kernel
theorem dX5_split_76 : decode cX5_split 76 = .ok (.invokestatic 28, 3) := by decide +kernel
theorem dX5_split_79 : decode cX5_split 79 = .ok (.aload_n 0, 1) := by decide +kernel
theorem dX5_split_80 : decode cX5_split 80 = .ok (.getfield 15, 3) := by decide +kernel
theorem dX5_split_83 : decode cX5_split 83 = .ok (.iload_n 2, 1) := by decide +kernel
theorem dX5_split_84 : decode cX5_split 84 = .ok (.invokestatic 28, 3) := by decide +kernel
theorem dX5_split_87 : decode cX5_split 87 = .ok (.if_icmp .ne 16, 3) := by decide +kernel
theorem dX5_split_90 : decode cX5_split 90 = .ok (.aload_n 0, 1) := by decide +kernel
theorem dX5_split_91 : decode cX5_split 91 = .ok (.getfield 9, 3) := by decide +kernel
theorem dX5_split_94 : decode cX5_split 94 = .ok (.iload 4, 2) := by decide +kernel
theorem dX5_split_96 : decode cX5_split 96 = .ok (.invokestatic 28, 3) := by decide +kernel
theorem dX5_split_99 : decode cX5_split 99 = .ok (.istore_n 3, 1) := by decide +kernel
theorem dX5_split_100 : decode cX5_split 100 = .ok (.goto 9, 3) := by decide +kernel
theorem dX5_split_103 : decode cX5_split 103 = .ok (.iinc 4 1, 3) := by decide +kernel
theorem dX5_split_106 : decode cX5_split 106 = .ok (.goto (-68), 3) := by decide +kernel
theorem dX5_split_109 : decode cX5_split 109 = .ok (.aload_n 0, 1) := by decide +kernel
theorem dX5_split_110 : decode cX5_split 110 = .ok (.getfield 9, 3) := by decide +kernel
theorem dX5_split_113 : decode cX5_split 113 = .ok (.iload_n 2, 1) := by decide +kernel
theorem dX5_split_114 : decode cX5_split 114 = .ok (.iload_n 3, 1) := by decide +kernel
theorem dX5_split_115 : decode cX5_split 115 = .ok (.invokestatic 44, 3) := by decide +kernel
theorem dX5_split_118 : decode cX5_split 118 = .ok (.aload_n 0, 1) := by decide +kernel
theorem dX5_split_119 : decode cX5_split 119 = .ok (.aload_n 0, 1) := by decide +kernel
theorem dX5_split_120 : decode cX5_split 120 = .ok (.getfield 25, 3) := by decide +kernel
theorem dX5_split_123 : decode cX5_split 123 = .ok (.iload_n 3, 1) := by decide +kernel
theorem dX5_split_124 : decode cX5_split 124 = .ok (.iconst 1, 1) := by decide +kernel
theorem dX5_split_125 : decode cX5_split 125 = .ok (.iadd, 1) := by decide +kernel
theorem dX5_split_126 : decode cX5_split 126 = .ok (.invokestatic 48, 3) := by decide +kernel
theorem dX5_split_129 : decode cX5_split 129 = .ok (.putfield 25, 3) := by decide +kernel
theorem dX5_split_132 : decode cX5_split 132 = .ok (.iinc 2 1, 3) := by decide +kernel
theorem dX5_split_135 : decode cX5_split 135 = .ok (.goto (-113), 3) := by decide +kernel
theorem dX5_split_138 : decode cX5_split 138 = .ok (.return_, 1) := by decide +kernel
def wo_X5_split1 : List Cond := [.fieldLink RX5 9 "DynamicLogicProver$Partition" "classes" "[I", .fieldLink RX5 15 "DynamicLogicProver$Partition" "before" "[I", .methodLink RX5 38 arraycopyName, .native arraycopyName, .static arraycopyName, .initialized "java/lang/System", .fieldLink RX5 25 "DynamicLogicProver$Partition" "number" "I", .fieldLink RX5 21 "DynamicLogicProver$Partition" "worlds" "I", .initialized RX11, .static yX11_put, .methodLink RX5 48 Lib.Math.max.name, .static Lib.Math.max.name, .initialized "java/lang/Math", .code Lib.Math.max.name Lib.Math.max.code 2 (some .int)]
def wd_X5_split1 : List Cond := .code yX5_split cX5_split 6 none :: (wo_X5_split1 ++ (wd_X11_put ++ (wsX50 ++ ([] : List Cond))))
theorem mo_X5_split1 {w : Cond} (i : Nat) (h : wo_X5_split1[i]? = some w) : w ∈ wd_X5_split1 := List.mem_cons_of_mem _ (List.mem_append_left _ (List.mem_of_getElem? h))
theorem mb_X5_split1_0 : ∀ w ∈ wd_X11_put, w ∈ wd_X5_split1 := fun w h => List.mem_cons_of_mem _ (List.mem_append_right _ (List.mem_append_left _ h))
theorem mb_X5_split1_1 : ∀ w ∈ wsX50, w ∈ wd_X5_split1 := fun w h => List.mem_cons_of_mem _ (List.mem_append_right _ (List.mem_append_right _ (List.mem_append_left _ h)))
theorem hd_X5_split : yX5_split.cls ≠ "java/lang/invoke/MethodHandle" ∧ yX5_split.cls ≠ "java/lang/invoke/VarHandle" ∧ (parseMethodDescriptor yX5_split.desc).map (fun d => d.parameters.length) = some 1 := by decide +kernel
set_option maxRecDepth 20000 in
theorem gw_X5_split1 : wd_X5_split1.all goodWord = true := by decide +kernel
abbrev qc_X5_split1 (D : va_G) (h : Nat) (a : Nat) (b : Nat) (d : Nat) (ka : ClassId) (kb : ClassId) (f : Nat → Int32) (g : Nat → Int32) (n : Int32) (w : Int32) (A : Nat → Prop) : Array Value → State → Outcome → State → Prop := va_Qv (fun (uZ : (Nat → Int32) × (Nat → Int32)) => uZ.1 0 = 0) (fun uZ tZ => kc_pos D A [(h, .inr (5, [.ref a, .ref b, .ref d, .int 1, .int 1])), (a, .inl (ka, 6, .inl uZ.1)), (b, .inl (kb, 6, .inl uZ.2))] [] tZ) A
set_option maxHeartbeats 4000000 in
set_option maxRecDepth 100000 in
theorem ct_X5_split1 (l : Launch) (D : va_G) (h : Nat) (a : Nat) (b : Nat) (d : Nat) (ka : ClassId) (kb : ClassId) (f : Nat → Int32) (g : Nat → Int32) (n : Int32) (w : Int32) (sz : Nat)  : Met l yX5_split wd_X5_split1 ({ frames := 1, cells := 0, slots := 0, locals := 40 }) (va_Pc [.ref h, .int w] (kc_pre D [(ka, .int), (kb, .int)] [(h, .inr (5, [.ref a, .ref b, .ref d, .int 1, .int n])), (a, .inl (ka, 6, .inl f)), (b, .inl (kb, 6, .inl g))] sz)) (qc_X5_split1 D h a b d ka kb f g n w (va_A [(h, .inr (5, [.ref a, .ref b, .ref d, .int 1, .int n])), (a, .inl (ka, 6, .inl f)), (b, .inl (kb, 6, .inl g))] sz)) 0 0 (va_A [(h, .inr (5, [.ref a, .ref b, .ref d, .int 1, .int n])), (a, .inl (ka, 6, .inl f)), (b, .inl (kb, 6, .inl g))] sz) := by
  refine Met.ofW (cc := cX5_split) (maxL := 6) (ret := none) (by decide) rfl ?_
  intro p e s m args below meth c s₁ B hml hv
  obtain ⟨rfl, hsz, hP, hK, hN, hD0⟩ := hv
  have hx := B.exec
  have hb := B.bytes
  have hr := B.returns
  have hts := atoms_spec (ws := wd_X5_split1) B.pre
  have hown : s.vm.findClass RX5 = some m.cls := findClass_of_methodNamed B.named
  have hlocks := B.notSynchronized
  subst hsz
  have hD := hD0.self (sz := s.heap.size)
  generalize hAe : va_A [(h, .inr (5, [.ref a, .ref b, .ref d, .int 1, .int n])), (a, .inl (ka, 6, .inl f)), (b, .inl (kb, 6, .inl g))] s.heap.size = A at hD ⊢
  have hA : ∀ q : Nat, s.heap.size ≤ q → A q := fun q h => by rw [← hAe]; exact Or.inr h
  have hS : va_S A s.heap s.heap [] := va_S.rf
  have hiX5 : ∀ w ∈ wsX50, w ∈ wd_X5_split1 := mb_X5_split1_1
  have hl := lv_entry ([.ref h, .int w]) (n := 6) (Nat.le_of_ble_eq_true rfl)
  rw [lg_entry_eq]
  generalize (lg_sl ([.ref h, .int w]) ++ List.replicate (6 - (lg_sl ([.ref h, .int w])).length) Slot.unset).toArray = ls at hl ⊢
  have hl : lv_has ls 6 [(0, .ref h), (1, .int w)] := hl
  refine lv_aload_n hx hb dX5_split_0 rfl (lv_at hl 0 rfl) ?_
  refine va_get (D := D) (ci := 5) (v := .ref a) (C := RX5) (T := TX5) (N := 5) hx hb hts hiX5 hown hK hP 0 rfl rfl 0 (by decide) (hts (.fieldLink RX5 9 "DynamicLogicProver$Partition" "classes" "[I") (mo_X5_split1 0 rfl)) (fun _ h9 => h9) rfl dX5_split_1 ?_
  refine lv_iconst (v := 0) hx hb dX5_split_4 (by decide) ?_
  refine lv_aload_n hx hb dX5_split_5 rfl (lv_at hl 0 rfl) ?_
  refine va_get (D := D) (ci := 5) (v := .ref b) (C := RX5) (T := TX5) (N := 5) hx hb hts hiX5 hown hK hP 0 rfl rfl 1 (by decide) (hts (.fieldLink RX5 15 "DynamicLogicProver$Partition" "before" "[I") (mo_X5_split1 1 rfl)) (fun _ h9 => h9) rfl dX5_split_6 ?_
  refine lv_iconst (v := 0) hx hb dX5_split_9 (by decide) ?_
  refine lv_bipush (v := 6) hx hb dX5_split_10 (by decide) ?_
  refine va_copyi (ty := .int) hx hb (by rw [hml]; exact hl.1.symm) hown (hts (.methodLink RX5 38 arraycopyName) (mo_X5_split1 2 rfl)) (hts (.native arraycopyName) (mo_X5_split1 3 rfl)) (hts (.static arraycopyName) (mo_X5_split1 4 rfl)) (hts (.initialized "java/lang/System") (mo_X5_split1 5 rfl)) hK hP hD hS 1 2 0 1 rfl rfl rfl rfl rfl (by decide) (by decide) (by decide) (Nat.le_of_ble_eq_true rfl) (Nat.le_of_ble_eq_true rfl) (fun _ _ => rfl) (Nat.le_of_ble_eq_true rfl) (by decide) dX5_split_12 (fun H locs hP hD hS => ?_)
  generalize ef_1 : va_cpy f g (0 : Int32).toNatClampNeg (0 : Int32).toNatClampNeg (6 : Int32).toNatClampNeg = f_1 at hP hD
  have hP : va_P D vwCl [(h, .inr (5, [.ref a, .ref b, .ref d, .int 1, .int n])), (a, .inl (ka, 6, .inl f)), (b, .inl (kb, 6, .inl f_1))] H := hP
  have hD : va_D A [(h, .inr (5, [.ref a, .ref b, .ref d, .int 1, .int n])), (a, .inl (ka, 6, .inl f)), (b, .inl (kb, 6, .inl f_1))] := hD
  refine lv_aload_n hx hb dX5_split_15 rfl (lv_at hl 0 rfl) ?_
  refine lv_iconst (v := 0) hx hb dX5_split_16 (by decide) ?_
  refine va_put (D := D) (ci := 5) (v := .int 0) (ty := .int) (C := RX5) (T := TX5) (N := 5) hx hb hts hiX5 tyX5 tyX5_ok nmX5 hown hK hP hD hS 0 rfl rfl 4 (by decide) (hts (.fieldLink RX5 25 "DynamicLogicProver$Partition" "number" "I") (mo_X5_split1 6 rfl)) (fun _ h9 => h9) rfl (tyX5_ok 4 (by decide)) rfl rfl (Nat.le_of_ble_eq_true rfl) dX5_split_17 (fun H locs hP hD hS => ?_)
  have hP : va_P D vwCl [(h, .inr (5, [.ref a, .ref b, .ref d, .int 1, .int 0])), (a, .inl (ka, 6, .inl f)), (b, .inl (kb, 6, .inl f_1))] H := hP
  have hD : va_D A [(h, .inr (5, [.ref a, .ref b, .ref d, .int 1, .int 0])), (a, .inl (ka, 6, .inl f)), (b, .inl (kb, 6, .inl f_1))] := hD
  refine lv_iconst (v := 0) hx hb dX5_split_20 (by decide) ?_
  refine lv_istore_n (lv' := [(2, .int 0), (0, .ref h), (1, .int w)]) hx hb dX5_split_21 rfl hl (by decide) rfl (fun ls hl => ?_)
  refine lv_iload_n hx hb dX5_split_22 rfl (lv_at hl 0 rfl) ?_
  refine lv_aload_n hx hb dX5_split_23 rfl (lv_at hl 1 rfl) ?_
  refine va_get (D := D) (ci := 5) (v := .int 1) (C := RX5) (T := TX5) (N := 5) hx hb hts hiX5 hown hK hP 0 rfl rfl 3 (by decide) (hts (.fieldLink RX5 21 "DynamicLogicProver$Partition" "worlds" "I") (mo_X5_split1 7 rfl)) (fun _ h9 => h9) rfl dX5_split_24 ?_
  refine lv_icmp_ge (tgt := 138) hx hb dX5_split_27 (by decide) (fun c_2 => ?_) (fun c_2 => ?_)
  · exact absurd c_2 (by decide)
  · refine lv_aload_n hx hb dX5_split_30 rfl (lv_at hl 1 rfl) ?_
    refine va_get (D := D) (ci := 5) (v := .int 0) (C := RX5) (T := TX5) (N := 5) hx hb hts hiX5 hown hK hP 0 rfl rfl 4 (by decide) (hts (.fieldLink RX5 25 "DynamicLogicProver$Partition" "number" "I") (mo_X5_split1 6 rfl)) (fun _ h9 => h9) rfl dX5_split_31 ?_
    refine lv_istore_n (lv' := [(3, .int 0), (2, .int 0), (0, .ref h), (1, .int w)]) hx hb dX5_split_34 rfl hl (by decide) rfl (fun ls hl => ?_)
    refine lv_iconst (v := 0) hx hb dX5_split_35 (by decide) ?_
    refine lv_istore (lv' := [(4, .int 0), (3, .int 0), (2, .int 0), (0, .ref h), (1, .int w)]) hx hb dX5_split_36 hl (by decide) rfl (fun ls hl => ?_)
    refine lv_iload hx hb dX5_split_38 (lv_at hl 0 rfl) ?_
    refine lv_iload_n hx hb dX5_split_40 rfl (lv_at hl 2 rfl) ?_
    refine lv_icmp_ge (tgt := 109) hx hb dX5_split_41 (by decide) (fun c_3 => ?_) (fun c_3 => ?_)
    · refine lv_aload_n hx hb dX5_split_109 rfl (lv_at hl 3 rfl) ?_
      refine va_get (D := D) (ci := 5) (v := .ref a) (C := RX5) (T := TX5) (N := 5) hx hb hts hiX5 hown hK hP 0 rfl rfl 0 (by decide) (hts (.fieldLink RX5 9 "DynamicLogicProver$Partition" "classes" "[I") (mo_X5_split1 0 rfl)) (fun _ h9 => h9) rfl dX5_split_110 ?_
      refine lv_iload_n hx hb dX5_split_113 rfl (lv_at hl 2 rfl) ?_
      refine lv_iload_n hx hb dX5_split_114 rfl (lv_at hl 1 rfl) ?_
      refine kc_Nv (As := [.ref a, .int 0, .int 0]) (rest := []) (wr := [(h, .inr (5, [.ref a, .ref b, .ref d, .int 1, .int 0])), (b, .inl (kb, 6, .inl f_1))]) ⟨hx, hb, hml, hown, hts⟩ (ct_X11_put l D a ka 6 f 0 0 _ (by decide)) ⟨va_cnB 3 hts (goodIn_sub mb_X5_split1_0 gw_X11_put) rfl rfl rfl (hN.1 (RX5, 44, yX11_put) (List.mem_of_getElem? (i := 18) rfl)) (hts (.initialized RX11) (mo_X5_split1 8 rfl)) hd_X11_put ⟨Nat.le_of_ble_eq_true rfl, Nat.le_of_ble_eq_true rfl⟩, (hts (.static yX11_put) (mo_X5_split1 9 rfl)), trivial⟩ hK hN hP hD hS hA [1] [0, 2] [0] rfl rfl (by decide) (by decide) (by decide) rfl rfl hl.1 rfl (Nat.le_of_ble_eq_true rfl) dX5_split_115 ⟨Nat.le_of_ble_eq_true rfl, Nat.le_of_ble_eq_true rfl⟩ (fun u_5 H locs w_6 hP hD hK1 hS => ?_)
      obtain ⟨o_7, rfl⟩ : ∃ z, z = u_5 := ⟨_, rfl⟩
      have hP : va_P D vwCl [(h, .inr (5, [.ref a, .ref b, .ref d, .int 1, .int 0])), (b, .inl (kb, 6, .inl f_1)), (a, .inl (ka, 6, .inl o_7))] H := hP
      have hD : va_D A [(h, .inr (5, [.ref a, .ref b, .ref d, .int 1, .int 0])), (b, .inl (kb, 6, .inl f_1)), (a, .inl (ka, 6, .inl o_7))] := hD
      have w_6 : o_7 = put_v f 6 0 0 := w_6
      refine lv_aload_n hx hb dX5_split_118 rfl (lv_at hl 3 rfl) ?_
      refine lv_aload_n hx hb dX5_split_119 rfl (lv_at hl 3 rfl) ?_
      refine va_get (D := D) (ci := 5) (v := .int 0) (C := RX5) (T := TX5) (N := 5) hx hb hts hiX5 hown hK hP 0 rfl rfl 4 (by decide) (hts (.fieldLink RX5 25 "DynamicLogicProver$Partition" "number" "I") (mo_X5_split1 6 rfl)) (fun _ h9 => h9) rfl dX5_split_120 ?_
      refine lv_iload_n hx hb dX5_split_123 rfl (lv_at hl 1 rfl) ?_
      refine lv_iconst (v := 1) hx hb dX5_split_124 (by decide) ?_
      refine lv_iadd hx hb dX5_split_125 ?_
      refine lv_topi (fun x_8 ex_8 => ?_)
      obtain rfl : x_8 = 1 := ex_8.trans (by decide)
      refine va_mmax hx hb (by rw [hml]; exact hl.1.symm) hown (hts (.methodLink RX5 48 Lib.Math.max.name) (mo_X5_split1 10 rfl)) (hts (.static Lib.Math.max.name) (mo_X5_split1 11 rfl)) (hts (.initialized "java/lang/Math") (mo_X5_split1 12 rfl)) (hts (.code Lib.Math.max.name Lib.Math.max.code 2 (some .int)) (mo_X5_split1 13 rfl)) (Nat.le_of_ble_eq_true rfl) (Nat.le_of_ble_eq_true rfl) (Nat.le_of_ble_eq_true rfl) (Nat.le_of_ble_eq_true rfl) dX5_split_126 ?_
      refine lv_topi (fun x_9 ex_9 => ?_)
      obtain rfl : x_9 = 1 := ex_9.trans (by decide)
      refine va_put (D := D) (ci := 5) (v := .int 1) (ty := .int) (C := RX5) (T := TX5) (N := 5) hx hb hts hiX5 tyX5 tyX5_ok nmX5 hown hK hP hD hS 0 rfl rfl 4 (by decide) (hts (.fieldLink RX5 25 "DynamicLogicProver$Partition" "number" "I") (mo_X5_split1 6 rfl)) (fun _ h9 => h9) rfl (tyX5_ok 4 (by decide)) rfl rfl (Nat.le_of_ble_eq_true rfl) dX5_split_129 (fun H locs hP hD hS => ?_)
      have hP : va_P D vwCl [(h, .inr (5, [.ref a, .ref b, .ref d, .int 1, .int 1])), (b, .inl (kb, 6, .inl f_1)), (a, .inl (ka, 6, .inl o_7))] H := hP
      have hD : va_D A [(h, .inr (5, [.ref a, .ref b, .ref d, .int 1, .int 1])), (b, .inl (kb, 6, .inl f_1)), (a, .inl (ka, 6, .inl o_7))] := hD
      refine lv_iinc (v := 1) (lv' := [(2, .int 1), (4, .int 0), (3, .int 0), (0, .ref h), (1, .int w)]) hx hb dX5_split_132 hl (k := 2) rfl (by decide) (by decide) rfl (fun ls hl => ?_)
      refine lv_goto (tgt := 22) hx hb dX5_split_135 (by decide) ?_
      refine lv_iload_n hx hb dX5_split_22 rfl (lv_at hl 0 rfl) ?_
      refine lv_aload_n hx hb dX5_split_23 rfl (lv_at hl 3 rfl) ?_
      refine va_get (D := D) (ci := 5) (v := .int 1) (C := RX5) (T := TX5) (N := 5) hx hb hts hiX5 hown hK hP 0 rfl rfl 3 (by decide) (hts (.fieldLink RX5 21 "DynamicLogicProver$Partition" "worlds" "I") (mo_X5_split1 7 rfl)) (fun _ h9 => h9) rfl dX5_split_24 ?_
      refine lv_icmp_ge (tgt := 138) hx hb dX5_split_27 (by decide) (fun c_10 => ?_) (fun c_10 => ?_)
      · have hP9 := hP.sub (ws' := [(h, .inr (5, [.ref a, .ref b, .ref d, .int 1, .int 1])), (a, .inl (ka, 6, .inl o_7)), (b, .inl (kb, 6, .inl f_1))]) [0, 2, 1] rfl
        have hD9 := hD.sub (ws' := [(h, .inr (5, [.ref a, .ref b, .ref d, .int 1, .int 1])), (a, .inl (ka, 6, .inl o_7)), (b, .inl (kb, 6, .inl f_1))]) [0, 2, 1] (by decide) rfl
        have hK9 := hK.sub (tys' := []) [] rfl
        exact W.vret hx hb hr (fun tZ htZ hW => ⟨⟨(o_7, f_1), rfl, (by rw [w_6]; exact put_v00 f), by rw [htZ]; exact hP9, va_K.moved hW.alike hK9, hD9⟩, hS.F htZ⟩) hS.2.2 dX5_split_138
      · exact absurd c_10 (by decide)
    · exact absurd c_3 (by decide)
theorem dX5_sources_0 : decode cX5_sources 0 = .ok (.iconst 0, 1) := by decide +kernel
theorem dX5_sources_1 : decode cX5_sources 1 = .ok (.istore 4, 2) := by decide +kernel
theorem dX5_sources_3 : decode cX5_sources 3 = .ok (.iconst 0, 1) := by decide +kernel
theorem dX5_sources_4 : decode cX5_sources 4 = .ok (.istore 5, 2) := by decide +kernel
theorem dX5_sources_6 : decode cX5_sources 6 = .ok (.iload 5, 2) := by decide +kernel
theorem dX5_sources_8 : decode cX5_sources 8 = .ok (.aload_n 0, 1) := by decide +kernel
theorem dX5_sources_9 : decode cX5_sources 9 = .ok (.getfield 21, 3) := by decide +kernel
theorem dX5_sources_12 : decode cX5_sources 12 = .ok (.if_icmp .ge 30, 3) := by decide +kernel
theorem dX5_sources_15 : decode cX5_sources 15 = .ok (.aload_n 1, 1) := by decide +kernel
theorem dX5_sources_16 : decode cX5_sources 16 = .ok (.iload_n 2, 1) := by decide +kernel
theorem dX5_sources_17 : decode cX5_sources 17 = .ok (.iload 5, 2) := by decide +kernel
theorem dX5_sources_19 : decode cX5_sources 19 = .ok (.invokevirtual 82, 3) := by decide +kernel
theorem dX5_sources_22 : decode cX5_sources 22 = .ok (.iload_n 3, 1) := by decide +kernel
theorem dX5_sources_23 : decode cX5_sources 23 = .ok (.iand, 1) := by decide +kernel
theorem dX5_sources_24 : decode cX5_sources 24 = .ok (.ifCond .eq 12, 3) := by decide +kernel
theorem dX5_sources_27 : decode cX5_sources 27 = .ok (.iload 4, 2) := by decide +kernel
theorem dX5_sources_29 : decode cX5_sources 29 = .ok (.iconst 1, 1) := by decide +kernel
theorem dX5_sources_30 : decode cX5_sources 30 = .ok (.iload 5, 2) := by decide +kernel
theorem dX5_sources_32 : decode cX5_sources 32 = .ok (.ishl, 1) := by decide +kernel
theorem dX5_sources_33 : decode cX5_sources 33 = .ok (.ior, 1) := by decide +kernel
theorem dX5_sources_34 : decode cX5_sources 34 = .ok (.istore 4, 2) := by decide +kernel
theorem dX5_sources_36 : decode cX5_sources 36 = .ok (.iinc 5 1, 3) := by decide +kernel
theorem dX5_sources_39 : decode cX5_sources 39 = .ok (.goto (-33), 3) := by decide +kernel
theorem dX5_sources_42 : decode cX5_sources 42 = .ok (.iload 4, 2) := by decide +kernel
theorem dX5_sources_44 : decode cX5_sources 44 = .ok (.ireturn, 1) := by decide +kernel
def wo_X5_sources1 : List Cond := [.fieldLink RX5 21 "DynamicLogicProver$Partition" "worlds" "I", .methodLink RX5 82 yX3_moves, .instanceMethod yX3_moves, .selects RX3 yX3_moves yX3_moves, .initialized RX3]
def wd_X5_sources1 : List Cond := .code yX5_sources cX5_sources 6 (some .int) :: (wo_X5_sources1 ++ (wd_X3_moves ++ (wsX50 ++ ([] : List Cond))))
theorem mo_X5_sources1 {w : Cond} (i : Nat) (h : wo_X5_sources1[i]? = some w) : w ∈ wd_X5_sources1 := List.mem_cons_of_mem _ (List.mem_append_left _ (List.mem_of_getElem? h))
theorem mb_X5_sources1_0 : ∀ w ∈ wd_X3_moves, w ∈ wd_X5_sources1 := fun w h => List.mem_cons_of_mem _ (List.mem_append_right _ (List.mem_append_left _ h))
theorem mb_X5_sources1_1 : ∀ w ∈ wsX50, w ∈ wd_X5_sources1 := fun w h => List.mem_cons_of_mem _ (List.mem_append_right _ (List.mem_append_right _ (List.mem_append_left _ h)))
theorem hd_X5_sources : yX5_sources.cls ≠ "java/lang/invoke/MethodHandle" ∧ yX5_sources.cls ≠ "java/lang/invoke/VarHandle" ∧ (parseMethodDescriptor yX5_sources.desc).map (fun d => d.parameters.length) = some 3 := by decide +kernel
set_option maxRecDepth 20000 in
theorem gw_X5_sources1 : wd_X5_sources1.all goodWord = true := by decide +kernel
abbrev qc_X5_sources1 (D : va_G) (h : Nat) (a : Nat) (b : Nat) (d : Nat) (o : Nat) (ot : Nat) (ov : Nat) (kv : ClassId) (fv : Nat → Int32) (n : Int32) (i : Int32) (w : Int32) (A : Nat → Prop) : Array Value → State → Outcome → State → Prop := va_Qi (fun (r : Int32) (uZ : Unit) => True) (fun uZ tZ => kc_pos D A [(h, .inr (5, [.ref a, .ref b, .ref d, .int 1, .int n])), (o, .inr (3, [.ref ot, .ref ov, .int 1])), (ov, .inl (kv, 18, .inl fv))] [] tZ) A
set_option maxHeartbeats 4000000 in
set_option maxRecDepth 100000 in
theorem ct_X5_sources1 (l : Launch) (D : va_G) (h : Nat) (a : Nat) (b : Nat) (d : Nat) (o : Nat) (ot : Nat) (ov : Nat) (kv : ClassId) (fv : Nat → Int32) (n : Int32) (i : Int32) (w : Int32) (sz : Nat)  : Met l yX5_sources wd_X5_sources1 ({ frames := 2, cells := 0, slots := 0, locals := 43 }) (va_Pc [.ref h, .ref o, .int i, .int w] (kc_pre D [(kv, .int)] [(h, .inr (5, [.ref a, .ref b, .ref d, .int 1, .int n])), (o, .inr (3, [.ref ot, .ref ov, .int 1])), (ov, .inl (kv, 18, .inl fv))] sz)) (qc_X5_sources1 D h a b d o ot ov kv fv n i w (va_A [(h, .inr (5, [.ref a, .ref b, .ref d, .int 1, .int n])), (o, .inr (3, [.ref ot, .ref ov, .int 1])), (ov, .inl (kv, 18, .inl fv))] sz)) 0 0 (va_A [(h, .inr (5, [.ref a, .ref b, .ref d, .int 1, .int n])), (o, .inr (3, [.ref ot, .ref ov, .int 1])), (ov, .inl (kv, 18, .inl fv))] sz) := by
  refine Met.ofW (cc := cX5_sources) (maxL := 6) (ret := (some .int)) (by decide) rfl ?_
  intro p e s m args below meth c s₁ B hml hv
  obtain ⟨rfl, hsz, hP, hK, hN, hD0⟩ := hv
  have hx := B.exec
  have hb := B.bytes
  have hr := B.returns
  have hts := atoms_spec (ws := wd_X5_sources1) B.pre
  have hown : s.vm.findClass RX5 = some m.cls := findClass_of_methodNamed B.named
  have hlocks := B.notSynchronized
  subst hsz
  have hD := hD0.self (sz := s.heap.size)
  generalize hAe : va_A [(h, .inr (5, [.ref a, .ref b, .ref d, .int 1, .int n])), (o, .inr (3, [.ref ot, .ref ov, .int 1])), (ov, .inl (kv, 18, .inl fv))] s.heap.size = A at hD ⊢
  have hA : ∀ q : Nat, s.heap.size ≤ q → A q := fun q h => by rw [← hAe]; exact Or.inr h
  have hS : va_S A s.heap s.heap [] := va_S.rf
  have hiX5 : ∀ w ∈ wsX50, w ∈ wd_X5_sources1 := mb_X5_sources1_1
  have hl := lv_entry ([.ref h, .ref o, .int i, .int w]) (n := 6) (Nat.le_of_ble_eq_true rfl)
  rw [lg_entry_eq]
  generalize (lg_sl ([.ref h, .ref o, .int i, .int w]) ++ List.replicate (6 - (lg_sl ([.ref h, .ref o, .int i, .int w])).length) Slot.unset).toArray = ls at hl ⊢
  have hl : lv_has ls 6 [(0, .ref h), (1, .ref o), (2, .int i), (3, .int w)] := hl
  refine lv_iconst (v := 0) hx hb dX5_sources_0 (by decide) ?_
  refine lv_istore (lv' := [(4, .int 0), (0, .ref h), (1, .ref o), (2, .int i), (3, .int w)]) hx hb dX5_sources_1 hl (by decide) rfl (fun ls hl => ?_)
  refine lv_iconst (v := 0) hx hb dX5_sources_3 (by decide) ?_
  refine lv_istore (lv' := [(5, .int 0), (4, .int 0), (0, .ref h), (1, .ref o), (2, .int i), (3, .int w)]) hx hb dX5_sources_4 hl (by decide) rfl (fun ls hl => ?_)
  refine lv_iload hx hb dX5_sources_6 (lv_at hl 0 rfl) ?_
  refine lv_aload_n hx hb dX5_sources_8 rfl (lv_at hl 2 rfl) ?_
  refine va_get (D := D) (ci := 5) (v := .int 1) (C := RX5) (T := TX5) (N := 5) hx hb hts hiX5 hown hK hP 0 rfl rfl 3 (by decide) (hts (.fieldLink RX5 21 "DynamicLogicProver$Partition" "worlds" "I") (mo_X5_sources1 0 rfl)) (fun _ h9 => h9) rfl dX5_sources_9 ?_
  refine lv_icmp_ge (tgt := 42) hx hb dX5_sources_12 (by decide) (fun c_1 => ?_) (fun c_1 => ?_)
  · exact absurd c_1 (by decide)
  · refine lv_aload_n hx hb dX5_sources_15 rfl (lv_at hl 3 rfl) ?_
    refine lv_iload_n hx hb dX5_sources_16 rfl (lv_at hl 4 rfl) ?_
    refine lv_iload hx hb dX5_sources_17 (lv_at hl 0 rfl) ?_
    refine kc_Vi (As := [.int i, .int 0]) (rest := []) (wr := [(h, .inr (5, [.ref a, .ref b, .ref d, .int 1, .int n]))]) ⟨hx, hb, hml, hown, hts⟩ (ct_X3_moves l D o ot ov kv fv 1 i 0 _ ) (cwV 2 hts (kg_V (mo_X5_sources1 1 rfl) (mo_X5_sources1 2 rfl) (mo_X5_sources1 3 rfl) (mo_X5_sources1 4 rfl) (goodIn_sub mb_X5_sources1_0 gw_X3_moves)) rfl rfl rfl ⟨rfl, hd_X3_moves⟩ ⟨Nat.le_of_ble_eq_true rfl, Nat.le_of_ble_eq_true rfl⟩) (RX3, TX3, 3) 3 1 rfl rfl rfl hK hN hP hD hS hA [1, 2] [0] [0] rfl rfl (by decide) (by decide) (by decide) rfl rfl hl.1 rfl (Nat.le_of_ble_eq_true rfl) dX5_sources_19 ⟨Nat.le_of_ble_eq_true rfl, Nat.le_of_ble_eq_true rfl⟩ (fun r_2 u_3 H locs w_4 hP hD hK1 hS => ?_)
    have hP : va_P D vwCl [(h, .inr (5, [.ref a, .ref b, .ref d, .int 1, .int n])), (o, .inr (3, [.ref ot, .ref ov, .int 1])), (ov, .inl (kv, 18, .inl fv))] H := hP
    have hD : va_D A [(h, .inr (5, [.ref a, .ref b, .ref d, .int 1, .int n])), (o, .inr (3, [.ref ot, .ref ov, .int 1])), (ov, .inl (kv, 18, .inl fv))] := hD
    have w_4 : r_2 = at_v fv 18 (i * 6 + 0) := w_4
    refine lv_iload_n hx hb dX5_sources_22 rfl (lv_at hl 5 rfl) ?_
    refine lv_iand hx hb dX5_sources_23 ?_
    refine lv_topi (fun x_5 ex_5 => ?_)
    refine lv_if_eq (tgt := 36) hx hb dX5_sources_24 (by decide) (fun c_6 => ?_) (fun c_6 => ?_)
    · refine lv_iinc (v := 1) (lv' := [(5, .int 1), (4, .int 0), (0, .ref h), (1, .ref o), (2, .int i), (3, .int w)]) hx hb dX5_sources_36 hl (k := 0) rfl (by decide) (by decide) rfl (fun ls hl => ?_)
      refine lv_goto (tgt := 6) hx hb dX5_sources_39 (by decide) ?_
      refine lv_iload hx hb dX5_sources_6 (lv_at hl 0 rfl) ?_
      refine lv_aload_n hx hb dX5_sources_8 rfl (lv_at hl 2 rfl) ?_
      refine va_get (D := D) (ci := 5) (v := .int 1) (C := RX5) (T := TX5) (N := 5) hx hb hts hiX5 hown hK hP 0 rfl rfl 3 (by decide) (hts (.fieldLink RX5 21 "DynamicLogicProver$Partition" "worlds" "I") (mo_X5_sources1 0 rfl)) (fun _ h9 => h9) rfl dX5_sources_9 ?_
      refine lv_icmp_ge (tgt := 42) hx hb dX5_sources_12 (by decide) (fun c_7 => ?_) (fun c_7 => ?_)
      · refine lv_iload hx hb dX5_sources_42 (lv_at hl 1 rfl) ?_
        have hP9 := hP.sub (ws' := [(h, .inr (5, [.ref a, .ref b, .ref d, .int 1, .int n])), (o, .inr (3, [.ref ot, .ref ov, .int 1])), (ov, .inl (kv, 18, .inl fv))]) [0, 1, 2] rfl
        have hD9 := hD.sub (ws' := [(h, .inr (5, [.ref a, .ref b, .ref d, .int 1, .int n])), (o, .inr (3, [.ref ot, .ref ov, .int 1])), (ov, .inl (kv, 18, .inl fv))]) [0, 1, 2] (by decide) rfl
        have hK9 := hK.sub (tys' := []) [] rfl
        exact W.iret (v := 0) hx hb hr (fun tZ htZ hW => ⟨⟨0, (), rfl, trivial, by rw [htZ]; exact hP9, va_K.moved hW.alike hK9, hD9⟩, hS.F htZ⟩) hS.2.2 dX5_sources_44
      · exact absurd c_7 (by decide)
    · refine lv_iload hx hb dX5_sources_27 (lv_at hl 1 rfl) ?_
      refine lv_iconst (v := 1) hx hb dX5_sources_29 (by decide) ?_
      refine lv_iload hx hb dX5_sources_30 (lv_at hl 0 rfl) ?_
      refine lv_ishl hx hb dX5_sources_32 ?_
      refine lv_topi (fun x_8 ex_8 => ?_)
      obtain rfl : x_8 = 1 := ex_8.trans (by decide)
      refine lv_ior hx hb dX5_sources_33 ?_
      refine lv_topi (fun x_9 ex_9 => ?_)
      obtain rfl : x_9 = 1 := ex_9.trans (by decide)
      refine lv_istore (lv' := [(4, .int 1), (5, .int 0), (0, .ref h), (1, .ref o), (2, .int i), (3, .int w)]) hx hb dX5_sources_34 hl (by decide) rfl (fun ls hl => ?_)
      refine lv_iinc (v := 1) (lv' := [(5, .int 1), (4, .int 1), (0, .ref h), (1, .ref o), (2, .int i), (3, .int w)]) hx hb dX5_sources_36 hl (k := 1) rfl (by decide) (by decide) rfl (fun ls hl => ?_)
      refine lv_goto (tgt := 6) hx hb dX5_sources_39 (by decide) ?_
      refine lv_iload hx hb dX5_sources_6 (lv_at hl 0 rfl) ?_
      refine lv_aload_n hx hb dX5_sources_8 rfl (lv_at hl 2 rfl) ?_
      refine va_get (D := D) (ci := 5) (v := .int 1) (C := RX5) (T := TX5) (N := 5) hx hb hts hiX5 hown hK hP 0 rfl rfl 3 (by decide) (hts (.fieldLink RX5 21 "DynamicLogicProver$Partition" "worlds" "I") (mo_X5_sources1 0 rfl)) (fun _ h9 => h9) rfl dX5_sources_9 ?_
      refine lv_icmp_ge (tgt := 42) hx hb dX5_sources_12 (by decide) (fun c_10 => ?_) (fun c_10 => ?_)
      · refine lv_iload hx hb dX5_sources_42 (lv_at hl 1 rfl) ?_
        have hP9 := hP.sub (ws' := [(h, .inr (5, [.ref a, .ref b, .ref d, .int 1, .int n])), (o, .inr (3, [.ref ot, .ref ov, .int 1])), (ov, .inl (kv, 18, .inl fv))]) [0, 1, 2] rfl
        have hD9 := hD.sub (ws' := [(h, .inr (5, [.ref a, .ref b, .ref d, .int 1, .int n])), (o, .inr (3, [.ref ot, .ref ov, .int 1])), (ov, .inl (kv, 18, .inl fv))]) [0, 1, 2] (by decide) rfl
        have hK9 := hK.sub (tys' := []) [] rfl
        exact W.iret (v := 1) hx hb hr (fun tZ htZ hW => ⟨⟨1, (), rfl, trivial, by rw [htZ]; exact hP9, va_K.moved hW.alike hK9, hD9⟩, hS.F htZ⟩) hS.2.2 dX5_sources_44
      · exact absurd c_10 (by decide)
theorem dX5_refine_0 : decode cX5_refine 0 = .ok (.aload_n 0, 1) := by decide +kernel
theorem dX5_refine_1 : decode cX5_refine 1 = .ok (.getfield 25, 3) := by decide +kernel
theorem dX5_refine_4 : decode cX5_refine 4 = .ok (.istore_n 2, 1) := by decide +kernel
theorem dX5_refine_5 : decode cX5_refine 5 = .ok (.aload_n 0, 1) := by decide +kernel
theorem dX5_refine_6 : decode cX5_refine 6 = .ok (.getfield 18, 3) := by decide +kernel
theorem dX5_refine_9 : decode cX5_refine 9 = .ok (.iconst 0, 1) := by decide +kernel
theorem dX5_refine_10 : decode cX5_refine 10 = .ok (.invokestatic 32, 3) := by decide +kernel
theorem dX5_refine_13 : decode cX5_refine 13 = .ok (.iconst 0, 1) := by decide +kernel
theorem dX5_refine_14 : decode cX5_refine 14 = .ok (.istore_n 3, 1) := by decide +kernel
theorem dX5_refine_15 : decode cX5_refine 15 = .ok (.iload_n 3, 1) := by decide +kernel
theorem dX5_refine_16 : decode cX5_refine 16 = .ok (.aload_n 0, 1) := by decide +kernel
theorem dX5_refine_17 : decode cX5_refine 17 = .ok (.getfield 21, 3) := by decide +kernel
theorem dX5_refine_20 : decode cX5_refine 20 = .ok (.if_icmp .ge 37, 3) := by decide +kernel
theorem dX5_refine_23 : decode cX5_refine 23 = .ok (.aload_n 0, 1) := by decide +kernel
theorem dX5_refine_24 : decode cX5_refine 24 = .ok (.getfield 18, 3) := by decide +kernel
theorem dX5_refine_27 : decode cX5_refine 27 = .ok (.aload_n 0, 1) := by decide +kernel
theorem dX5_refine_28 : decode cX5_refine 28 = .ok (.iload_n 3, 1) := by decide +kernel
theorem dX5_refine_29 : decode cX5_refine 29 = .ok (.invokevirtual 75, 3) := by decide +kernel
theorem dX5_refine_32 : decode cX5_refine 32 = .ok (.aload_n 0, 1) := by decide +kernel
theorem dX5_refine_33 : decode cX5_refine 33 = .ok (.getfield 18, 3) := by decide +kernel
theorem dX5_refine_36 : decode cX5_refine 36 = .ok (.aload_n 0, 1) := by decide +kernel
theorem dX5_refine_37 : decode cX5_refine 37 = .ok (.iload_n 3, 1) := by decide +kernel
theorem dX5_refine_38 : decode cX5_refine 38 = .ok (.invokevirtual 75, 3) := by decide +kernel
theorem dX5_refine_41 : decode cX5_refine 41 = .ok (.invokestatic 28, 3) := by decide +kernel
theorem dX5_refine_44 : decode cX5_refine 44 = .ok (.iconst 1, 1) := by decide +kernel
theorem dX5_refine_45 : decode cX5_refine 45 = .ok (.iload_n 3, 1) := by decide +kernel
theorem dX5_refine_46 : decode cX5_refine 46 = .ok (.ishl, 1) := by decide +kernel
theorem dX5_refine_47 : decode cX5_refine 47 = .ok (.ior, 1) := by decide +kernel
theorem dX5_refine_48 : decode cX5_refine 48 = .ok (.invokestatic 44, 3) := by decide +kernel
theorem dX5_refine_51 : decode cX5_refine 51 = .ok (.iinc 3 1, 3) := by decide +kernel
theorem dX5_refine_54 : decode cX5_refine 54 = .ok (.goto (-39), 3) := by decide +kernel
theorem dX5_refine_57 : decode cX5_refine 57 = .ok (.iconst 0, 1) := by decide +kernel
theorem dX5_refine_58 : decode cX5_refine 58 = .ok (.istore_n 3, 1) := by decide +kernel
theorem dX5_refine_59 : decode cX5_refine 59 = .ok (.iload_n 3, 1) := by decide +kernel
theorem dX5_refine_60 : decode cX5_refine 60 = .ok (.iconst 3, 1) := by decide +kernel
theorem dX5_refine_61 : decode cX5_refine 61 = .ok (.if_icmp .ge 43, 3) := by decide +kernel
theorem dX5_refine_64 : decode cX5_refine 64 = .ok (.iconst 0, 1) := by decide +kernel
theorem dX5_refine_65 : decode cX5_refine 65 = .ok (.istore 4, 2) := by decide +kernel
theorem dX5_refine_67 : decode cX5_refine 67 = .ok (.iload 4, 2) := by decide +kernel
theorem dX5_refine_69 : decode cX5_refine 69 = .ok (.iload_n 2, 1) := by decide +kernel
theorem dX5_refine_70 : decode cX5_refine 70 = .ok (.if_icmp .ge 28, 3) := by decide +kernel
theorem dX5_refine_73 : decode cX5_refine 73 = .ok (.aload_n 0, 1) := by decide +kernel
theorem dX5_refine_74 : decode cX5_refine 74 = .ok (.aload_n 0, 1) := by decide +kernel
theorem dX5_refine_75 : decode cX5_refine 75 = .ok (.aload_n 1, 1) := by decide +kernel
theorem dX5_refine_76 : decode cX5_refine 76 = .ok (.iload_n 3, 1) := by decide +kernel
theorem dX5_refine_77 : decode cX5_refine 77 = .ok (.aload_n 0, 1) := by decide +kernel
theorem dX5_refine_78 : decode cX5_refine 78 = .ok (.getfield 18, 3) := by decide +kernel
theorem dX5_refine_81 : decode cX5_refine 81 = .ok (.iload 4, 2) := by decide +kernel
theorem dX5_refine_83 : decode cX5_refine 83 = .ok (.invokestatic 28, 3) := by decide +kernel
theorem dX5_refine_86 : decode cX5_refine 86 = .ok (.invokevirtual 78, 3) := by decide +kernel
theorem dX5_refine_89 : decode cX5_refine 89 = .ok (.invokevirtual 68, 3) := by decide +kernel
theorem dX5_refine_92 : decode cX5_refine 92 = .ok (.iinc 4 1, 3) := by decide +kernel
theorem dX5_refine_95 : decode cX5_refine 95 = .ok (.goto (-28), 3) := by decide +kernel
theorem dX5_refine_98 : decode cX5_refine 98 = .ok (.iinc 3 1, 3) := by decide +kernel
theorem dX5_refine_101 : decode cX5_refine 101 = .ok (.goto (-42), 3) := by decide +kernel
theorem dX5_refine_104 : decode cX5_refine 104 = .ok (.return_, 1) := by decide +kernel
def wo_X5_refine1 : List Cond := [.fieldLink RX5 25 "DynamicLogicProver$Partition" "number" "I", .fieldLink RX5 18 "DynamicLogicProver$Partition" "images" "[I", .methodLink RX5 32 yJ7_fill_53178, .static yJ7_fill_53178, .initialized RJ7, .fieldLink RX5 21 "DynamicLogicProver$Partition" "worlds" "I", .methodLink RX5 75 yX5_classOf, .instanceMethod yX5_classOf, .selects RX5 yX5_classOf yX5_classOf, .initialized RX5, .initialized RX11, .static yX11_at, .static yX11_put, .methodLink RX5 78 yX5_sources, .instanceMethod yX5_sources, .selects RX5 yX5_sources yX5_sources, .methodLink RX5 68 yX5_split, .instanceMethod yX5_split, .selects RX5 yX5_split yX5_split]
def wd_X5_refine1 : List Cond := .code yX5_refine cX5_refine 5 none :: (wo_X5_refine1 ++ (wd_J7_fill_53178 ++ (wd_X5_classOf ++ (wd_X11_at ++ (wd_X11_put ++ (wd_X5_sources1 ++ (wd_X5_split1 ++ (wsX50 ++ ([] : List Cond)))))))))
theorem mo_X5_refine1 {w : Cond} (i : Nat) (h : wo_X5_refine1[i]? = some w) : w ∈ wd_X5_refine1 := List.mem_cons_of_mem _ (List.mem_append_left _ (List.mem_of_getElem? h))
theorem mb_X5_refine1_0 : ∀ w ∈ wd_J7_fill_53178, w ∈ wd_X5_refine1 := fun w h => List.mem_cons_of_mem _ (List.mem_append_right _ (List.mem_append_left _ h))
theorem mb_X5_refine1_1 : ∀ w ∈ wd_X5_classOf, w ∈ wd_X5_refine1 := fun w h => List.mem_cons_of_mem _ (List.mem_append_right _ (List.mem_append_right _ (List.mem_append_left _ h)))
theorem mb_X5_refine1_2 : ∀ w ∈ wd_X11_at, w ∈ wd_X5_refine1 := fun w h => List.mem_cons_of_mem _ (List.mem_append_right _ (List.mem_append_right _ (List.mem_append_right _ (List.mem_append_left _ h))))
theorem mb_X5_refine1_3 : ∀ w ∈ wd_X11_put, w ∈ wd_X5_refine1 := fun w h => List.mem_cons_of_mem _ (List.mem_append_right _ (List.mem_append_right _ (List.mem_append_right _ (List.mem_append_right _ (List.mem_append_left _ h)))))
theorem mb_X5_refine1_4 : ∀ w ∈ wd_X5_sources1, w ∈ wd_X5_refine1 := fun w h => List.mem_cons_of_mem _ (List.mem_append_right _ (List.mem_append_right _ (List.mem_append_right _ (List.mem_append_right _ (List.mem_append_right _ (List.mem_append_left _ h))))))
theorem mb_X5_refine1_5 : ∀ w ∈ wd_X5_split1, w ∈ wd_X5_refine1 := fun w h => List.mem_cons_of_mem _ (List.mem_append_right _ (List.mem_append_right _ (List.mem_append_right _ (List.mem_append_right _ (List.mem_append_right _ (List.mem_append_right _ (List.mem_append_left _ h)))))))
theorem mb_X5_refine1_6 : ∀ w ∈ wsX50, w ∈ wd_X5_refine1 := fun w h => List.mem_cons_of_mem _ (List.mem_append_right _ (List.mem_append_right _ (List.mem_append_right _ (List.mem_append_right _ (List.mem_append_right _ (List.mem_append_right _ (List.mem_append_right _ (List.mem_append_left _ h))))))))
theorem hd_X5_refine : yX5_refine.cls ≠ "java/lang/invoke/MethodHandle" ∧ yX5_refine.cls ≠ "java/lang/invoke/VarHandle" ∧ (parseMethodDescriptor yX5_refine.desc).map (fun d => d.parameters.length) = some 1 := by decide +kernel
set_option maxRecDepth 20000 in
theorem gw_X5_refine1 : wd_X5_refine1.all goodWord = true := by decide +kernel
abbrev qc_X5_refine1 (D : va_G) (h : Nat) (a : Nat) (b : Nat) (d : Nat) (ka : ClassId) (kb : ClassId) (kd : ClassId) (f : Nat → Int32) (g : Nat → Int32) (x : Nat → Int32) (o : Nat) (ot : Nat) (ov : Nat) (kv : ClassId) (fv : Nat → Int32) (A : Nat → Prop) : Array Value → State → Outcome → State → Prop := va_Qv (fun (uZ : (Nat → Int32) × (Nat → Int32) × (Nat → Int32)) => uZ.1 0 = 0) (fun uZ tZ => kc_pos D A [(h, .inr (5, [.ref a, .ref b, .ref d, .int 1, .int 1])), (a, .inl (ka, 6, .inl uZ.1)), (b, .inl (kb, 6, .inl uZ.2.1)), (d, .inl (kd, 6, .inl uZ.2.2)), (o, .inr (3, [.ref ot, .ref ov, .int 1])), (ov, .inl (kv, 18, .inl fv))] [] tZ) A
set_option maxHeartbeats 4000000 in
set_option maxRecDepth 100000 in
theorem ct_X5_refine1 (l : Launch) (D : va_G) (h : Nat) (a : Nat) (b : Nat) (d : Nat) (ka : ClassId) (kb : ClassId) (kd : ClassId) (f : Nat → Int32) (g : Nat → Int32) (x : Nat → Int32) (o : Nat) (ot : Nat) (ov : Nat) (kv : ClassId) (fv : Nat → Int32) (sz : Nat)  : Met l yX5_refine wd_X5_refine1 ({ frames := 3, cells := 0, slots := 0, locals := 68 }) (va_Pc [.ref h, .ref o] (kc_pre D [(ka, .int), (kb, .int), (kd, .int), (kv, .int)] [(h, .inr (5, [.ref a, .ref b, .ref d, .int 1, .int 1])), (a, .inl (ka, 6, .inl f)), (b, .inl (kb, 6, .inl g)), (d, .inl (kd, 6, .inl x)), (o, .inr (3, [.ref ot, .ref ov, .int 1])), (ov, .inl (kv, 18, .inl fv))] sz)) (qc_X5_refine1 D h a b d ka kb kd f g x o ot ov kv fv (va_A [(h, .inr (5, [.ref a, .ref b, .ref d, .int 1, .int 1])), (a, .inl (ka, 6, .inl f)), (b, .inl (kb, 6, .inl g)), (d, .inl (kd, 6, .inl x)), (o, .inr (3, [.ref ot, .ref ov, .int 1])), (ov, .inl (kv, 18, .inl fv))] sz)) 0 0 (va_A [(h, .inr (5, [.ref a, .ref b, .ref d, .int 1, .int 1])), (a, .inl (ka, 6, .inl f)), (b, .inl (kb, 6, .inl g)), (d, .inl (kd, 6, .inl x)), (o, .inr (3, [.ref ot, .ref ov, .int 1])), (ov, .inl (kv, 18, .inl fv))] sz) := by
  refine Met.ofW (cc := cX5_refine) (maxL := 5) (ret := none) (by decide) rfl ?_
  intro p e s m args below meth c s₁ B hml hv
  obtain ⟨rfl, hsz, hP, hK, hN, hD0⟩ := hv
  have hx := B.exec
  have hb := B.bytes
  have hr := B.returns
  have hts := atoms_spec (ws := wd_X5_refine1) B.pre
  have hown : s.vm.findClass RX5 = some m.cls := findClass_of_methodNamed B.named
  have hlocks := B.notSynchronized
  subst hsz
  have hD := hD0.self (sz := s.heap.size)
  generalize hAe : va_A [(h, .inr (5, [.ref a, .ref b, .ref d, .int 1, .int 1])), (a, .inl (ka, 6, .inl f)), (b, .inl (kb, 6, .inl g)), (d, .inl (kd, 6, .inl x)), (o, .inr (3, [.ref ot, .ref ov, .int 1])), (ov, .inl (kv, 18, .inl fv))] s.heap.size = A at hD ⊢
  have hA : ∀ q : Nat, s.heap.size ≤ q → A q := fun q h => by rw [← hAe]; exact Or.inr h
  have hS : va_S A s.heap s.heap [] := va_S.rf
  have hiX5 : ∀ w ∈ wsX50, w ∈ wd_X5_refine1 := mb_X5_refine1_6
  have hl := lv_entry ([.ref h, .ref o]) (n := 5) (Nat.le_of_ble_eq_true rfl)
  rw [lg_entry_eq]
  generalize (lg_sl ([.ref h, .ref o]) ++ List.replicate (5 - (lg_sl ([.ref h, .ref o])).length) Slot.unset).toArray = ls at hl ⊢
  have hl : lv_has ls 5 [(0, .ref h), (1, .ref o)] := hl
  refine lv_aload_n hx hb dX5_refine_0 rfl (lv_at hl 0 rfl) ?_
  refine va_get (D := D) (ci := 5) (v := .int 1) (C := RX5) (T := TX5) (N := 5) hx hb hts hiX5 hown hK hP 0 rfl rfl 4 (by decide) (hts (.fieldLink RX5 25 "DynamicLogicProver$Partition" "number" "I") (mo_X5_refine1 0 rfl)) (fun _ h9 => h9) rfl dX5_refine_1 ?_
  refine lv_istore_n (lv' := [(2, .int 1), (0, .ref h), (1, .ref o)]) hx hb dX5_refine_4 rfl hl (by decide) rfl (fun ls hl => ?_)
  refine lv_aload_n hx hb dX5_refine_5 rfl (lv_at hl 1 rfl) ?_
  refine va_get (D := D) (ci := 5) (v := .ref d) (C := RX5) (T := TX5) (N := 5) hx hb hts hiX5 hown hK hP 0 rfl rfl 2 (by decide) (hts (.fieldLink RX5 18 "DynamicLogicProver$Partition" "images" "[I") (mo_X5_refine1 1 rfl)) (fun _ h9 => h9) rfl dX5_refine_6 ?_
  refine lv_iconst (v := 0) hx hb dX5_refine_9 (by decide) ?_
  refine kc_Sv (As := [.ref d, .int 0]) (rest := []) (wr := [(h, .inr (5, [.ref a, .ref b, .ref d, .int 1, .int 1])), (a, .inl (ka, 6, .inl f)), (b, .inl (kb, 6, .inl g)), (o, .inr (3, [.ref ot, .ref ov, .int 1])), (ov, .inl (kv, 18, .inl fv))]) ⟨hx, hb, hml, hown, hts⟩ (ct_J7_fill_53178 l D d kd 6 x 0 _ (by decide)) (va_cwS 2 hts (kg_S (mo_X5_refine1 2 rfl) (mo_X5_refine1 3 rfl) (mo_X5_refine1 4 rfl) (goodIn_sub mb_X5_refine1_0 gw_J7_fill_53178)) rfl rfl rfl hd_J7_fill_53178 ⟨Nat.le_of_ble_eq_true rfl, Nat.le_of_ble_eq_true rfl⟩) hK hN hP hD hS hA [3] [0, 1, 2, 4, 5] [2] rfl rfl (by decide) (by decide) (by decide) rfl rfl hl.1 rfl (Nat.le_of_ble_eq_true rfl) dX5_refine_10 ⟨Nat.le_of_ble_eq_true rfl, Nat.le_of_ble_eq_true rfl⟩ (fun u_2 H locs w_3 hP hD hK1 hS => ?_)
  obtain ⟨o_4, rfl⟩ : ∃ z, z = u_2 := ⟨_, rfl⟩
  have hP : va_P D vwCl [(h, .inr (5, [.ref a, .ref b, .ref d, .int 1, .int 1])), (a, .inl (ka, 6, .inl f)), (b, .inl (kb, 6, .inl g)), (o, .inr (3, [.ref ot, .ref ov, .int 1])), (ov, .inl (kv, 18, .inl fv)), (d, .inl (kd, 6, .inl o_4))] H := hP
  have hD : va_D A [(h, .inr (5, [.ref a, .ref b, .ref d, .int 1, .int 1])), (a, .inl (ka, 6, .inl f)), (b, .inl (kb, 6, .inl g)), (o, .inr (3, [.ref ot, .ref ov, .int 1])), (ov, .inl (kv, 18, .inl fv)), (d, .inl (kd, 6, .inl o_4))] := hD
  have w_3 : ∀ k, k < 6 → o_4 k = 0 := w_3
  refine lv_iconst (v := 0) hx hb dX5_refine_13 (by decide) ?_
  refine lv_istore_n (lv' := [(3, .int 0), (2, .int 1), (0, .ref h), (1, .ref o)]) hx hb dX5_refine_14 rfl hl (by decide) rfl (fun ls hl => ?_)
  refine lv_iload_n hx hb dX5_refine_15 rfl (lv_at hl 0 rfl) ?_
  refine lv_aload_n hx hb dX5_refine_16 rfl (lv_at hl 2 rfl) ?_
  refine va_get (D := D) (ci := 5) (v := .int 1) (C := RX5) (T := TX5) (N := 5) hx hb hts hiX5 hown hK hP 0 rfl rfl 3 (by decide) (hts (.fieldLink RX5 21 "DynamicLogicProver$Partition" "worlds" "I") (mo_X5_refine1 5 rfl)) (fun _ h9 => h9) rfl dX5_refine_17 ?_
  refine lv_icmp_ge (tgt := 57) hx hb dX5_refine_20 (by decide) (fun c_5 => ?_) (fun c_5 => ?_)
  · exact absurd c_5 (by decide)
  · refine lv_aload_n hx hb dX5_refine_23 rfl (lv_at hl 2 rfl) ?_
    refine va_get (D := D) (ci := 5) (v := .ref d) (C := RX5) (T := TX5) (N := 5) hx hb hts hiX5 hown hK hP 0 rfl rfl 2 (by decide) (hts (.fieldLink RX5 18 "DynamicLogicProver$Partition" "images" "[I") (mo_X5_refine1 1 rfl)) (fun _ h9 => h9) rfl dX5_refine_24 ?_
    refine lv_aload_n hx hb dX5_refine_27 rfl (lv_at hl 2 rfl) ?_
    refine lv_iload_n hx hb dX5_refine_28 rfl (lv_at hl 0 rfl) ?_
    refine kc_Vi (As := [.int 0]) (rest := [.ref d]) (wr := [(b, .inl (kb, 6, .inl g)), (o, .inr (3, [.ref ot, .ref ov, .int 1])), (ov, .inl (kv, 18, .inl fv)), (d, .inl (kd, 6, .inl o_4))]) ⟨hx, hb, hml, hown, hts⟩ (ct_X5_classOf l D h a b d ka f 1 1 0 _ ) (cwV 1 hts (kg_V (mo_X5_refine1 6 rfl) (mo_X5_refine1 7 rfl) (mo_X5_refine1 8 rfl) (mo_X5_refine1 9 rfl) (goodIn_sub mb_X5_refine1_1 gw_X5_classOf)) rfl rfl rfl ⟨rfl, hd_X5_classOf⟩ ⟨Nat.le_of_ble_eq_true rfl, Nat.le_of_ble_eq_true rfl⟩) (RX5, TX5, 5) 5 0 rfl rfl rfl hK hN hP hD hS hA [0, 1] [2, 3, 4, 5] [0] rfl rfl (by decide) (by decide) (by decide) rfl rfl hl.1 rfl (Nat.le_of_ble_eq_true rfl) dX5_refine_29 ⟨Nat.le_of_ble_eq_true rfl, Nat.le_of_ble_eq_true rfl⟩ (fun r_6 u_7 H locs w_8 hP hD hK1 hS => ?_)
    have hP : va_P D vwCl [(b, .inl (kb, 6, .inl g)), (o, .inr (3, [.ref ot, .ref ov, .int 1])), (ov, .inl (kv, 18, .inl fv)), (d, .inl (kd, 6, .inl o_4)), (h, .inr (5, [.ref a, .ref b, .ref d, .int 1, .int 1])), (a, .inl (ka, 6, .inl f))] H := hP
    have hD : va_D A [(b, .inl (kb, 6, .inl g)), (o, .inr (3, [.ref ot, .ref ov, .int 1])), (ov, .inl (kv, 18, .inl fv)), (d, .inl (kd, 6, .inl o_4)), (h, .inr (5, [.ref a, .ref b, .ref d, .int 1, .int 1])), (a, .inl (ka, 6, .inl f))] := hD
    have w_8 : r_6 = at_v f 6 0 := w_8
    refine lv_aload_n hx hb dX5_refine_32 rfl (lv_at hl 2 rfl) ?_
    refine va_get (D := D) (ci := 5) (v := .ref d) (C := RX5) (T := TX5) (N := 5) hx hb hts hiX5 hown hK hP 4 rfl rfl 2 (by decide) (hts (.fieldLink RX5 18 "DynamicLogicProver$Partition" "images" "[I") (mo_X5_refine1 1 rfl)) (fun _ h9 => h9) rfl dX5_refine_33 ?_
    refine lv_aload_n hx hb dX5_refine_36 rfl (lv_at hl 2 rfl) ?_
    refine lv_iload_n hx hb dX5_refine_37 rfl (lv_at hl 0 rfl) ?_
    refine kc_Vi (As := [.int 0]) (rest := [.ref d, .int r_6, .ref d]) (wr := [(b, .inl (kb, 6, .inl g)), (o, .inr (3, [.ref ot, .ref ov, .int 1])), (ov, .inl (kv, 18, .inl fv)), (d, .inl (kd, 6, .inl o_4))]) ⟨hx, hb, hml, hown, hts⟩ (ct_X5_classOf l D h a b d ka f 1 1 0 _ ) (cwV 1 hts (kg_V (mo_X5_refine1 6 rfl) (mo_X5_refine1 7 rfl) (mo_X5_refine1 8 rfl) (mo_X5_refine1 9 rfl) (goodIn_sub mb_X5_refine1_1 gw_X5_classOf)) rfl rfl rfl ⟨rfl, hd_X5_classOf⟩ ⟨Nat.le_of_ble_eq_true rfl, Nat.le_of_ble_eq_true rfl⟩) (RX5, TX5, 5) 5 4 rfl rfl rfl hK hN hP hD hS hA [4, 5] [0, 1, 2, 3] [0] rfl rfl (by decide) (by decide) (by decide) rfl rfl hl.1 rfl (Nat.le_of_ble_eq_true rfl) dX5_refine_38 ⟨Nat.le_of_ble_eq_true rfl, Nat.le_of_ble_eq_true rfl⟩ (fun r_9 u_10 H locs w_11 hP hD hK1 hS => ?_)
    have hP : va_P D vwCl [(b, .inl (kb, 6, .inl g)), (o, .inr (3, [.ref ot, .ref ov, .int 1])), (ov, .inl (kv, 18, .inl fv)), (d, .inl (kd, 6, .inl o_4)), (h, .inr (5, [.ref a, .ref b, .ref d, .int 1, .int 1])), (a, .inl (ka, 6, .inl f))] H := hP
    have hD : va_D A [(b, .inl (kb, 6, .inl g)), (o, .inr (3, [.ref ot, .ref ov, .int 1])), (ov, .inl (kv, 18, .inl fv)), (d, .inl (kd, 6, .inl o_4)), (h, .inr (5, [.ref a, .ref b, .ref d, .int 1, .int 1])), (a, .inl (ka, 6, .inl f))] := hD
    have w_11 : r_9 = at_v f 6 0 := w_11
    refine kc_Ni (As := [.ref d, .int r_9]) (rest := [.int r_6, .ref d]) (wr := [(b, .inl (kb, 6, .inl g)), (o, .inr (3, [.ref ot, .ref ov, .int 1])), (ov, .inl (kv, 18, .inl fv)), (h, .inr (5, [.ref a, .ref b, .ref d, .int 1, .int 1])), (a, .inl (ka, 6, .inl f))]) ⟨hx, hb, hml, hown, hts⟩ (ct_X11_at l D d kd 6 o_4 r_9 _ (by decide)) ⟨va_cnB 2 hts (goodIn_sub mb_X5_refine1_2 gw_X11_at) rfl rfl rfl (hN.1 (RX5, 28, yX11_at) (List.mem_of_getElem? (i := 17) rfl)) (hts (.initialized RX11) (mo_X5_refine1 10 rfl)) hd_X11_at ⟨Nat.le_of_ble_eq_true rfl, Nat.le_of_ble_eq_true rfl⟩, (hts (.static yX11_at) (mo_X5_refine1 11 rfl)), trivial⟩ hK hN hP hD hS hA [3] [0, 1, 2, 4, 5] [2] rfl rfl (by decide) (by decide) (by decide) rfl rfl hl.1 rfl (Nat.le_of_ble_eq_true rfl) dX5_refine_41 ⟨Nat.le_of_ble_eq_true rfl, Nat.le_of_ble_eq_true rfl⟩ (fun r_12 u_13 H locs w_14 hP hD hK1 hS => ?_)
    have hP : va_P D vwCl [(b, .inl (kb, 6, .inl g)), (o, .inr (3, [.ref ot, .ref ov, .int 1])), (ov, .inl (kv, 18, .inl fv)), (h, .inr (5, [.ref a, .ref b, .ref d, .int 1, .int 1])), (a, .inl (ka, 6, .inl f)), (d, .inl (kd, 6, .inl o_4))] H := hP
    have hD : va_D A [(b, .inl (kb, 6, .inl g)), (o, .inr (3, [.ref ot, .ref ov, .int 1])), (ov, .inl (kv, 18, .inl fv)), (h, .inr (5, [.ref a, .ref b, .ref d, .int 1, .int 1])), (a, .inl (ka, 6, .inl f)), (d, .inl (kd, 6, .inl o_4))] := hD
    have w_14 : r_12 = at_v o_4 6 r_9 := w_14
    refine lv_iconst (v := 1) hx hb dX5_refine_44 (by decide) ?_
    refine lv_iload_n hx hb dX5_refine_45 rfl (lv_at hl 0 rfl) ?_
    refine lv_ishl hx hb dX5_refine_46 ?_
    refine lv_topi (fun x_15 ex_15 => ?_)
    obtain rfl : x_15 = 1 := ex_15.trans (by decide)
    refine lv_ior hx hb dX5_refine_47 ?_
    refine lv_topi (fun x_16 ex_16 => ?_)
    refine kc_Nv (As := [.ref d, .int r_6, .int x_16]) (rest := []) (wr := [(b, .inl (kb, 6, .inl g)), (o, .inr (3, [.ref ot, .ref ov, .int 1])), (ov, .inl (kv, 18, .inl fv)), (h, .inr (5, [.ref a, .ref b, .ref d, .int 1, .int 1])), (a, .inl (ka, 6, .inl f))]) ⟨hx, hb, hml, hown, hts⟩ (ct_X11_put l D d kd 6 o_4 r_6 x_16 _ (by decide)) ⟨va_cnB 3 hts (goodIn_sub mb_X5_refine1_3 gw_X11_put) rfl rfl rfl (hN.1 (RX5, 44, yX11_put) (List.mem_of_getElem? (i := 18) rfl)) (hts (.initialized RX11) (mo_X5_refine1 10 rfl)) hd_X11_put ⟨Nat.le_of_ble_eq_true rfl, Nat.le_of_ble_eq_true rfl⟩, (hts (.static yX11_put) (mo_X5_refine1 12 rfl)), trivial⟩ hK hN hP hD hS hA [5] [0, 1, 2, 3, 4] [2] rfl rfl (by decide) (by decide) (by decide) rfl rfl hl.1 rfl (Nat.le_of_ble_eq_true rfl) dX5_refine_48 ⟨Nat.le_of_ble_eq_true rfl, Nat.le_of_ble_eq_true rfl⟩ (fun u_18 H locs w_19 hP hD hK1 hS => ?_)
    obtain ⟨o_20, rfl⟩ : ∃ z, z = u_18 := ⟨_, rfl⟩
    have hP : va_P D vwCl [(b, .inl (kb, 6, .inl g)), (o, .inr (3, [.ref ot, .ref ov, .int 1])), (ov, .inl (kv, 18, .inl fv)), (h, .inr (5, [.ref a, .ref b, .ref d, .int 1, .int 1])), (a, .inl (ka, 6, .inl f)), (d, .inl (kd, 6, .inl o_20))] H := hP
    have hD : va_D A [(b, .inl (kb, 6, .inl g)), (o, .inr (3, [.ref ot, .ref ov, .int 1])), (ov, .inl (kv, 18, .inl fv)), (h, .inr (5, [.ref a, .ref b, .ref d, .int 1, .int 1])), (a, .inl (ka, 6, .inl f)), (d, .inl (kd, 6, .inl o_20))] := hD
    have w_19 : o_20 = put_v o_4 6 r_6 x_16 := w_19
    refine lv_iinc (v := 1) (lv' := [(3, .int 1), (2, .int 1), (0, .ref h), (1, .ref o)]) hx hb dX5_refine_51 hl (k := 0) rfl (by decide) (by decide) rfl (fun ls hl => ?_)
    refine lv_goto (tgt := 15) hx hb dX5_refine_54 (by decide) ?_
    refine lv_iload_n hx hb dX5_refine_15 rfl (lv_at hl 0 rfl) ?_
    refine lv_aload_n hx hb dX5_refine_16 rfl (lv_at hl 2 rfl) ?_
    refine va_get (D := D) (ci := 5) (v := .int 1) (C := RX5) (T := TX5) (N := 5) hx hb hts hiX5 hown hK hP 3 rfl rfl 3 (by decide) (hts (.fieldLink RX5 21 "DynamicLogicProver$Partition" "worlds" "I") (mo_X5_refine1 5 rfl)) (fun _ h9 => h9) rfl dX5_refine_17 ?_
    refine lv_icmp_ge (tgt := 57) hx hb dX5_refine_20 (by decide) (fun c_21 => ?_) (fun c_21 => ?_)
    · refine lv_iconst (v := 0) hx hb dX5_refine_57 (by decide) ?_
      refine lv_istore_n (lv' := [(3, .int 0), (2, .int 1), (0, .ref h), (1, .ref o)]) hx hb dX5_refine_58 rfl hl (by decide) rfl (fun ls hl => ?_)
      refine lv_iload_n hx hb dX5_refine_59 rfl (lv_at hl 0 rfl) ?_
      refine lv_iconst (v := 3) hx hb dX5_refine_60 (by decide) ?_
      refine lv_icmp_ge (tgt := 104) hx hb dX5_refine_61 (by decide) (fun c_22 => ?_) (fun c_22 => ?_)
      · exact absurd c_22 (by decide)
      · refine lv_iconst (v := 0) hx hb dX5_refine_64 (by decide) ?_
        refine lv_istore (lv' := [(4, .int 0), (3, .int 0), (2, .int 1), (0, .ref h), (1, .ref o)]) hx hb dX5_refine_65 hl (by decide) rfl (fun ls hl => ?_)
        refine lv_iload hx hb dX5_refine_67 (lv_at hl 0 rfl) ?_
        refine lv_iload_n hx hb dX5_refine_69 rfl (lv_at hl 2 rfl) ?_
        refine lv_icmp_ge (tgt := 98) hx hb dX5_refine_70 (by decide) (fun c_23 => ?_) (fun c_23 => ?_)
        · exact absurd c_23 (by decide)
        · refine lv_aload_n hx hb dX5_refine_73 rfl (lv_at hl 3 rfl) ?_
          refine lv_aload_n hx hb dX5_refine_74 rfl (lv_at hl 3 rfl) ?_
          refine lv_aload_n hx hb dX5_refine_75 rfl (lv_at hl 4 rfl) ?_
          refine lv_iload_n hx hb dX5_refine_76 rfl (lv_at hl 1 rfl) ?_
          refine lv_aload_n hx hb dX5_refine_77 rfl (lv_at hl 3 rfl) ?_
          refine va_get (D := D) (ci := 5) (v := .ref d) (C := RX5) (T := TX5) (N := 5) hx hb hts hiX5 hown hK hP 3 rfl rfl 2 (by decide) (hts (.fieldLink RX5 18 "DynamicLogicProver$Partition" "images" "[I") (mo_X5_refine1 1 rfl)) (fun _ h9 => h9) rfl dX5_refine_78 ?_
          refine lv_iload hx hb dX5_refine_81 (lv_at hl 0 rfl) ?_
          refine kc_Ni (As := [.ref d, .int 0]) (rest := [.int 0, .ref o, .ref h, .ref h]) (wr := [(b, .inl (kb, 6, .inl g)), (o, .inr (3, [.ref ot, .ref ov, .int 1])), (ov, .inl (kv, 18, .inl fv)), (h, .inr (5, [.ref a, .ref b, .ref d, .int 1, .int 1])), (a, .inl (ka, 6, .inl f))]) ⟨hx, hb, hml, hown, hts⟩ (ct_X11_at l D d kd 6 o_20 0 _ (by decide)) ⟨va_cnB 2 hts (goodIn_sub mb_X5_refine1_2 gw_X11_at) rfl rfl rfl (hN.1 (RX5, 28, yX11_at) (List.mem_of_getElem? (i := 17) rfl)) (hts (.initialized RX11) (mo_X5_refine1 10 rfl)) hd_X11_at ⟨Nat.le_of_ble_eq_true rfl, Nat.le_of_ble_eq_true rfl⟩, (hts (.static yX11_at) (mo_X5_refine1 11 rfl)), trivial⟩ hK hN hP hD hS hA [5] [0, 1, 2, 3, 4] [2] rfl rfl (by decide) (by decide) (by decide) rfl rfl hl.1 rfl (Nat.le_of_ble_eq_true rfl) dX5_refine_83 ⟨Nat.le_of_ble_eq_true rfl, Nat.le_of_ble_eq_true rfl⟩ (fun r_24 u_25 H locs w_26 hP hD hK1 hS => ?_)
          have hP : va_P D vwCl [(b, .inl (kb, 6, .inl g)), (o, .inr (3, [.ref ot, .ref ov, .int 1])), (ov, .inl (kv, 18, .inl fv)), (h, .inr (5, [.ref a, .ref b, .ref d, .int 1, .int 1])), (a, .inl (ka, 6, .inl f)), (d, .inl (kd, 6, .inl o_20))] H := hP
          have hD : va_D A [(b, .inl (kb, 6, .inl g)), (o, .inr (3, [.ref ot, .ref ov, .int 1])), (ov, .inl (kv, 18, .inl fv)), (h, .inr (5, [.ref a, .ref b, .ref d, .int 1, .int 1])), (a, .inl (ka, 6, .inl f)), (d, .inl (kd, 6, .inl o_20))] := hD
          have w_26 : r_24 = at_v o_20 6 0 := w_26
          refine kc_Vi (As := [.ref o, .int 0, .int r_24]) (rest := [.ref h]) (wr := [(b, .inl (kb, 6, .inl g)), (a, .inl (ka, 6, .inl f)), (d, .inl (kd, 6, .inl o_20))]) ⟨hx, hb, hml, hown, hts⟩ (ct_X5_sources1 l D h a b d o ot ov kv fv 1 0 r_24 _ ) (cwV 3 hts (kg_V (mo_X5_refine1 13 rfl) (mo_X5_refine1 14 rfl) (mo_X5_refine1 15 rfl) (mo_X5_refine1 9 rfl) (goodIn_sub mb_X5_refine1_4 gw_X5_sources1)) rfl rfl rfl ⟨rfl, hd_X5_sources⟩ ⟨Nat.le_of_ble_eq_true rfl, Nat.le_of_ble_eq_true rfl⟩) (RX5, TX5, 5) 5 3 rfl rfl rfl hK hN hP hD hS hA [3, 1, 2] [0, 4, 5] [3] rfl rfl (by decide) (by decide) (by decide) rfl rfl hl.1 rfl (Nat.le_of_ble_eq_true rfl) dX5_refine_86 ⟨Nat.le_of_ble_eq_true rfl, Nat.le_of_ble_eq_true rfl⟩ (fun r_27 u_28 H locs w_29 hP hD hK1 hS => ?_)
          have hP : va_P D vwCl [(b, .inl (kb, 6, .inl g)), (a, .inl (ka, 6, .inl f)), (d, .inl (kd, 6, .inl o_20)), (h, .inr (5, [.ref a, .ref b, .ref d, .int 1, .int 1])), (o, .inr (3, [.ref ot, .ref ov, .int 1])), (ov, .inl (kv, 18, .inl fv))] H := hP
          have hD : va_D A [(b, .inl (kb, 6, .inl g)), (a, .inl (ka, 6, .inl f)), (d, .inl (kd, 6, .inl o_20)), (h, .inr (5, [.ref a, .ref b, .ref d, .int 1, .int 1])), (o, .inr (3, [.ref ot, .ref ov, .int 1])), (ov, .inl (kv, 18, .inl fv))] := hD
          refine kc_Vv (As := [.int r_27]) (rest := []) (wr := [(d, .inl (kd, 6, .inl o_20)), (o, .inr (3, [.ref ot, .ref ov, .int 1])), (ov, .inl (kv, 18, .inl fv))]) ⟨hx, hb, hml, hown, hts⟩ (ct_X5_split1 l D h a b d ka kb f g 1 r_27 _ ) (cwV 1 hts (kg_V (mo_X5_refine1 16 rfl) (mo_X5_refine1 17 rfl) (mo_X5_refine1 18 rfl) (mo_X5_refine1 9 rfl) (goodIn_sub mb_X5_refine1_5 gw_X5_split1)) rfl rfl rfl ⟨rfl, hd_X5_split⟩ ⟨Nat.le_of_ble_eq_true rfl, Nat.le_of_ble_eq_true rfl⟩) (RX5, TX5, 5) 5 3 rfl rfl rfl hK hN hP hD hS hA [3, 1, 0] [2, 4, 5] [0, 1] rfl rfl (by decide) (by decide) (by decide) rfl rfl hl.1 rfl (Nat.le_of_ble_eq_true rfl) dX5_refine_89 ⟨Nat.le_of_ble_eq_true rfl, Nat.le_of_ble_eq_true rfl⟩ (fun u_31 H locs w_32 hP hD hK1 hS => ?_)
          obtain ⟨o_33, o_34⟩ := u_31
          have hP : va_P D vwCl [(d, .inl (kd, 6, .inl o_20)), (o, .inr (3, [.ref ot, .ref ov, .int 1])), (ov, .inl (kv, 18, .inl fv)), (h, .inr (5, [.ref a, .ref b, .ref d, .int 1, .int 1])), (a, .inl (ka, 6, .inl o_33)), (b, .inl (kb, 6, .inl o_34))] H := hP
          have hD : va_D A [(d, .inl (kd, 6, .inl o_20)), (o, .inr (3, [.ref ot, .ref ov, .int 1])), (ov, .inl (kv, 18, .inl fv)), (h, .inr (5, [.ref a, .ref b, .ref d, .int 1, .int 1])), (a, .inl (ka, 6, .inl o_33)), (b, .inl (kb, 6, .inl o_34))] := hD
          have w_32 : o_33 0 = 0 := w_32
          refine lv_iinc (v := 1) (lv' := [(4, .int 1), (3, .int 0), (2, .int 1), (0, .ref h), (1, .ref o)]) hx hb dX5_refine_92 hl (k := 0) rfl (by decide) (by decide) rfl (fun ls hl => ?_)
          refine lv_goto (tgt := 67) hx hb dX5_refine_95 (by decide) ?_
          refine lv_iload hx hb dX5_refine_67 (lv_at hl 0 rfl) ?_
          refine lv_iload_n hx hb dX5_refine_69 rfl (lv_at hl 2 rfl) ?_
          refine lv_icmp_ge (tgt := 98) hx hb dX5_refine_70 (by decide) (fun c_35 => ?_) (fun c_35 => ?_)
          · refine lv_iinc (v := 1) (lv' := [(3, .int 1), (4, .int 1), (2, .int 1), (0, .ref h), (1, .ref o)]) hx hb dX5_refine_98 hl (k := 1) rfl (by decide) (by decide) rfl (fun ls hl => ?_)
            refine lv_goto (tgt := 59) hx hb dX5_refine_101 (by decide) ?_
            refine lv_iload_n hx hb dX5_refine_59 rfl (lv_at hl 0 rfl) ?_
            refine lv_iconst (v := 3) hx hb dX5_refine_60 (by decide) ?_
            refine lv_icmp_ge (tgt := 104) hx hb dX5_refine_61 (by decide) (fun c_36 => ?_) (fun c_36 => ?_)
            · exact absurd c_36 (by decide)
            · refine lv_iconst (v := 0) hx hb dX5_refine_64 (by decide) ?_
              refine lv_istore (lv' := [(4, .int 0), (3, .int 1), (2, .int 1), (0, .ref h), (1, .ref o)]) hx hb dX5_refine_65 hl (by decide) rfl (fun ls hl => ?_)
              refine lv_iload hx hb dX5_refine_67 (lv_at hl 0 rfl) ?_
              refine lv_iload_n hx hb dX5_refine_69 rfl (lv_at hl 2 rfl) ?_
              refine lv_icmp_ge (tgt := 98) hx hb dX5_refine_70 (by decide) (fun c_37 => ?_) (fun c_37 => ?_)
              · exact absurd c_37 (by decide)
              · refine lv_aload_n hx hb dX5_refine_73 rfl (lv_at hl 3 rfl) ?_
                refine lv_aload_n hx hb dX5_refine_74 rfl (lv_at hl 3 rfl) ?_
                refine lv_aload_n hx hb dX5_refine_75 rfl (lv_at hl 4 rfl) ?_
                refine lv_iload_n hx hb dX5_refine_76 rfl (lv_at hl 1 rfl) ?_
                refine lv_aload_n hx hb dX5_refine_77 rfl (lv_at hl 3 rfl) ?_
                refine va_get (D := D) (ci := 5) (v := .ref d) (C := RX5) (T := TX5) (N := 5) hx hb hts hiX5 hown hK hP 3 rfl rfl 2 (by decide) (hts (.fieldLink RX5 18 "DynamicLogicProver$Partition" "images" "[I") (mo_X5_refine1 1 rfl)) (fun _ h9 => h9) rfl dX5_refine_78 ?_
                refine lv_iload hx hb dX5_refine_81 (lv_at hl 0 rfl) ?_
                refine kc_Ni (As := [.ref d, .int 0]) (rest := [.int 1, .ref o, .ref h, .ref h]) (wr := [(o, .inr (3, [.ref ot, .ref ov, .int 1])), (ov, .inl (kv, 18, .inl fv)), (h, .inr (5, [.ref a, .ref b, .ref d, .int 1, .int 1])), (a, .inl (ka, 6, .inl o_33)), (b, .inl (kb, 6, .inl o_34))]) ⟨hx, hb, hml, hown, hts⟩ (ct_X11_at l D d kd 6 o_20 0 _ (by decide)) ⟨va_cnB 2 hts (goodIn_sub mb_X5_refine1_2 gw_X11_at) rfl rfl rfl (hN.1 (RX5, 28, yX11_at) (List.mem_of_getElem? (i := 17) rfl)) (hts (.initialized RX11) (mo_X5_refine1 10 rfl)) hd_X11_at ⟨Nat.le_of_ble_eq_true rfl, Nat.le_of_ble_eq_true rfl⟩, (hts (.static yX11_at) (mo_X5_refine1 11 rfl)), trivial⟩ hK hN hP hD hS hA [0] [1, 2, 3, 4, 5] [2] rfl rfl (by decide) (by decide) (by decide) rfl rfl hl.1 rfl (Nat.le_of_ble_eq_true rfl) dX5_refine_83 ⟨Nat.le_of_ble_eq_true rfl, Nat.le_of_ble_eq_true rfl⟩ (fun r_38 u_39 H locs w_40 hP hD hK1 hS => ?_)
                have hP : va_P D vwCl [(o, .inr (3, [.ref ot, .ref ov, .int 1])), (ov, .inl (kv, 18, .inl fv)), (h, .inr (5, [.ref a, .ref b, .ref d, .int 1, .int 1])), (a, .inl (ka, 6, .inl o_33)), (b, .inl (kb, 6, .inl o_34)), (d, .inl (kd, 6, .inl o_20))] H := hP
                have hD : va_D A [(o, .inr (3, [.ref ot, .ref ov, .int 1])), (ov, .inl (kv, 18, .inl fv)), (h, .inr (5, [.ref a, .ref b, .ref d, .int 1, .int 1])), (a, .inl (ka, 6, .inl o_33)), (b, .inl (kb, 6, .inl o_34)), (d, .inl (kd, 6, .inl o_20))] := hD
                have w_40 : r_38 = at_v o_20 6 0 := w_40
                refine kc_Vi (As := [.ref o, .int 1, .int r_38]) (rest := [.ref h]) (wr := [(a, .inl (ka, 6, .inl o_33)), (b, .inl (kb, 6, .inl o_34)), (d, .inl (kd, 6, .inl o_20))]) ⟨hx, hb, hml, hown, hts⟩ (ct_X5_sources1 l D h a b d o ot ov kv fv 1 1 r_38 _ ) (cwV 3 hts (kg_V (mo_X5_refine1 13 rfl) (mo_X5_refine1 14 rfl) (mo_X5_refine1 15 rfl) (mo_X5_refine1 9 rfl) (goodIn_sub mb_X5_refine1_4 gw_X5_sources1)) rfl rfl rfl ⟨rfl, hd_X5_sources⟩ ⟨Nat.le_of_ble_eq_true rfl, Nat.le_of_ble_eq_true rfl⟩) (RX5, TX5, 5) 5 2 rfl rfl rfl hK hN hP hD hS hA [2, 0, 1] [3, 4, 5] [3] rfl rfl (by decide) (by decide) (by decide) rfl rfl hl.1 rfl (Nat.le_of_ble_eq_true rfl) dX5_refine_86 ⟨Nat.le_of_ble_eq_true rfl, Nat.le_of_ble_eq_true rfl⟩ (fun r_41 u_42 H locs w_43 hP hD hK1 hS => ?_)
                have hP : va_P D vwCl [(a, .inl (ka, 6, .inl o_33)), (b, .inl (kb, 6, .inl o_34)), (d, .inl (kd, 6, .inl o_20)), (h, .inr (5, [.ref a, .ref b, .ref d, .int 1, .int 1])), (o, .inr (3, [.ref ot, .ref ov, .int 1])), (ov, .inl (kv, 18, .inl fv))] H := hP
                have hD : va_D A [(a, .inl (ka, 6, .inl o_33)), (b, .inl (kb, 6, .inl o_34)), (d, .inl (kd, 6, .inl o_20)), (h, .inr (5, [.ref a, .ref b, .ref d, .int 1, .int 1])), (o, .inr (3, [.ref ot, .ref ov, .int 1])), (ov, .inl (kv, 18, .inl fv))] := hD
                refine kc_Vv (As := [.int r_41]) (rest := []) (wr := [(d, .inl (kd, 6, .inl o_20)), (o, .inr (3, [.ref ot, .ref ov, .int 1])), (ov, .inl (kv, 18, .inl fv))]) ⟨hx, hb, hml, hown, hts⟩ (ct_X5_split1 l D h a b d ka kb o_33 o_34 1 r_41 _ ) (cwV 1 hts (kg_V (mo_X5_refine1 16 rfl) (mo_X5_refine1 17 rfl) (mo_X5_refine1 18 rfl) (mo_X5_refine1 9 rfl) (goodIn_sub mb_X5_refine1_5 gw_X5_split1)) rfl rfl rfl ⟨rfl, hd_X5_split⟩ ⟨Nat.le_of_ble_eq_true rfl, Nat.le_of_ble_eq_true rfl⟩) (RX5, TX5, 5) 5 3 rfl rfl rfl hK hN hP hD hS hA [3, 0, 1] [2, 4, 5] [0, 1] rfl rfl (by decide) (by decide) (by decide) rfl rfl hl.1 rfl (Nat.le_of_ble_eq_true rfl) dX5_refine_89 ⟨Nat.le_of_ble_eq_true rfl, Nat.le_of_ble_eq_true rfl⟩ (fun u_45 H locs w_46 hP hD hK1 hS => ?_)
                obtain ⟨o_47, o_48⟩ := u_45
                have hP : va_P D vwCl [(d, .inl (kd, 6, .inl o_20)), (o, .inr (3, [.ref ot, .ref ov, .int 1])), (ov, .inl (kv, 18, .inl fv)), (h, .inr (5, [.ref a, .ref b, .ref d, .int 1, .int 1])), (a, .inl (ka, 6, .inl o_47)), (b, .inl (kb, 6, .inl o_48))] H := hP
                have hD : va_D A [(d, .inl (kd, 6, .inl o_20)), (o, .inr (3, [.ref ot, .ref ov, .int 1])), (ov, .inl (kv, 18, .inl fv)), (h, .inr (5, [.ref a, .ref b, .ref d, .int 1, .int 1])), (a, .inl (ka, 6, .inl o_47)), (b, .inl (kb, 6, .inl o_48))] := hD
                have w_46 : o_47 0 = 0 := w_46
                refine lv_iinc (v := 1) (lv' := [(4, .int 1), (3, .int 1), (2, .int 1), (0, .ref h), (1, .ref o)]) hx hb dX5_refine_92 hl (k := 0) rfl (by decide) (by decide) rfl (fun ls hl => ?_)
                refine lv_goto (tgt := 67) hx hb dX5_refine_95 (by decide) ?_
                refine lv_iload hx hb dX5_refine_67 (lv_at hl 0 rfl) ?_
                refine lv_iload_n hx hb dX5_refine_69 rfl (lv_at hl 2 rfl) ?_
                refine lv_icmp_ge (tgt := 98) hx hb dX5_refine_70 (by decide) (fun c_49 => ?_) (fun c_49 => ?_)
                · refine lv_iinc (v := 2) (lv' := [(3, .int 2), (4, .int 1), (2, .int 1), (0, .ref h), (1, .ref o)]) hx hb dX5_refine_98 hl (k := 1) rfl (by decide) (by decide) rfl (fun ls hl => ?_)
                  refine lv_goto (tgt := 59) hx hb dX5_refine_101 (by decide) ?_
                  refine lv_iload_n hx hb dX5_refine_59 rfl (lv_at hl 0 rfl) ?_
                  refine lv_iconst (v := 3) hx hb dX5_refine_60 (by decide) ?_
                  refine lv_icmp_ge (tgt := 104) hx hb dX5_refine_61 (by decide) (fun c_50 => ?_) (fun c_50 => ?_)
                  · exact absurd c_50 (by decide)
                  · refine lv_iconst (v := 0) hx hb dX5_refine_64 (by decide) ?_
                    refine lv_istore (lv' := [(4, .int 0), (3, .int 2), (2, .int 1), (0, .ref h), (1, .ref o)]) hx hb dX5_refine_65 hl (by decide) rfl (fun ls hl => ?_)
                    refine lv_iload hx hb dX5_refine_67 (lv_at hl 0 rfl) ?_
                    refine lv_iload_n hx hb dX5_refine_69 rfl (lv_at hl 2 rfl) ?_
                    refine lv_icmp_ge (tgt := 98) hx hb dX5_refine_70 (by decide) (fun c_51 => ?_) (fun c_51 => ?_)
                    · exact absurd c_51 (by decide)
                    · refine lv_aload_n hx hb dX5_refine_73 rfl (lv_at hl 3 rfl) ?_
                      refine lv_aload_n hx hb dX5_refine_74 rfl (lv_at hl 3 rfl) ?_
                      refine lv_aload_n hx hb dX5_refine_75 rfl (lv_at hl 4 rfl) ?_
                      refine lv_iload_n hx hb dX5_refine_76 rfl (lv_at hl 1 rfl) ?_
                      refine lv_aload_n hx hb dX5_refine_77 rfl (lv_at hl 3 rfl) ?_
                      refine va_get (D := D) (ci := 5) (v := .ref d) (C := RX5) (T := TX5) (N := 5) hx hb hts hiX5 hown hK hP 3 rfl rfl 2 (by decide) (hts (.fieldLink RX5 18 "DynamicLogicProver$Partition" "images" "[I") (mo_X5_refine1 1 rfl)) (fun _ h9 => h9) rfl dX5_refine_78 ?_
                      refine lv_iload hx hb dX5_refine_81 (lv_at hl 0 rfl) ?_
                      refine kc_Ni (As := [.ref d, .int 0]) (rest := [.int 2, .ref o, .ref h, .ref h]) (wr := [(o, .inr (3, [.ref ot, .ref ov, .int 1])), (ov, .inl (kv, 18, .inl fv)), (h, .inr (5, [.ref a, .ref b, .ref d, .int 1, .int 1])), (a, .inl (ka, 6, .inl o_47)), (b, .inl (kb, 6, .inl o_48))]) ⟨hx, hb, hml, hown, hts⟩ (ct_X11_at l D d kd 6 o_20 0 _ (by decide)) ⟨va_cnB 2 hts (goodIn_sub mb_X5_refine1_2 gw_X11_at) rfl rfl rfl (hN.1 (RX5, 28, yX11_at) (List.mem_of_getElem? (i := 17) rfl)) (hts (.initialized RX11) (mo_X5_refine1 10 rfl)) hd_X11_at ⟨Nat.le_of_ble_eq_true rfl, Nat.le_of_ble_eq_true rfl⟩, (hts (.static yX11_at) (mo_X5_refine1 11 rfl)), trivial⟩ hK hN hP hD hS hA [0] [1, 2, 3, 4, 5] [2] rfl rfl (by decide) (by decide) (by decide) rfl rfl hl.1 rfl (Nat.le_of_ble_eq_true rfl) dX5_refine_83 ⟨Nat.le_of_ble_eq_true rfl, Nat.le_of_ble_eq_true rfl⟩ (fun r_52 u_53 H locs w_54 hP hD hK1 hS => ?_)
                      have hP : va_P D vwCl [(o, .inr (3, [.ref ot, .ref ov, .int 1])), (ov, .inl (kv, 18, .inl fv)), (h, .inr (5, [.ref a, .ref b, .ref d, .int 1, .int 1])), (a, .inl (ka, 6, .inl o_47)), (b, .inl (kb, 6, .inl o_48)), (d, .inl (kd, 6, .inl o_20))] H := hP
                      have hD : va_D A [(o, .inr (3, [.ref ot, .ref ov, .int 1])), (ov, .inl (kv, 18, .inl fv)), (h, .inr (5, [.ref a, .ref b, .ref d, .int 1, .int 1])), (a, .inl (ka, 6, .inl o_47)), (b, .inl (kb, 6, .inl o_48)), (d, .inl (kd, 6, .inl o_20))] := hD
                      have w_54 : r_52 = at_v o_20 6 0 := w_54
                      refine kc_Vi (As := [.ref o, .int 2, .int r_52]) (rest := [.ref h]) (wr := [(a, .inl (ka, 6, .inl o_47)), (b, .inl (kb, 6, .inl o_48)), (d, .inl (kd, 6, .inl o_20))]) ⟨hx, hb, hml, hown, hts⟩ (ct_X5_sources1 l D h a b d o ot ov kv fv 1 2 r_52 _ ) (cwV 3 hts (kg_V (mo_X5_refine1 13 rfl) (mo_X5_refine1 14 rfl) (mo_X5_refine1 15 rfl) (mo_X5_refine1 9 rfl) (goodIn_sub mb_X5_refine1_4 gw_X5_sources1)) rfl rfl rfl ⟨rfl, hd_X5_sources⟩ ⟨Nat.le_of_ble_eq_true rfl, Nat.le_of_ble_eq_true rfl⟩) (RX5, TX5, 5) 5 2 rfl rfl rfl hK hN hP hD hS hA [2, 0, 1] [3, 4, 5] [3] rfl rfl (by decide) (by decide) (by decide) rfl rfl hl.1 rfl (Nat.le_of_ble_eq_true rfl) dX5_refine_86 ⟨Nat.le_of_ble_eq_true rfl, Nat.le_of_ble_eq_true rfl⟩ (fun r_55 u_56 H locs w_57 hP hD hK1 hS => ?_)
                      have hP : va_P D vwCl [(a, .inl (ka, 6, .inl o_47)), (b, .inl (kb, 6, .inl o_48)), (d, .inl (kd, 6, .inl o_20)), (h, .inr (5, [.ref a, .ref b, .ref d, .int 1, .int 1])), (o, .inr (3, [.ref ot, .ref ov, .int 1])), (ov, .inl (kv, 18, .inl fv))] H := hP
                      have hD : va_D A [(a, .inl (ka, 6, .inl o_47)), (b, .inl (kb, 6, .inl o_48)), (d, .inl (kd, 6, .inl o_20)), (h, .inr (5, [.ref a, .ref b, .ref d, .int 1, .int 1])), (o, .inr (3, [.ref ot, .ref ov, .int 1])), (ov, .inl (kv, 18, .inl fv))] := hD
                      refine kc_Vv (As := [.int r_55]) (rest := []) (wr := [(d, .inl (kd, 6, .inl o_20)), (o, .inr (3, [.ref ot, .ref ov, .int 1])), (ov, .inl (kv, 18, .inl fv))]) ⟨hx, hb, hml, hown, hts⟩ (ct_X5_split1 l D h a b d ka kb o_47 o_48 1 r_55 _ ) (cwV 1 hts (kg_V (mo_X5_refine1 16 rfl) (mo_X5_refine1 17 rfl) (mo_X5_refine1 18 rfl) (mo_X5_refine1 9 rfl) (goodIn_sub mb_X5_refine1_5 gw_X5_split1)) rfl rfl rfl ⟨rfl, hd_X5_split⟩ ⟨Nat.le_of_ble_eq_true rfl, Nat.le_of_ble_eq_true rfl⟩) (RX5, TX5, 5) 5 3 rfl rfl rfl hK hN hP hD hS hA [3, 0, 1] [2, 4, 5] [0, 1] rfl rfl (by decide) (by decide) (by decide) rfl rfl hl.1 rfl (Nat.le_of_ble_eq_true rfl) dX5_refine_89 ⟨Nat.le_of_ble_eq_true rfl, Nat.le_of_ble_eq_true rfl⟩ (fun u_59 H locs w_60 hP hD hK1 hS => ?_)
                      obtain ⟨o_61, o_62⟩ := u_59
                      have hP : va_P D vwCl [(d, .inl (kd, 6, .inl o_20)), (o, .inr (3, [.ref ot, .ref ov, .int 1])), (ov, .inl (kv, 18, .inl fv)), (h, .inr (5, [.ref a, .ref b, .ref d, .int 1, .int 1])), (a, .inl (ka, 6, .inl o_61)), (b, .inl (kb, 6, .inl o_62))] H := hP
                      have hD : va_D A [(d, .inl (kd, 6, .inl o_20)), (o, .inr (3, [.ref ot, .ref ov, .int 1])), (ov, .inl (kv, 18, .inl fv)), (h, .inr (5, [.ref a, .ref b, .ref d, .int 1, .int 1])), (a, .inl (ka, 6, .inl o_61)), (b, .inl (kb, 6, .inl o_62))] := hD
                      have w_60 : o_61 0 = 0 := w_60
                      refine lv_iinc (v := 1) (lv' := [(4, .int 1), (3, .int 2), (2, .int 1), (0, .ref h), (1, .ref o)]) hx hb dX5_refine_92 hl (k := 0) rfl (by decide) (by decide) rfl (fun ls hl => ?_)
                      refine lv_goto (tgt := 67) hx hb dX5_refine_95 (by decide) ?_
                      refine lv_iload hx hb dX5_refine_67 (lv_at hl 0 rfl) ?_
                      refine lv_iload_n hx hb dX5_refine_69 rfl (lv_at hl 2 rfl) ?_
                      refine lv_icmp_ge (tgt := 98) hx hb dX5_refine_70 (by decide) (fun c_63 => ?_) (fun c_63 => ?_)
                      · refine lv_iinc (v := 3) (lv' := [(3, .int 3), (4, .int 1), (2, .int 1), (0, .ref h), (1, .ref o)]) hx hb dX5_refine_98 hl (k := 1) rfl (by decide) (by decide) rfl (fun ls hl => ?_)
                        refine lv_goto (tgt := 59) hx hb dX5_refine_101 (by decide) ?_
                        refine lv_iload_n hx hb dX5_refine_59 rfl (lv_at hl 0 rfl) ?_
                        refine lv_iconst (v := 3) hx hb dX5_refine_60 (by decide) ?_
                        refine lv_icmp_ge (tgt := 104) hx hb dX5_refine_61 (by decide) (fun c_64 => ?_) (fun c_64 => ?_)
                        · have hP9 := hP.sub (ws' := [(h, .inr (5, [.ref a, .ref b, .ref d, .int 1, .int 1])), (a, .inl (ka, 6, .inl o_61)), (b, .inl (kb, 6, .inl o_62)), (d, .inl (kd, 6, .inl o_20)), (o, .inr (3, [.ref ot, .ref ov, .int 1])), (ov, .inl (kv, 18, .inl fv))]) [3, 4, 5, 0, 1, 2] rfl
                          have hD9 := hD.sub (ws' := [(h, .inr (5, [.ref a, .ref b, .ref d, .int 1, .int 1])), (a, .inl (ka, 6, .inl o_61)), (b, .inl (kb, 6, .inl o_62)), (d, .inl (kd, 6, .inl o_20)), (o, .inr (3, [.ref ot, .ref ov, .int 1])), (ov, .inl (kv, 18, .inl fv))]) [3, 4, 5, 0, 1, 2] (by decide) rfl
                          have hK9 := hK.sub (tys' := []) [] rfl
                          exact W.vret hx hb hr (fun tZ htZ hW => ⟨⟨(o_61, o_62, o_20), rfl, w_60, by rw [htZ]; exact hP9, va_K.moved hW.alike hK9, hD9⟩, hS.F htZ⟩) hS.2.2 dX5_refine_104
                        · exact absurd c_64 (by decide)
                      · exact absurd c_63 (by decide)
                · exact absurd c_49 (by decide)
          · exact absurd c_35 (by decide)
    · exact absurd c_21 (by decide)
theorem dX5_bisimulate_0 : decode cX5_bisimulate 0 = .ok (.aload_n 0, 1) := by decide +kernel
theorem dX5_bisimulate_1 : decode cX5_bisimulate 1 = .ok (.aload_n 1, 1) := by decide +kernel
theorem dX5_bisimulate_2 : decode cX5_bisimulate 2 = .ok (.invokevirtual 54, 3) := by decide +kernel
theorem dX5_bisimulate_5 : decode cX5_bisimulate 5 = .ok (.invokevirtual 60, 3) := by decide +kernel
theorem dX5_bisimulate_8 : decode cX5_bisimulate 8 = .ok (.iconst 0, 1) := by decide +kernel
theorem dX5_bisimulate_9 : decode cX5_bisimulate 9 = .ok (.istore_n 2, 1) := by decide +kernel
theorem dX5_bisimulate_10 : decode cX5_bisimulate 10 = .ok (.iload_n 2, 1) := by decide +kernel
theorem dX5_bisimulate_11 : decode cX5_bisimulate 11 = .ok (.iconst 4, 1) := by decide +kernel
theorem dX5_bisimulate_12 : decode cX5_bisimulate 12 = .ok (.if_icmp .ge 18, 3) := by decide +kernel
theorem dX5_bisimulate_15 : decode cX5_bisimulate 15 = .ok (.aload_n 0, 1) := by decide +kernel
theorem dX5_bisimulate_16 : decode cX5_bisimulate 16 = .ok (.aload_n 1, 1) := by decide +kernel
theorem dX5_bisimulate_17 : decode cX5_bisimulate 17 = .ok (.iload_n 2, 1) := by decide +kernel
theorem dX5_bisimulate_18 : decode cX5_bisimulate 18 = .ok (.invokevirtual 64, 3) := by decide +kernel
theorem dX5_bisimulate_21 : decode cX5_bisimulate 21 = .ok (.invokevirtual 68, 3) := by decide +kernel
theorem dX5_bisimulate_24 : decode cX5_bisimulate 24 = .ok (.iinc 2 1, 3) := by decide +kernel
theorem dX5_bisimulate_27 : decode cX5_bisimulate 27 = .ok (.goto (-17), 3) := by decide +kernel
theorem dX5_bisimulate_30 : decode cX5_bisimulate 30 = .ok (.iconst 0, 1) := by decide +kernel
theorem dX5_bisimulate_31 : decode cX5_bisimulate 31 = .ok (.istore_n 2, 1) := by decide +kernel
theorem dX5_bisimulate_32 : decode cX5_bisimulate 32 = .ok (.iconst 0, 1) := by decide +kernel
theorem dX5_bisimulate_33 : decode cX5_bisimulate 33 = .ok (.istore_n 3, 1) := by decide +kernel
theorem dX5_bisimulate_34 : decode cX5_bisimulate 34 = .ok (.iload_n 3, 1) := by decide +kernel
theorem dX5_bisimulate_35 : decode cX5_bisimulate 35 = .ok (.bipush 6, 2) := by decide +kernel
theorem dX5_bisimulate_37 : decode cX5_bisimulate 37 = .ok (.if_icmp .ge 27, 3) := by decide +kernel
theorem dX5_bisimulate_40 : decode cX5_bisimulate 40 = .ok (.aload_n 0, 1) := by decide +kernel
theorem dX5_bisimulate_41 : decode cX5_bisimulate 41 = .ok (.getfield 25, 3) := by decide +kernel
theorem dX5_bisimulate_44 : decode cX5_bisimulate 44 = .ok (.iload_n 2, 1) := by decide +kernel
theorem dX5_bisimulate_45 : decode cX5_bisimulate 45 = .ok (.if_icmp .eq 19, 3) := by decide +kernel
theorem dX5_bisimulate_48 : decode cX5_bisimulate 48 = .ok (.aload_n 0, 1) := by decide +kernel
theorem dX5_bisimulate_49 : decode cX5_bisimulate 49 = .ok (.getfield 25, 3) := by decide +kernel
theorem dX5_bisimulate_52 : decode cX5_bisimulate 52 = .ok (.istore_n 2, 1) := by decide +kernel
theorem dX5_bisimulate_53 : decode cX5_bisimulate 53 = .ok (.aload_n 0, 1) := by decide +kernel
theorem dX5_bisimulate_54 : decode cX5_bisimulate 54 = .ok (.aload_n 1, 1) := by decide +kernel
theorem dX5_bisimulate_55 : decode cX5_bisimulate 55 = .ok (.invokevirtual 71, 3) := by decide +kernel
theorem dX5_bisimulate_58 : decode cX5_bisimulate 58 = .ok (.iinc 3 1, 3) := by decide +kernel
theorem dX5_bisimulate_61 : decode cX5_bisimulate 61 = .ok (.goto (-27), 3) := by decide +kernel
theorem dX5_bisimulate_64 : decode cX5_bisimulate 64 = .ok (.return_, 1) := by decide +kernel
def wo_X5_bisimulate1 : List Cond := [.methodLink RX5 54 yX3_size, .instanceMethod yX3_size, .selects RX3 yX3_size yX3_size, .initialized RX3, .methodLink RX5 60 yX5_begin, .instanceMethod yX5_begin, .selects RX5 yX5_begin yX5_begin, .initialized RX5, .methodLink RX5 64 yX3_truths, .instanceMethod yX3_truths, .selects RX3 yX3_truths yX3_truths, .methodLink RX5 68 yX5_split, .instanceMethod yX5_split, .selects RX5 yX5_split yX5_split, .fieldLink RX5 25 "DynamicLogicProver$Partition" "number" "I", .methodLink RX5 71 yX5_refine, .instanceMethod yX5_refine, .selects RX5 yX5_refine yX5_refine]
def wd_X5_bisimulate1 : List Cond := .code yX5_bisimulate cX5_bisimulate 4 none :: (wo_X5_bisimulate1 ++ (wd_X3_size ++ (wd_X5_begin ++ (wd_X3_truths ++ (wd_X5_split1 ++ (wd_X5_refine1 ++ (wsX50 ++ ([] : List Cond))))))))
theorem mo_X5_bisimulate1 {w : Cond} (i : Nat) (h : wo_X5_bisimulate1[i]? = some w) : w ∈ wd_X5_bisimulate1 := List.mem_cons_of_mem _ (List.mem_append_left _ (List.mem_of_getElem? h))
theorem mb_X5_bisimulate1_0 : ∀ w ∈ wd_X3_size, w ∈ wd_X5_bisimulate1 := fun w h => List.mem_cons_of_mem _ (List.mem_append_right _ (List.mem_append_left _ h))
theorem mb_X5_bisimulate1_1 : ∀ w ∈ wd_X5_begin, w ∈ wd_X5_bisimulate1 := fun w h => List.mem_cons_of_mem _ (List.mem_append_right _ (List.mem_append_right _ (List.mem_append_left _ h)))
theorem mb_X5_bisimulate1_2 : ∀ w ∈ wd_X3_truths, w ∈ wd_X5_bisimulate1 := fun w h => List.mem_cons_of_mem _ (List.mem_append_right _ (List.mem_append_right _ (List.mem_append_right _ (List.mem_append_left _ h))))
theorem mb_X5_bisimulate1_3 : ∀ w ∈ wd_X5_split1, w ∈ wd_X5_bisimulate1 := fun w h => List.mem_cons_of_mem _ (List.mem_append_right _ (List.mem_append_right _ (List.mem_append_right _ (List.mem_append_right _ (List.mem_append_left _ h)))))
theorem mb_X5_bisimulate1_4 : ∀ w ∈ wd_X5_refine1, w ∈ wd_X5_bisimulate1 := fun w h => List.mem_cons_of_mem _ (List.mem_append_right _ (List.mem_append_right _ (List.mem_append_right _ (List.mem_append_right _ (List.mem_append_right _ (List.mem_append_left _ h))))))
theorem mb_X5_bisimulate1_5 : ∀ w ∈ wsX50, w ∈ wd_X5_bisimulate1 := fun w h => List.mem_cons_of_mem _ (List.mem_append_right _ (List.mem_append_right _ (List.mem_append_right _ (List.mem_append_right _ (List.mem_append_right _ (List.mem_append_right _ (List.mem_append_left _ h)))))))
theorem hd_X5_bisimulate : yX5_bisimulate.cls ≠ "java/lang/invoke/MethodHandle" ∧ yX5_bisimulate.cls ≠ "java/lang/invoke/VarHandle" ∧ (parseMethodDescriptor yX5_bisimulate.desc).map (fun d => d.parameters.length) = some 1 := by decide +kernel
set_option maxRecDepth 20000 in
theorem gw_X5_bisimulate1 : wd_X5_bisimulate1.all goodWord = true := by decide +kernel
abbrev qc_X5_bisimulate1 (D : va_G) (h : Nat) (a : Nat) (b : Nat) (d : Nat) (ka : ClassId) (kb : ClassId) (kd : ClassId) (f : Nat → Int32) (g : Nat → Int32) (x : Nat → Int32) (o : Nat) (ot : Nat) (ov : Nat) (kt : ClassId) (kv : ClassId) (ft : Nat → Int32) (fv : Nat → Int32) (k : Int32) (n : Int32) (A : Nat → Prop) : Array Value → State → Outcome → State → Prop := va_Qv (fun (uZ : (Nat → Int32) × (Nat → Int32) × (Nat → Int32)) => uZ.1 0 = 0) (fun uZ tZ => kc_pos D A [(h, .inr (5, [.ref a, .ref b, .ref d, .int 1, .int 1])), (a, .inl (ka, 6, .inl uZ.1)), (b, .inl (kb, 6, .inl uZ.2.1)), (d, .inl (kd, 6, .inl uZ.2.2)), (o, .inr (3, [.ref ot, .ref ov, .int 1])), (ot, .inl (kt, 4, .inl ft)), (ov, .inl (kv, 18, .inl fv))] [] tZ) A
set_option maxHeartbeats 4000000 in
set_option maxRecDepth 100000 in
theorem ct_X5_bisimulate1 (l : Launch) (D : va_G) (h : Nat) (a : Nat) (b : Nat) (d : Nat) (ka : ClassId) (kb : ClassId) (kd : ClassId) (f : Nat → Int32) (g : Nat → Int32) (x : Nat → Int32) (o : Nat) (ot : Nat) (ov : Nat) (kt : ClassId) (kv : ClassId) (ft : Nat → Int32) (fv : Nat → Int32) (k : Int32) (n : Int32) (sz : Nat)  : Met l yX5_bisimulate wd_X5_bisimulate1 ({ frames := 4, cells := 0, slots := 0, locals := 92 }) (va_Pc [.ref h, .ref o] (kc_pre D [(ka, .int), (kb, .int), (kd, .int), (kt, .int), (kv, .int)] [(h, .inr (5, [.ref a, .ref b, .ref d, .int k, .int n])), (a, .inl (ka, 6, .inl f)), (b, .inl (kb, 6, .inl g)), (d, .inl (kd, 6, .inl x)), (o, .inr (3, [.ref ot, .ref ov, .int 1])), (ot, .inl (kt, 4, .inl ft)), (ov, .inl (kv, 18, .inl fv))] sz)) (qc_X5_bisimulate1 D h a b d ka kb kd f g x o ot ov kt kv ft fv k n (va_A [(h, .inr (5, [.ref a, .ref b, .ref d, .int k, .int n])), (a, .inl (ka, 6, .inl f)), (b, .inl (kb, 6, .inl g)), (d, .inl (kd, 6, .inl x)), (o, .inr (3, [.ref ot, .ref ov, .int 1])), (ot, .inl (kt, 4, .inl ft)), (ov, .inl (kv, 18, .inl fv))] sz)) 0 0 (va_A [(h, .inr (5, [.ref a, .ref b, .ref d, .int k, .int n])), (a, .inl (ka, 6, .inl f)), (b, .inl (kb, 6, .inl g)), (d, .inl (kd, 6, .inl x)), (o, .inr (3, [.ref ot, .ref ov, .int 1])), (ot, .inl (kt, 4, .inl ft)), (ov, .inl (kv, 18, .inl fv))] sz) := by
  refine Met.ofW (cc := cX5_bisimulate) (maxL := 4) (ret := none) (by decide) rfl ?_
  intro p e s m args below meth c s₁ B hml hv
  obtain ⟨rfl, hsz, hP, hK, hN, hD0⟩ := hv
  have hx := B.exec
  have hb := B.bytes
  have hr := B.returns
  have hts := atoms_spec (ws := wd_X5_bisimulate1) B.pre
  have hown : s.vm.findClass RX5 = some m.cls := findClass_of_methodNamed B.named
  have hlocks := B.notSynchronized
  subst hsz
  have hD := hD0.self (sz := s.heap.size)
  generalize hAe : va_A [(h, .inr (5, [.ref a, .ref b, .ref d, .int k, .int n])), (a, .inl (ka, 6, .inl f)), (b, .inl (kb, 6, .inl g)), (d, .inl (kd, 6, .inl x)), (o, .inr (3, [.ref ot, .ref ov, .int 1])), (ot, .inl (kt, 4, .inl ft)), (ov, .inl (kv, 18, .inl fv))] s.heap.size = A at hD ⊢
  have hA : ∀ q : Nat, s.heap.size ≤ q → A q := fun q h => by rw [← hAe]; exact Or.inr h
  have hS : va_S A s.heap s.heap [] := va_S.rf
  have hiX5 : ∀ w ∈ wsX50, w ∈ wd_X5_bisimulate1 := mb_X5_bisimulate1_5
  have hl := lv_entry ([.ref h, .ref o]) (n := 4) (Nat.le_of_ble_eq_true rfl)
  rw [lg_entry_eq]
  generalize (lg_sl ([.ref h, .ref o]) ++ List.replicate (4 - (lg_sl ([.ref h, .ref o])).length) Slot.unset).toArray = ls at hl ⊢
  have hl : lv_has ls 4 [(0, .ref h), (1, .ref o)] := hl
  refine lv_aload_n hx hb dX5_bisimulate_0 rfl (lv_at hl 0 rfl) ?_
  refine lv_aload_n hx hb dX5_bisimulate_1 rfl (lv_at hl 1 rfl) ?_
  refine kc_Vi (As := []) (rest := [.ref h]) (wr := [(h, .inr (5, [.ref a, .ref b, .ref d, .int k, .int n])), (a, .inl (ka, 6, .inl f)), (b, .inl (kb, 6, .inl g)), (d, .inl (kd, 6, .inl x)), (ot, .inl (kt, 4, .inl ft)), (ov, .inl (kv, 18, .inl fv))]) ⟨hx, hb, hml, hown, hts⟩ (ct_X3_size l D o ot ov 1 _ ) (cwV 0 hts (kg_V (mo_X5_bisimulate1 0 rfl) (mo_X5_bisimulate1 1 rfl) (mo_X5_bisimulate1 2 rfl) (mo_X5_bisimulate1 3 rfl) (goodIn_sub mb_X5_bisimulate1_0 gw_X3_size)) rfl rfl rfl ⟨rfl, hd_X3_size⟩ ⟨Nat.le_of_ble_eq_true rfl, Nat.le_of_ble_eq_true rfl⟩) (RX3, TX3, 3) 3 4 rfl rfl rfl hK hN hP hD hS hA [4] [0, 1, 2, 3, 5, 6] [] rfl rfl (by decide) (by decide) (by decide) rfl rfl hl.1 rfl (Nat.le_of_ble_eq_true rfl) dX5_bisimulate_2 ⟨Nat.le_of_ble_eq_true rfl, Nat.le_of_ble_eq_true rfl⟩ (fun r_1 u_2 H locs w_3 hP hD hK1 hS => ?_)
  have hP : va_P D vwCl [(h, .inr (5, [.ref a, .ref b, .ref d, .int k, .int n])), (a, .inl (ka, 6, .inl f)), (b, .inl (kb, 6, .inl g)), (d, .inl (kd, 6, .inl x)), (ot, .inl (kt, 4, .inl ft)), (ov, .inl (kv, 18, .inl fv)), (o, .inr (3, [.ref ot, .ref ov, .int 1]))] H := hP
  have hD : va_D A [(h, .inr (5, [.ref a, .ref b, .ref d, .int k, .int n])), (a, .inl (ka, 6, .inl f)), (b, .inl (kb, 6, .inl g)), (d, .inl (kd, 6, .inl x)), (ot, .inl (kt, 4, .inl ft)), (ov, .inl (kv, 18, .inl fv)), (o, .inr (3, [.ref ot, .ref ov, .int 1]))] := hD
  have w_3 : r_1 = 1 := w_3
  subst w_3
  refine kc_Vv (As := [.int 1]) (rest := []) (wr := [(b, .inl (kb, 6, .inl g)), (d, .inl (kd, 6, .inl x)), (ot, .inl (kt, 4, .inl ft)), (ov, .inl (kv, 18, .inl fv)), (o, .inr (3, [.ref ot, .ref ov, .int 1]))]) ⟨hx, hb, hml, hown, hts⟩ (ct_X5_begin l D h a b d ka f k n 1 _ ) (cwV 1 hts (kg_V (mo_X5_bisimulate1 4 rfl) (mo_X5_bisimulate1 5 rfl) (mo_X5_bisimulate1 6 rfl) (mo_X5_bisimulate1 7 rfl) (goodIn_sub mb_X5_bisimulate1_1 gw_X5_begin)) rfl rfl rfl ⟨rfl, hd_X5_begin⟩ ⟨Nat.le_of_ble_eq_true rfl, Nat.le_of_ble_eq_true rfl⟩) (RX5, TX5, 5) 5 0 rfl rfl rfl hK hN hP hD hS hA [0, 1] [2, 3, 4, 5, 6] [0] rfl rfl (by decide) (by decide) (by decide) rfl rfl hl.1 rfl (Nat.le_of_ble_eq_true rfl) dX5_bisimulate_5 ⟨Nat.le_of_ble_eq_true rfl, Nat.le_of_ble_eq_true rfl⟩ (fun u_5 H locs w_6 hP hD hK1 hS => ?_)
  obtain ⟨o_7, rfl⟩ : ∃ z, z = u_5 := ⟨_, rfl⟩
  have hP : va_P D vwCl [(b, .inl (kb, 6, .inl g)), (d, .inl (kd, 6, .inl x)), (ot, .inl (kt, 4, .inl ft)), (ov, .inl (kv, 18, .inl fv)), (o, .inr (3, [.ref ot, .ref ov, .int 1])), (h, .inr (5, [.ref a, .ref b, .ref d, .int 1, .int 1])), (a, .inl (ka, 6, .inl o_7))] H := hP
  have hD : va_D A [(b, .inl (kb, 6, .inl g)), (d, .inl (kd, 6, .inl x)), (ot, .inl (kt, 4, .inl ft)), (ov, .inl (kv, 18, .inl fv)), (o, .inr (3, [.ref ot, .ref ov, .int 1])), (h, .inr (5, [.ref a, .ref b, .ref d, .int 1, .int 1])), (a, .inl (ka, 6, .inl o_7))] := hD
  refine lv_iconst (v := 0) hx hb dX5_bisimulate_8 (by decide) ?_
  refine lv_istore_n (lv' := [(2, .int 0), (0, .ref h), (1, .ref o)]) hx hb dX5_bisimulate_9 rfl hl (by decide) rfl (fun ls hl => ?_)
  refine lv_iload_n hx hb dX5_bisimulate_10 rfl (lv_at hl 0 rfl) ?_
  refine lv_iconst (v := 4) hx hb dX5_bisimulate_11 (by decide) ?_
  refine lv_icmp_ge (tgt := 30) hx hb dX5_bisimulate_12 (by decide) (fun c_8 => ?_) (fun c_8 => ?_)
  · exact absurd c_8 (by decide)
  · refine lv_aload_n hx hb dX5_bisimulate_15 rfl (lv_at hl 1 rfl) ?_
    refine lv_aload_n hx hb dX5_bisimulate_16 rfl (lv_at hl 2 rfl) ?_
    refine lv_iload_n hx hb dX5_bisimulate_17 rfl (lv_at hl 0 rfl) ?_
    refine kc_Vi (As := [.int 0]) (rest := [.ref h]) (wr := [(b, .inl (kb, 6, .inl g)), (d, .inl (kd, 6, .inl x)), (ov, .inl (kv, 18, .inl fv)), (h, .inr (5, [.ref a, .ref b, .ref d, .int 1, .int 1])), (a, .inl (ka, 6, .inl o_7))]) ⟨hx, hb, hml, hown, hts⟩ (ct_X3_truths l D o ot ov kt ft 1 0 _ ) (cwV 1 hts (kg_V (mo_X5_bisimulate1 8 rfl) (mo_X5_bisimulate1 9 rfl) (mo_X5_bisimulate1 10 rfl) (mo_X5_bisimulate1 3 rfl) (goodIn_sub mb_X5_bisimulate1_2 gw_X3_truths)) rfl rfl rfl ⟨rfl, hd_X3_truths⟩ ⟨Nat.le_of_ble_eq_true rfl, Nat.le_of_ble_eq_true rfl⟩) (RX3, TX3, 3) 3 4 rfl rfl rfl hK hN hP hD hS hA [4, 2] [0, 1, 3, 5, 6] [3] rfl rfl (by decide) (by decide) (by decide) rfl rfl hl.1 rfl (Nat.le_of_ble_eq_true rfl) dX5_bisimulate_18 ⟨Nat.le_of_ble_eq_true rfl, Nat.le_of_ble_eq_true rfl⟩ (fun r_9 u_10 H locs w_11 hP hD hK1 hS => ?_)
    have hP : va_P D vwCl [(b, .inl (kb, 6, .inl g)), (d, .inl (kd, 6, .inl x)), (ov, .inl (kv, 18, .inl fv)), (h, .inr (5, [.ref a, .ref b, .ref d, .int 1, .int 1])), (a, .inl (ka, 6, .inl o_7)), (o, .inr (3, [.ref ot, .ref ov, .int 1])), (ot, .inl (kt, 4, .inl ft))] H := hP
    have hD : va_D A [(b, .inl (kb, 6, .inl g)), (d, .inl (kd, 6, .inl x)), (ov, .inl (kv, 18, .inl fv)), (h, .inr (5, [.ref a, .ref b, .ref d, .int 1, .int 1])), (a, .inl (ka, 6, .inl o_7)), (o, .inr (3, [.ref ot, .ref ov, .int 1])), (ot, .inl (kt, 4, .inl ft))] := hD
    have w_11 : r_9 = at_v ft 4 0 := w_11
    refine kc_Vv (As := [.int r_9]) (rest := []) (wr := [(d, .inl (kd, 6, .inl x)), (ov, .inl (kv, 18, .inl fv)), (o, .inr (3, [.ref ot, .ref ov, .int 1])), (ot, .inl (kt, 4, .inl ft))]) ⟨hx, hb, hml, hown, hts⟩ (ct_X5_split1 l D h a b d ka kb o_7 g 1 r_9 _ ) (cwV 1 hts (kg_V (mo_X5_bisimulate1 11 rfl) (mo_X5_bisimulate1 12 rfl) (mo_X5_bisimulate1 13 rfl) (mo_X5_bisimulate1 7 rfl) (goodIn_sub mb_X5_bisimulate1_3 gw_X5_split1)) rfl rfl rfl ⟨rfl, hd_X5_split⟩ ⟨Nat.le_of_ble_eq_true rfl, Nat.le_of_ble_eq_true rfl⟩) (RX5, TX5, 5) 5 3 rfl rfl rfl hK hN hP hD hS hA [3, 4, 0] [1, 2, 5, 6] [0, 1] rfl rfl (by decide) (by decide) (by decide) rfl rfl hl.1 rfl (Nat.le_of_ble_eq_true rfl) dX5_bisimulate_21 ⟨Nat.le_of_ble_eq_true rfl, Nat.le_of_ble_eq_true rfl⟩ (fun u_13 H locs w_14 hP hD hK1 hS => ?_)
    obtain ⟨o_15, o_16⟩ := u_13
    have hP : va_P D vwCl [(d, .inl (kd, 6, .inl x)), (ov, .inl (kv, 18, .inl fv)), (o, .inr (3, [.ref ot, .ref ov, .int 1])), (ot, .inl (kt, 4, .inl ft)), (h, .inr (5, [.ref a, .ref b, .ref d, .int 1, .int 1])), (a, .inl (ka, 6, .inl o_15)), (b, .inl (kb, 6, .inl o_16))] H := hP
    have hD : va_D A [(d, .inl (kd, 6, .inl x)), (ov, .inl (kv, 18, .inl fv)), (o, .inr (3, [.ref ot, .ref ov, .int 1])), (ot, .inl (kt, 4, .inl ft)), (h, .inr (5, [.ref a, .ref b, .ref d, .int 1, .int 1])), (a, .inl (ka, 6, .inl o_15)), (b, .inl (kb, 6, .inl o_16))] := hD
    have w_14 : o_15 0 = 0 := w_14
    refine lv_iinc (v := 1) (lv' := [(2, .int 1), (0, .ref h), (1, .ref o)]) hx hb dX5_bisimulate_24 hl (k := 0) rfl (by decide) (by decide) rfl (fun ls hl => ?_)
    refine lv_goto (tgt := 10) hx hb dX5_bisimulate_27 (by decide) ?_
    refine lv_iload_n hx hb dX5_bisimulate_10 rfl (lv_at hl 0 rfl) ?_
    refine lv_iconst (v := 4) hx hb dX5_bisimulate_11 (by decide) ?_
    refine lv_icmp_ge (tgt := 30) hx hb dX5_bisimulate_12 (by decide) (fun c_17 => ?_) (fun c_17 => ?_)
    · exact absurd c_17 (by decide)
    · refine lv_aload_n hx hb dX5_bisimulate_15 rfl (lv_at hl 1 rfl) ?_
      refine lv_aload_n hx hb dX5_bisimulate_16 rfl (lv_at hl 2 rfl) ?_
      refine lv_iload_n hx hb dX5_bisimulate_17 rfl (lv_at hl 0 rfl) ?_
      refine kc_Vi (As := [.int 1]) (rest := [.ref h]) (wr := [(d, .inl (kd, 6, .inl x)), (ov, .inl (kv, 18, .inl fv)), (h, .inr (5, [.ref a, .ref b, .ref d, .int 1, .int 1])), (a, .inl (ka, 6, .inl o_15)), (b, .inl (kb, 6, .inl o_16))]) ⟨hx, hb, hml, hown, hts⟩ (ct_X3_truths l D o ot ov kt ft 1 1 _ ) (cwV 1 hts (kg_V (mo_X5_bisimulate1 8 rfl) (mo_X5_bisimulate1 9 rfl) (mo_X5_bisimulate1 10 rfl) (mo_X5_bisimulate1 3 rfl) (goodIn_sub mb_X5_bisimulate1_2 gw_X3_truths)) rfl rfl rfl ⟨rfl, hd_X3_truths⟩ ⟨Nat.le_of_ble_eq_true rfl, Nat.le_of_ble_eq_true rfl⟩) (RX3, TX3, 3) 3 2 rfl rfl rfl hK hN hP hD hS hA [2, 3] [0, 1, 4, 5, 6] [3] rfl rfl (by decide) (by decide) (by decide) rfl rfl hl.1 rfl (Nat.le_of_ble_eq_true rfl) dX5_bisimulate_18 ⟨Nat.le_of_ble_eq_true rfl, Nat.le_of_ble_eq_true rfl⟩ (fun r_18 u_19 H locs w_20 hP hD hK1 hS => ?_)
      have hP : va_P D vwCl [(d, .inl (kd, 6, .inl x)), (ov, .inl (kv, 18, .inl fv)), (h, .inr (5, [.ref a, .ref b, .ref d, .int 1, .int 1])), (a, .inl (ka, 6, .inl o_15)), (b, .inl (kb, 6, .inl o_16)), (o, .inr (3, [.ref ot, .ref ov, .int 1])), (ot, .inl (kt, 4, .inl ft))] H := hP
      have hD : va_D A [(d, .inl (kd, 6, .inl x)), (ov, .inl (kv, 18, .inl fv)), (h, .inr (5, [.ref a, .ref b, .ref d, .int 1, .int 1])), (a, .inl (ka, 6, .inl o_15)), (b, .inl (kb, 6, .inl o_16)), (o, .inr (3, [.ref ot, .ref ov, .int 1])), (ot, .inl (kt, 4, .inl ft))] := hD
      have w_20 : r_18 = at_v ft 4 1 := w_20
      refine kc_Vv (As := [.int r_18]) (rest := []) (wr := [(d, .inl (kd, 6, .inl x)), (ov, .inl (kv, 18, .inl fv)), (o, .inr (3, [.ref ot, .ref ov, .int 1])), (ot, .inl (kt, 4, .inl ft))]) ⟨hx, hb, hml, hown, hts⟩ (ct_X5_split1 l D h a b d ka kb o_15 o_16 1 r_18 _ ) (cwV 1 hts (kg_V (mo_X5_bisimulate1 11 rfl) (mo_X5_bisimulate1 12 rfl) (mo_X5_bisimulate1 13 rfl) (mo_X5_bisimulate1 7 rfl) (goodIn_sub mb_X5_bisimulate1_3 gw_X5_split1)) rfl rfl rfl ⟨rfl, hd_X5_split⟩ ⟨Nat.le_of_ble_eq_true rfl, Nat.le_of_ble_eq_true rfl⟩) (RX5, TX5, 5) 5 2 rfl rfl rfl hK hN hP hD hS hA [2, 3, 4] [0, 1, 5, 6] [0, 1] rfl rfl (by decide) (by decide) (by decide) rfl rfl hl.1 rfl (Nat.le_of_ble_eq_true rfl) dX5_bisimulate_21 ⟨Nat.le_of_ble_eq_true rfl, Nat.le_of_ble_eq_true rfl⟩ (fun u_22 H locs w_23 hP hD hK1 hS => ?_)
      obtain ⟨o_24, o_25⟩ := u_22
      have hP : va_P D vwCl [(d, .inl (kd, 6, .inl x)), (ov, .inl (kv, 18, .inl fv)), (o, .inr (3, [.ref ot, .ref ov, .int 1])), (ot, .inl (kt, 4, .inl ft)), (h, .inr (5, [.ref a, .ref b, .ref d, .int 1, .int 1])), (a, .inl (ka, 6, .inl o_24)), (b, .inl (kb, 6, .inl o_25))] H := hP
      have hD : va_D A [(d, .inl (kd, 6, .inl x)), (ov, .inl (kv, 18, .inl fv)), (o, .inr (3, [.ref ot, .ref ov, .int 1])), (ot, .inl (kt, 4, .inl ft)), (h, .inr (5, [.ref a, .ref b, .ref d, .int 1, .int 1])), (a, .inl (ka, 6, .inl o_24)), (b, .inl (kb, 6, .inl o_25))] := hD
      have w_23 : o_24 0 = 0 := w_23
      refine lv_iinc (v := 2) (lv' := [(2, .int 2), (0, .ref h), (1, .ref o)]) hx hb dX5_bisimulate_24 hl (k := 0) rfl (by decide) (by decide) rfl (fun ls hl => ?_)
      refine lv_goto (tgt := 10) hx hb dX5_bisimulate_27 (by decide) ?_
      refine lv_iload_n hx hb dX5_bisimulate_10 rfl (lv_at hl 0 rfl) ?_
      refine lv_iconst (v := 4) hx hb dX5_bisimulate_11 (by decide) ?_
      refine lv_icmp_ge (tgt := 30) hx hb dX5_bisimulate_12 (by decide) (fun c_26 => ?_) (fun c_26 => ?_)
      · exact absurd c_26 (by decide)
      · refine lv_aload_n hx hb dX5_bisimulate_15 rfl (lv_at hl 1 rfl) ?_
        refine lv_aload_n hx hb dX5_bisimulate_16 rfl (lv_at hl 2 rfl) ?_
        refine lv_iload_n hx hb dX5_bisimulate_17 rfl (lv_at hl 0 rfl) ?_
        refine kc_Vi (As := [.int 2]) (rest := [.ref h]) (wr := [(d, .inl (kd, 6, .inl x)), (ov, .inl (kv, 18, .inl fv)), (h, .inr (5, [.ref a, .ref b, .ref d, .int 1, .int 1])), (a, .inl (ka, 6, .inl o_24)), (b, .inl (kb, 6, .inl o_25))]) ⟨hx, hb, hml, hown, hts⟩ (ct_X3_truths l D o ot ov kt ft 1 2 _ ) (cwV 1 hts (kg_V (mo_X5_bisimulate1 8 rfl) (mo_X5_bisimulate1 9 rfl) (mo_X5_bisimulate1 10 rfl) (mo_X5_bisimulate1 3 rfl) (goodIn_sub mb_X5_bisimulate1_2 gw_X3_truths)) rfl rfl rfl ⟨rfl, hd_X3_truths⟩ ⟨Nat.le_of_ble_eq_true rfl, Nat.le_of_ble_eq_true rfl⟩) (RX3, TX3, 3) 3 2 rfl rfl rfl hK hN hP hD hS hA [2, 3] [0, 1, 4, 5, 6] [3] rfl rfl (by decide) (by decide) (by decide) rfl rfl hl.1 rfl (Nat.le_of_ble_eq_true rfl) dX5_bisimulate_18 ⟨Nat.le_of_ble_eq_true rfl, Nat.le_of_ble_eq_true rfl⟩ (fun r_27 u_28 H locs w_29 hP hD hK1 hS => ?_)
        have hP : va_P D vwCl [(d, .inl (kd, 6, .inl x)), (ov, .inl (kv, 18, .inl fv)), (h, .inr (5, [.ref a, .ref b, .ref d, .int 1, .int 1])), (a, .inl (ka, 6, .inl o_24)), (b, .inl (kb, 6, .inl o_25)), (o, .inr (3, [.ref ot, .ref ov, .int 1])), (ot, .inl (kt, 4, .inl ft))] H := hP
        have hD : va_D A [(d, .inl (kd, 6, .inl x)), (ov, .inl (kv, 18, .inl fv)), (h, .inr (5, [.ref a, .ref b, .ref d, .int 1, .int 1])), (a, .inl (ka, 6, .inl o_24)), (b, .inl (kb, 6, .inl o_25)), (o, .inr (3, [.ref ot, .ref ov, .int 1])), (ot, .inl (kt, 4, .inl ft))] := hD
        have w_29 : r_27 = at_v ft 4 2 := w_29
        refine kc_Vv (As := [.int r_27]) (rest := []) (wr := [(d, .inl (kd, 6, .inl x)), (ov, .inl (kv, 18, .inl fv)), (o, .inr (3, [.ref ot, .ref ov, .int 1])), (ot, .inl (kt, 4, .inl ft))]) ⟨hx, hb, hml, hown, hts⟩ (ct_X5_split1 l D h a b d ka kb o_24 o_25 1 r_27 _ ) (cwV 1 hts (kg_V (mo_X5_bisimulate1 11 rfl) (mo_X5_bisimulate1 12 rfl) (mo_X5_bisimulate1 13 rfl) (mo_X5_bisimulate1 7 rfl) (goodIn_sub mb_X5_bisimulate1_3 gw_X5_split1)) rfl rfl rfl ⟨rfl, hd_X5_split⟩ ⟨Nat.le_of_ble_eq_true rfl, Nat.le_of_ble_eq_true rfl⟩) (RX5, TX5, 5) 5 2 rfl rfl rfl hK hN hP hD hS hA [2, 3, 4] [0, 1, 5, 6] [0, 1] rfl rfl (by decide) (by decide) (by decide) rfl rfl hl.1 rfl (Nat.le_of_ble_eq_true rfl) dX5_bisimulate_21 ⟨Nat.le_of_ble_eq_true rfl, Nat.le_of_ble_eq_true rfl⟩ (fun u_31 H locs w_32 hP hD hK1 hS => ?_)
        obtain ⟨o_33, o_34⟩ := u_31
        have hP : va_P D vwCl [(d, .inl (kd, 6, .inl x)), (ov, .inl (kv, 18, .inl fv)), (o, .inr (3, [.ref ot, .ref ov, .int 1])), (ot, .inl (kt, 4, .inl ft)), (h, .inr (5, [.ref a, .ref b, .ref d, .int 1, .int 1])), (a, .inl (ka, 6, .inl o_33)), (b, .inl (kb, 6, .inl o_34))] H := hP
        have hD : va_D A [(d, .inl (kd, 6, .inl x)), (ov, .inl (kv, 18, .inl fv)), (o, .inr (3, [.ref ot, .ref ov, .int 1])), (ot, .inl (kt, 4, .inl ft)), (h, .inr (5, [.ref a, .ref b, .ref d, .int 1, .int 1])), (a, .inl (ka, 6, .inl o_33)), (b, .inl (kb, 6, .inl o_34))] := hD
        have w_32 : o_33 0 = 0 := w_32
        refine lv_iinc (v := 3) (lv' := [(2, .int 3), (0, .ref h), (1, .ref o)]) hx hb dX5_bisimulate_24 hl (k := 0) rfl (by decide) (by decide) rfl (fun ls hl => ?_)
        refine lv_goto (tgt := 10) hx hb dX5_bisimulate_27 (by decide) ?_
        refine lv_iload_n hx hb dX5_bisimulate_10 rfl (lv_at hl 0 rfl) ?_
        refine lv_iconst (v := 4) hx hb dX5_bisimulate_11 (by decide) ?_
        refine lv_icmp_ge (tgt := 30) hx hb dX5_bisimulate_12 (by decide) (fun c_35 => ?_) (fun c_35 => ?_)
        · exact absurd c_35 (by decide)
        · refine lv_aload_n hx hb dX5_bisimulate_15 rfl (lv_at hl 1 rfl) ?_
          refine lv_aload_n hx hb dX5_bisimulate_16 rfl (lv_at hl 2 rfl) ?_
          refine lv_iload_n hx hb dX5_bisimulate_17 rfl (lv_at hl 0 rfl) ?_
          refine kc_Vi (As := [.int 3]) (rest := [.ref h]) (wr := [(d, .inl (kd, 6, .inl x)), (ov, .inl (kv, 18, .inl fv)), (h, .inr (5, [.ref a, .ref b, .ref d, .int 1, .int 1])), (a, .inl (ka, 6, .inl o_33)), (b, .inl (kb, 6, .inl o_34))]) ⟨hx, hb, hml, hown, hts⟩ (ct_X3_truths l D o ot ov kt ft 1 3 _ ) (cwV 1 hts (kg_V (mo_X5_bisimulate1 8 rfl) (mo_X5_bisimulate1 9 rfl) (mo_X5_bisimulate1 10 rfl) (mo_X5_bisimulate1 3 rfl) (goodIn_sub mb_X5_bisimulate1_2 gw_X3_truths)) rfl rfl rfl ⟨rfl, hd_X3_truths⟩ ⟨Nat.le_of_ble_eq_true rfl, Nat.le_of_ble_eq_true rfl⟩) (RX3, TX3, 3) 3 2 rfl rfl rfl hK hN hP hD hS hA [2, 3] [0, 1, 4, 5, 6] [3] rfl rfl (by decide) (by decide) (by decide) rfl rfl hl.1 rfl (Nat.le_of_ble_eq_true rfl) dX5_bisimulate_18 ⟨Nat.le_of_ble_eq_true rfl, Nat.le_of_ble_eq_true rfl⟩ (fun r_36 u_37 H locs w_38 hP hD hK1 hS => ?_)
          have hP : va_P D vwCl [(d, .inl (kd, 6, .inl x)), (ov, .inl (kv, 18, .inl fv)), (h, .inr (5, [.ref a, .ref b, .ref d, .int 1, .int 1])), (a, .inl (ka, 6, .inl o_33)), (b, .inl (kb, 6, .inl o_34)), (o, .inr (3, [.ref ot, .ref ov, .int 1])), (ot, .inl (kt, 4, .inl ft))] H := hP
          have hD : va_D A [(d, .inl (kd, 6, .inl x)), (ov, .inl (kv, 18, .inl fv)), (h, .inr (5, [.ref a, .ref b, .ref d, .int 1, .int 1])), (a, .inl (ka, 6, .inl o_33)), (b, .inl (kb, 6, .inl o_34)), (o, .inr (3, [.ref ot, .ref ov, .int 1])), (ot, .inl (kt, 4, .inl ft))] := hD
          have w_38 : r_36 = at_v ft 4 3 := w_38
          refine kc_Vv (As := [.int r_36]) (rest := []) (wr := [(d, .inl (kd, 6, .inl x)), (ov, .inl (kv, 18, .inl fv)), (o, .inr (3, [.ref ot, .ref ov, .int 1])), (ot, .inl (kt, 4, .inl ft))]) ⟨hx, hb, hml, hown, hts⟩ (ct_X5_split1 l D h a b d ka kb o_33 o_34 1 r_36 _ ) (cwV 1 hts (kg_V (mo_X5_bisimulate1 11 rfl) (mo_X5_bisimulate1 12 rfl) (mo_X5_bisimulate1 13 rfl) (mo_X5_bisimulate1 7 rfl) (goodIn_sub mb_X5_bisimulate1_3 gw_X5_split1)) rfl rfl rfl ⟨rfl, hd_X5_split⟩ ⟨Nat.le_of_ble_eq_true rfl, Nat.le_of_ble_eq_true rfl⟩) (RX5, TX5, 5) 5 2 rfl rfl rfl hK hN hP hD hS hA [2, 3, 4] [0, 1, 5, 6] [0, 1] rfl rfl (by decide) (by decide) (by decide) rfl rfl hl.1 rfl (Nat.le_of_ble_eq_true rfl) dX5_bisimulate_21 ⟨Nat.le_of_ble_eq_true rfl, Nat.le_of_ble_eq_true rfl⟩ (fun u_40 H locs w_41 hP hD hK1 hS => ?_)
          obtain ⟨o_42, o_43⟩ := u_40
          have hP : va_P D vwCl [(d, .inl (kd, 6, .inl x)), (ov, .inl (kv, 18, .inl fv)), (o, .inr (3, [.ref ot, .ref ov, .int 1])), (ot, .inl (kt, 4, .inl ft)), (h, .inr (5, [.ref a, .ref b, .ref d, .int 1, .int 1])), (a, .inl (ka, 6, .inl o_42)), (b, .inl (kb, 6, .inl o_43))] H := hP
          have hD : va_D A [(d, .inl (kd, 6, .inl x)), (ov, .inl (kv, 18, .inl fv)), (o, .inr (3, [.ref ot, .ref ov, .int 1])), (ot, .inl (kt, 4, .inl ft)), (h, .inr (5, [.ref a, .ref b, .ref d, .int 1, .int 1])), (a, .inl (ka, 6, .inl o_42)), (b, .inl (kb, 6, .inl o_43))] := hD
          have w_41 : o_42 0 = 0 := w_41
          refine lv_iinc (v := 4) (lv' := [(2, .int 4), (0, .ref h), (1, .ref o)]) hx hb dX5_bisimulate_24 hl (k := 0) rfl (by decide) (by decide) rfl (fun ls hl => ?_)
          refine lv_goto (tgt := 10) hx hb dX5_bisimulate_27 (by decide) ?_
          refine lv_iload_n hx hb dX5_bisimulate_10 rfl (lv_at hl 0 rfl) ?_
          refine lv_iconst (v := 4) hx hb dX5_bisimulate_11 (by decide) ?_
          refine lv_icmp_ge (tgt := 30) hx hb dX5_bisimulate_12 (by decide) (fun c_44 => ?_) (fun c_44 => ?_)
          · refine lv_iconst (v := 0) hx hb dX5_bisimulate_30 (by decide) ?_
            refine lv_istore_n (lv' := [(2, .int 0), (0, .ref h), (1, .ref o)]) hx hb dX5_bisimulate_31 rfl hl (by decide) rfl (fun ls hl => ?_)
            refine lv_iconst (v := 0) hx hb dX5_bisimulate_32 (by decide) ?_
            refine lv_istore_n (lv' := [(3, .int 0), (2, .int 0), (0, .ref h), (1, .ref o)]) hx hb dX5_bisimulate_33 rfl hl (by decide) rfl (fun ls hl => ?_)
            refine lv_iload_n hx hb dX5_bisimulate_34 rfl (lv_at hl 0 rfl) ?_
            refine lv_bipush (v := 6) hx hb dX5_bisimulate_35 (by decide) ?_
            refine lv_icmp_ge (tgt := 64) hx hb dX5_bisimulate_37 (by decide) (fun c_45 => ?_) (fun c_45 => ?_)
            · exact absurd c_45 (by decide)
            · refine lv_aload_n hx hb dX5_bisimulate_40 rfl (lv_at hl 2 rfl) ?_
              refine va_get (D := D) (ci := 5) (v := .int 1) (C := RX5) (T := TX5) (N := 5) hx hb hts hiX5 hown hK hP 4 rfl rfl 4 (by decide) (hts (.fieldLink RX5 25 "DynamicLogicProver$Partition" "number" "I") (mo_X5_bisimulate1 14 rfl)) (fun _ h9 => h9) rfl dX5_bisimulate_41 ?_
              refine lv_iload_n hx hb dX5_bisimulate_44 rfl (lv_at hl 1 rfl) ?_
              refine lv_icmp_eq (tgt := 64) hx hb dX5_bisimulate_45 (by decide) (fun c_46 => ?_) (fun c_46 => ?_)
              · exact absurd c_46 (by decide)
              · refine lv_aload_n hx hb dX5_bisimulate_48 rfl (lv_at hl 2 rfl) ?_
                refine va_get (D := D) (ci := 5) (v := .int 1) (C := RX5) (T := TX5) (N := 5) hx hb hts hiX5 hown hK hP 4 rfl rfl 4 (by decide) (hts (.fieldLink RX5 25 "DynamicLogicProver$Partition" "number" "I") (mo_X5_bisimulate1 14 rfl)) (fun _ h9 => h9) rfl dX5_bisimulate_49 ?_
                refine lv_istore_n (lv' := [(2, .int 1), (3, .int 0), (0, .ref h), (1, .ref o)]) hx hb dX5_bisimulate_52 rfl hl (by decide) rfl (fun ls hl => ?_)
                refine lv_aload_n hx hb dX5_bisimulate_53 rfl (lv_at hl 2 rfl) ?_
                refine lv_aload_n hx hb dX5_bisimulate_54 rfl (lv_at hl 3 rfl) ?_
                refine kc_Vv (As := [.ref o]) (rest := []) (wr := [(ot, .inl (kt, 4, .inl ft))]) ⟨hx, hb, hml, hown, hts⟩ (ct_X5_refine1 l D h a b d ka kb kd o_42 o_43 x o ot ov kv fv _ ) (cwV 1 hts (kg_V (mo_X5_bisimulate1 15 rfl) (mo_X5_bisimulate1 16 rfl) (mo_X5_bisimulate1 17 rfl) (mo_X5_bisimulate1 7 rfl) (goodIn_sub mb_X5_bisimulate1_4 gw_X5_refine1)) rfl rfl rfl ⟨rfl, hd_X5_refine⟩ ⟨Nat.le_of_ble_eq_true rfl, Nat.le_of_ble_eq_true rfl⟩) (RX5, TX5, 5) 5 4 rfl rfl rfl hK hN hP hD hS hA [4, 5, 6, 0, 2, 1] [3] [0, 1, 2, 4] rfl rfl (by decide) (by decide) (by decide) rfl rfl hl.1 rfl (Nat.le_of_ble_eq_true rfl) dX5_bisimulate_55 ⟨Nat.le_of_ble_eq_true rfl, Nat.le_of_ble_eq_true rfl⟩ (fun u_48 H locs w_49 hP hD hK1 hS => ?_)
                obtain ⟨o_50, o_51, o_52⟩ := u_48
                have hP : va_P D vwCl [(ot, .inl (kt, 4, .inl ft)), (h, .inr (5, [.ref a, .ref b, .ref d, .int 1, .int 1])), (a, .inl (ka, 6, .inl o_50)), (b, .inl (kb, 6, .inl o_51)), (d, .inl (kd, 6, .inl o_52)), (o, .inr (3, [.ref ot, .ref ov, .int 1])), (ov, .inl (kv, 18, .inl fv))] H := hP
                have hD : va_D A [(ot, .inl (kt, 4, .inl ft)), (h, .inr (5, [.ref a, .ref b, .ref d, .int 1, .int 1])), (a, .inl (ka, 6, .inl o_50)), (b, .inl (kb, 6, .inl o_51)), (d, .inl (kd, 6, .inl o_52)), (o, .inr (3, [.ref ot, .ref ov, .int 1])), (ov, .inl (kv, 18, .inl fv))] := hD
                have w_49 : o_50 0 = 0 := w_49
                refine lv_iinc (v := 1) (lv' := [(3, .int 1), (2, .int 1), (0, .ref h), (1, .ref o)]) hx hb dX5_bisimulate_58 hl (k := 1) rfl (by decide) (by decide) rfl (fun ls hl => ?_)
                refine lv_goto (tgt := 34) hx hb dX5_bisimulate_61 (by decide) ?_
                refine lv_iload_n hx hb dX5_bisimulate_34 rfl (lv_at hl 0 rfl) ?_
                refine lv_bipush (v := 6) hx hb dX5_bisimulate_35 (by decide) ?_
                refine lv_icmp_ge (tgt := 64) hx hb dX5_bisimulate_37 (by decide) (fun c_53 => ?_) (fun c_53 => ?_)
                · exact absurd c_53 (by decide)
                · refine lv_aload_n hx hb dX5_bisimulate_40 rfl (lv_at hl 2 rfl) ?_
                  refine va_get (D := D) (ci := 5) (v := .int 1) (C := RX5) (T := TX5) (N := 5) hx hb hts hiX5 hown hK hP 1 rfl rfl 4 (by decide) (hts (.fieldLink RX5 25 "DynamicLogicProver$Partition" "number" "I") (mo_X5_bisimulate1 14 rfl)) (fun _ h9 => h9) rfl dX5_bisimulate_41 ?_
                  refine lv_iload_n hx hb dX5_bisimulate_44 rfl (lv_at hl 1 rfl) ?_
                  refine lv_icmp_eq (tgt := 64) hx hb dX5_bisimulate_45 (by decide) (fun c_54 => ?_) (fun c_54 => ?_)
                  · have hP9 := hP.sub (ws' := [(h, .inr (5, [.ref a, .ref b, .ref d, .int 1, .int 1])), (a, .inl (ka, 6, .inl o_50)), (b, .inl (kb, 6, .inl o_51)), (d, .inl (kd, 6, .inl o_52)), (o, .inr (3, [.ref ot, .ref ov, .int 1])), (ot, .inl (kt, 4, .inl ft)), (ov, .inl (kv, 18, .inl fv))]) [1, 2, 3, 4, 5, 0, 6] rfl
                    have hD9 := hD.sub (ws' := [(h, .inr (5, [.ref a, .ref b, .ref d, .int 1, .int 1])), (a, .inl (ka, 6, .inl o_50)), (b, .inl (kb, 6, .inl o_51)), (d, .inl (kd, 6, .inl o_52)), (o, .inr (3, [.ref ot, .ref ov, .int 1])), (ot, .inl (kt, 4, .inl ft)), (ov, .inl (kv, 18, .inl fv))]) [1, 2, 3, 4, 5, 0, 6] (by decide) rfl
                    have hK9 := hK.sub (tys' := []) [] rfl
                    exact W.vret hx hb hr (fun tZ htZ hW => ⟨⟨(o_50, o_51, o_52), rfl, w_49, by rw [htZ]; exact hP9, va_K.moved hW.alike hK9, hD9⟩, hS.F htZ⟩) hS.2.2 dX5_bisimulate_64
                  · exact absurd c_54 (by decide)
          · exact absurd c_44 (by decide)
