theorem dX7_init_0 : decode cX7_init 0 = .ok (.aload_n 0, 1) := by decide +kernel
theorem dX7_init_1 : decode cX7_init 1 = .ok (.invokespecial 3, 3) := by decide +kernel
theorem dX7_init_4 : decode cX7_init 4 = .ok (.aload_n 0, 1) := by decide +kernel
theorem dX7_init_5 : decode cX7_init 5 = .ok (.sipush 1024, 3) := by decide +kernel
theorem dX7_init_8 : decode cX7_init 8 = .ok (.newarray .int, 2) := by decide +kernel
theorem dX7_init_10 : decode cX7_init 10 = .ok (.putfield 9, 3) := by decide +kernel
theorem dX7_init_13 : decode cX7_init 13 = .ok (.aload_n 0, 1) := by decide +kernel
theorem dX7_init_14 : decode cX7_init 14 = .ok (.sipush 1024, 3) := by decide +kernel
theorem dX7_init_17 : decode cX7_init 17 = .ok (.newarray .int, 2) := by decide +kernel
theorem dX7_init_19 : decode cX7_init 19 = .ok (.putfield 15, 3) := by decide +kernel
theorem dX7_init_22 : decode cX7_init 22 = .ok (.aload_n 0, 1) := by decide +kernel
theorem dX7_init_23 : decode cX7_init 23 = .ok (.aload_n 1, 1) := by decide +kernel
theorem dX7_init_24 : decode cX7_init 24 = .ok (.putfield 18, 3) := by decide +kernel
theorem dX7_init_27 : decode cX7_init 27 = .ok (.return_, 1) := by decide +kernel
def wo_X7_init : List Cond := [.methodLink RX7 3 objectInit, .instanceMethod objectInit, .code objectInit ⟨#[0xb1]⟩ 1 none, .arrayClass .int, .fieldLink RX7 9 "DynamicLogicProver$Rewriter" "marks" "[I", .fieldLink RX7 15 "DynamicLogicProver$Rewriter" "path" "[I", .fieldLink RX7 18 "DynamicLogicProver$Rewriter" "pool" "LDynamicLogicProver$Pool;"]
def wd_X7_init : List Cond := .code yX7_init cX7_init 2 none :: (wo_X7_init ++ (wsX70 ++ ([] : List Cond)))
theorem mo_X7_init {w : Cond} (i : Nat) (h : wo_X7_init[i]? = some w) : w ∈ wd_X7_init := List.mem_cons_of_mem _ (List.mem_append_left _ (List.mem_of_getElem? h))
theorem mb_X7_init_0 : ∀ w ∈ wsX70, w ∈ wd_X7_init := fun w h => List.mem_cons_of_mem _ (List.mem_append_right _ (List.mem_append_left _ h))
theorem hd_X7_init : yX7_init.cls ≠ "java/lang/invoke/MethodHandle" ∧ yX7_init.cls ≠ "java/lang/invoke/VarHandle" ∧ (parseMethodDescriptor yX7_init.desc).map (fun d => d.parameters.length) = some 1 := by decide +kernel
set_option maxRecDepth 20000 in
theorem gw_X7_init : wd_X7_init.all goodWord = true := by decide +kernel
abbrev qc_X7_init (D : va_G) (h : Nat) (po : Nat) (A : Nat → Prop) : Array Value → State → Outcome → State → Prop := va_Qv (fun (uZ : Unit) => True) (fun uZ tZ => kc_pos D A [] [] tZ) A
set_option maxHeartbeats 4000000 in
set_option maxRecDepth 100000 in
theorem ct_X7_init (l : Launch) (D : va_G) (h : Nat) (po : Nat) (sz : Nat)  : Met l yX7_init wd_X7_init ({ frames := 1, cells := 2, slots := 2048, locals := 12 }) (va_Pc [.ref h, .ref po] (kc_pre D [] [(h, .inr (7, [.null, .null, .null]))] sz)) (qc_X7_init D h po (va_A [(h, .inr (7, [.null, .null, .null]))] sz)) 2 2048 (va_A [(h, .inr (7, [.null, .null, .null]))] sz) := by
  refine Met.ofW (cc := cX7_init) (maxL := 2) (ret := none) (by decide) rfl ?_
  intro p e s m args below meth c s₁ B hml hv
  obtain ⟨rfl, hsz, hP, hK, hN, hD0⟩ := hv
  have hx := B.exec
  have hb := B.bytes
  have hr := B.returns
  have hts := atoms_spec (ws := wd_X7_init) B.pre
  have hown : s.vm.findClass RX7 = some m.cls := findClass_of_methodNamed B.named
  have hlocks := B.notSynchronized
  have hin : meth.name = "<init>" := (name_of_methodNamed B.named B.method).1
  subst hsz
  have hD := hD0.self (sz := s.heap.size)
  generalize hAe : va_A [(h, .inr (7, [.null, .null, .null]))] s.heap.size = A at hD ⊢
  have hA : ∀ q : Nat, s.heap.size ≤ q → A q := fun q h => by rw [← hAe]; exact Or.inr h
  have hS : va_S A s.heap s.heap [] := va_S.rf
  have hiX7 : ∀ w ∈ wsX70, w ∈ wd_X7_init := mb_X7_init_0
  have hl := lv_entry ([.ref h, .ref po]) (n := 2) (Nat.le_of_ble_eq_true rfl)
  rw [lg_entry_eq]
  generalize (lg_sl ([.ref h, .ref po]) ++ List.replicate (2 - (lg_sl ([.ref h, .ref po])).length) Slot.unset).toArray = ls at hl ⊢
  have hl : lv_has ls 2 [(0, .ref h), (1, .ref po)] := hl
  refine lv_aload_n hx hb dX7_init_0 rfl (lv_at hl 0 rfl) ?_
  refine W.objInit hx hb hown (hts (.methodLink RX7 3 objectInit) (mo_X7_init 0 rfl)) (hts (.instanceMethod objectInit) (mo_X7_init 1 rfl)) (hts (.code objectInit ⟨#[0xb1]⟩ 1 none) (mo_X7_init 2 rfl)) rfl (by rw [hml]; exact hl.1) rfl dX7_init_1 (Nat.le_of_ble_eq_true rfl) (Nat.le_of_ble_eq_true rfl) ?_
  refine W.eq (g2 := F0 m 4 ls []) rfl ?_
  refine lv_aload_n hx hb dX7_init_4 rfl (lv_at hl 0 rfl) ?_
  refine lv_sipush (v := 1024) hx hb dX7_init_5 (by decide) ?_
  refine va_newa (atype := .int) (ty := .int) (a0 := (1024, .inl (fun _ => 0))) hx hb (hts (.arrayClass .int) (mo_X7_init 3 rfl)) rfl hK hP hD hS hA (fun _ => rfl) (by decide) (N' := 1024) (by decide) (by decide) (Nat.le_of_ble_eq_true rfl) (Nat.le_of_ble_eq_true rfl) dX7_init_8 (fun q_1 k_2 H hK hP hD hS => ?_)
  have hP : va_P D vwCl [(h, .inr (7, [.null, .null, .null])), (q_1, .inl (k_2, 1024, .inl (fun _ => 0)))] H := hP
  have hD : va_D A [(h, .inr (7, [.null, .null, .null])), (q_1, .inl (k_2, 1024, .inl (fun _ => 0)))] := hD
  have hK : va_K D vwCl [(k_2, .int)] s := hK
  refine W.widen (k := 1) (n := 1024) (by decide) (Nat.le_of_ble_eq_true rfl) ?_
  refine va_putF (D := D) (ci := 7) (v := .ref q_1) (ty := .array .int) (C := RX7) (T := TX7) (N := 3) hx hb hts hiX7 tyX7 tyX7_ok nmX7 hown hK hP hD hS 0 rfl rfl 1 (by decide) (hts (.fieldLink RX7 9 "DynamicLogicProver$Rewriter" "marks" "[I") (mo_X7_init 4 rfl)) (fun _ h9 => h9) rfl hin rfl (tyX7_ok 1 (by decide)) rfl rfl (Nat.le_of_ble_eq_true rfl) dX7_init_10 (fun H locs hP hD hS => ?_)
  have hP : va_P D vwCl [(h, .inr (7, [.null, .ref q_1, .null])), (q_1, .inl (k_2, 1024, .inl (fun _ => 0)))] H := hP
  have hD : va_D A [(h, .inr (7, [.null, .ref q_1, .null])), (q_1, .inl (k_2, 1024, .inl (fun _ => 0)))] := hD
  refine lv_aload_n hx hb dX7_init_13 rfl (lv_at hl 0 rfl) ?_
  refine lv_sipush (v := 1024) hx hb dX7_init_14 (by decide) ?_
  refine va_newa (atype := .int) (ty := .int) (a0 := (1024, .inl (fun _ => 0))) hx hb (hts (.arrayClass .int) (mo_X7_init 3 rfl)) rfl hK hP hD hS hA (fun _ => rfl) (by decide) (N' := 1024) (by decide) (by decide) (Nat.le_of_ble_eq_true rfl) (Nat.le_of_ble_eq_true rfl) dX7_init_17 (fun q_3 k_4 H hK hP hD hS => ?_)
  have hP : va_P D vwCl [(h, .inr (7, [.null, .ref q_1, .null])), (q_1, .inl (k_2, 1024, .inl (fun _ => 0))), (q_3, .inl (k_4, 1024, .inl (fun _ => 0)))] H := hP
  have hD : va_D A [(h, .inr (7, [.null, .ref q_1, .null])), (q_1, .inl (k_2, 1024, .inl (fun _ => 0))), (q_3, .inl (k_4, 1024, .inl (fun _ => 0)))] := hD
  have hK : va_K D vwCl [(k_2, .int), (k_4, .int)] s := hK
  refine W.widen (k := 2) (n := 2048) (by decide) (Nat.le_of_ble_eq_true rfl) ?_
  refine va_putF (D := D) (ci := 7) (v := .ref q_3) (ty := .array .int) (C := RX7) (T := TX7) (N := 3) hx hb hts hiX7 tyX7 tyX7_ok nmX7 hown hK hP hD hS 0 rfl rfl 2 (by decide) (hts (.fieldLink RX7 15 "DynamicLogicProver$Rewriter" "path" "[I") (mo_X7_init 5 rfl)) (fun _ h9 => h9) rfl hin rfl (tyX7_ok 2 (by decide)) rfl rfl (Nat.le_of_ble_eq_true rfl) dX7_init_19 (fun H locs hP hD hS => ?_)
  have hP : va_P D vwCl [(h, .inr (7, [.null, .ref q_1, .ref q_3])), (q_1, .inl (k_2, 1024, .inl (fun _ => 0))), (q_3, .inl (k_4, 1024, .inl (fun _ => 0)))] H := hP
  have hD : va_D A [(h, .inr (7, [.null, .ref q_1, .ref q_3])), (q_1, .inl (k_2, 1024, .inl (fun _ => 0))), (q_3, .inl (k_4, 1024, .inl (fun _ => 0)))] := hD
  refine lv_aload_n hx hb dX7_init_22 rfl (lv_at hl 0 rfl) ?_
  refine lv_aload_n hx hb dX7_init_23 rfl (lv_at hl 1 rfl) ?_
  refine va_putF (D := D) (ci := 7) (v := .ref po) (ty := .object "DynamicLogicProver$Pool") (C := RX7) (T := TX7) (N := 3) hx hb hts hiX7 tyX7 tyX7_ok nmX7 hown hK hP hD hS 0 rfl rfl 0 (by decide) (hts (.fieldLink RX7 18 "DynamicLogicProver$Rewriter" "pool" "LDynamicLogicProver$Pool;") (mo_X7_init 6 rfl)) (fun _ h9 => h9) rfl hin rfl (tyX7_ok 0 (by decide)) rfl rfl (Nat.le_of_ble_eq_true rfl) dX7_init_24 (fun H locs hP hD hS => ?_)
  have hP : va_P D vwCl [(h, .inr (7, [.ref po, .ref q_1, .ref q_3])), (q_1, .inl (k_2, 1024, .inl (fun _ => 0))), (q_3, .inl (k_4, 1024, .inl (fun _ => 0)))] H := hP
  have hD : va_D A [(h, .inr (7, [.ref po, .ref q_1, .ref q_3])), (q_1, .inl (k_2, 1024, .inl (fun _ => 0))), (q_3, .inl (k_4, 1024, .inl (fun _ => 0)))] := hD
  have hP9 := hP.sub (ws' := []) [] rfl
  have hD9 := hD.sub (ws' := []) [] (by decide) rfl
  have hK9 := hK.sub (tys' := []) [] rfl
  refine W.widen (k := 2) (n := 2048) (Nat.le_of_ble_eq_true rfl) (Nat.le_of_ble_eq_true rfl) ?_
  exact W.vret hx hb hr (fun tZ htZ hW => ⟨⟨(), rfl, trivial, by rw [htZ]; exact hP9, va_K.moved hW.alike hK9, hD9⟩, hS.F htZ⟩) hS.2.2 dX7_init_27
theorem dX10_init_0 : decode cX10_init 0 = .ok (.aload_n 0, 1) := by decide +kernel
theorem dX10_init_1 : decode cX10_init 1 = .ok (.invokespecial 3, 3) := by decide +kernel
theorem dX10_init_4 : decode cX10_init 4 = .ok (.aload_n 0, 1) := by decide +kernel
theorem dX10_init_5 : decode cX10_init 5 = .ok (.sipush 1024, 3) := by decide +kernel
theorem dX10_init_8 : decode cX10_init 8 = .ok (.newarray .int, 2) := by decide +kernel
theorem dX10_init_10 : decode cX10_init 10 = .ok (.putfield 9, 3) := by decide +kernel
theorem dX10_init_13 : decode cX10_init 13 = .ok (.aload_n 0, 1) := by decide +kernel
theorem dX10_init_14 : decode cX10_init 14 = .ok (.sipush 6144, 3) := by decide +kernel
theorem dX10_init_17 : decode cX10_init 17 = .ok (.newarray .int, 2) := by decide +kernel
theorem dX10_init_19 : decode cX10_init 19 = .ok (.putfield 15, 3) := by decide +kernel
theorem dX10_init_22 : decode cX10_init 22 = .ok (.aload_n 0, 1) := by decide +kernel
theorem dX10_init_23 : decode cX10_init 23 = .ok (.aload_n 1, 1) := by decide +kernel
theorem dX10_init_24 : decode cX10_init 24 = .ok (.putfield 18, 3) := by decide +kernel
theorem dX10_init_27 : decode cX10_init 27 = .ok (.return_, 1) := by decide +kernel
def wo_X10_init : List Cond := [.methodLink RX10 3 objectInit, .instanceMethod objectInit, .code objectInit ⟨#[0xb1]⟩ 1 none, .arrayClass .int, .fieldLink RX10 9 "DynamicLogicProver$Truth" "masks" "[I", .fieldLink RX10 15 "DynamicLogicProver$Truth" "rows" "[I", .fieldLink RX10 18 "DynamicLogicProver$Truth" "pool" "LDynamicLogicProver$Pool;"]
def wd_X10_init : List Cond := .code yX10_init cX10_init 2 none :: (wo_X10_init ++ (wsX100 ++ ([] : List Cond)))
theorem mo_X10_init {w : Cond} (i : Nat) (h : wo_X10_init[i]? = some w) : w ∈ wd_X10_init := List.mem_cons_of_mem _ (List.mem_append_left _ (List.mem_of_getElem? h))
theorem mb_X10_init_0 : ∀ w ∈ wsX100, w ∈ wd_X10_init := fun w h => List.mem_cons_of_mem _ (List.mem_append_right _ (List.mem_append_left _ h))
theorem hd_X10_init : yX10_init.cls ≠ "java/lang/invoke/MethodHandle" ∧ yX10_init.cls ≠ "java/lang/invoke/VarHandle" ∧ (parseMethodDescriptor yX10_init.desc).map (fun d => d.parameters.length) = some 1 := by decide +kernel
set_option maxRecDepth 20000 in
theorem gw_X10_init : wd_X10_init.all goodWord = true := by decide +kernel
abbrev qc_X10_init (D : va_G) (h : Nat) (po : Nat) (A : Nat → Prop) : Array Value → State → Outcome → State → Prop := va_Qv (fun (uZ : Unit) => True) (fun uZ tZ => kc_pos D A [] [] tZ) A
set_option maxHeartbeats 4000000 in
set_option maxRecDepth 100000 in
theorem ct_X10_init (l : Launch) (D : va_G) (h : Nat) (po : Nat) (sz : Nat)  : Met l yX10_init wd_X10_init ({ frames := 1, cells := 2, slots := 7168, locals := 12 }) (va_Pc [.ref h, .ref po] (kc_pre D [] [(h, .inr (10, [.null, .null, .null, .int 0, .int 0]))] sz)) (qc_X10_init D h po (va_A [(h, .inr (10, [.null, .null, .null, .int 0, .int 0]))] sz)) 2 7168 (va_A [(h, .inr (10, [.null, .null, .null, .int 0, .int 0]))] sz) := by
  refine Met.ofW (cc := cX10_init) (maxL := 2) (ret := none) (by decide) rfl ?_
  intro p e s m args below meth c s₁ B hml hv
  obtain ⟨rfl, hsz, hP, hK, hN, hD0⟩ := hv
  have hx := B.exec
  have hb := B.bytes
  have hr := B.returns
  have hts := atoms_spec (ws := wd_X10_init) B.pre
  have hown : s.vm.findClass RX10 = some m.cls := findClass_of_methodNamed B.named
  have hlocks := B.notSynchronized
  have hin : meth.name = "<init>" := (name_of_methodNamed B.named B.method).1
  subst hsz
  have hD := hD0.self (sz := s.heap.size)
  generalize hAe : va_A [(h, .inr (10, [.null, .null, .null, .int 0, .int 0]))] s.heap.size = A at hD ⊢
  have hA : ∀ q : Nat, s.heap.size ≤ q → A q := fun q h => by rw [← hAe]; exact Or.inr h
  have hS : va_S A s.heap s.heap [] := va_S.rf
  have hiX10 : ∀ w ∈ wsX100, w ∈ wd_X10_init := mb_X10_init_0
  have hl := lv_entry ([.ref h, .ref po]) (n := 2) (Nat.le_of_ble_eq_true rfl)
  rw [lg_entry_eq]
  generalize (lg_sl ([.ref h, .ref po]) ++ List.replicate (2 - (lg_sl ([.ref h, .ref po])).length) Slot.unset).toArray = ls at hl ⊢
  have hl : lv_has ls 2 [(0, .ref h), (1, .ref po)] := hl
  refine lv_aload_n hx hb dX10_init_0 rfl (lv_at hl 0 rfl) ?_
  refine W.objInit hx hb hown (hts (.methodLink RX10 3 objectInit) (mo_X10_init 0 rfl)) (hts (.instanceMethod objectInit) (mo_X10_init 1 rfl)) (hts (.code objectInit ⟨#[0xb1]⟩ 1 none) (mo_X10_init 2 rfl)) rfl (by rw [hml]; exact hl.1) rfl dX10_init_1 (Nat.le_of_ble_eq_true rfl) (Nat.le_of_ble_eq_true rfl) ?_
  refine W.eq (g2 := F0 m 4 ls []) rfl ?_
  refine lv_aload_n hx hb dX10_init_4 rfl (lv_at hl 0 rfl) ?_
  refine lv_sipush (v := 1024) hx hb dX10_init_5 (by decide) ?_
  refine va_newa (atype := .int) (ty := .int) (a0 := (1024, .inl (fun _ => 0))) hx hb (hts (.arrayClass .int) (mo_X10_init 3 rfl)) rfl hK hP hD hS hA (fun _ => rfl) (by decide) (N' := 1024) (by decide) (by decide) (Nat.le_of_ble_eq_true rfl) (Nat.le_of_ble_eq_true rfl) dX10_init_8 (fun q_1 k_2 H hK hP hD hS => ?_)
  have hP : va_P D vwCl [(h, .inr (10, [.null, .null, .null, .int 0, .int 0])), (q_1, .inl (k_2, 1024, .inl (fun _ => 0)))] H := hP
  have hD : va_D A [(h, .inr (10, [.null, .null, .null, .int 0, .int 0])), (q_1, .inl (k_2, 1024, .inl (fun _ => 0)))] := hD
  have hK : va_K D vwCl [(k_2, .int)] s := hK
  refine W.widen (k := 1) (n := 1024) (by decide) (Nat.le_of_ble_eq_true rfl) ?_
  refine va_putF (D := D) (ci := 10) (v := .ref q_1) (ty := .array .int) (C := RX10) (T := TX10) (N := 5) hx hb hts hiX10 tyX10 tyX10_ok nmX10 hown hK hP hD hS 0 rfl rfl 1 (by decide) (hts (.fieldLink RX10 9 "DynamicLogicProver$Truth" "masks" "[I") (mo_X10_init 4 rfl)) (fun _ h9 => h9) rfl hin rfl (tyX10_ok 1 (by decide)) rfl rfl (Nat.le_of_ble_eq_true rfl) dX10_init_10 (fun H locs hP hD hS => ?_)
  have hP : va_P D vwCl [(h, .inr (10, [.null, .ref q_1, .null, .int 0, .int 0])), (q_1, .inl (k_2, 1024, .inl (fun _ => 0)))] H := hP
  have hD : va_D A [(h, .inr (10, [.null, .ref q_1, .null, .int 0, .int 0])), (q_1, .inl (k_2, 1024, .inl (fun _ => 0)))] := hD
  refine lv_aload_n hx hb dX10_init_13 rfl (lv_at hl 0 rfl) ?_
  refine lv_sipush (v := 6144) hx hb dX10_init_14 (by decide) ?_
  refine va_newa (atype := .int) (ty := .int) (a0 := (6144, .inl (fun _ => 0))) hx hb (hts (.arrayClass .int) (mo_X10_init 3 rfl)) rfl hK hP hD hS hA (fun _ => rfl) (by decide) (N' := 6144) (by decide) (by decide) (Nat.le_of_ble_eq_true rfl) (Nat.le_of_ble_eq_true rfl) dX10_init_17 (fun q_3 k_4 H hK hP hD hS => ?_)
  have hP : va_P D vwCl [(h, .inr (10, [.null, .ref q_1, .null, .int 0, .int 0])), (q_1, .inl (k_2, 1024, .inl (fun _ => 0))), (q_3, .inl (k_4, 6144, .inl (fun _ => 0)))] H := hP
  have hD : va_D A [(h, .inr (10, [.null, .ref q_1, .null, .int 0, .int 0])), (q_1, .inl (k_2, 1024, .inl (fun _ => 0))), (q_3, .inl (k_4, 6144, .inl (fun _ => 0)))] := hD
  have hK : va_K D vwCl [(k_2, .int), (k_4, .int)] s := hK
  refine W.widen (k := 2) (n := 7168) (by decide) (Nat.le_of_ble_eq_true rfl) ?_
  refine va_putF (D := D) (ci := 10) (v := .ref q_3) (ty := .array .int) (C := RX10) (T := TX10) (N := 5) hx hb hts hiX10 tyX10 tyX10_ok nmX10 hown hK hP hD hS 0 rfl rfl 2 (by decide) (hts (.fieldLink RX10 15 "DynamicLogicProver$Truth" "rows" "[I") (mo_X10_init 5 rfl)) (fun _ h9 => h9) rfl hin rfl (tyX10_ok 2 (by decide)) rfl rfl (Nat.le_of_ble_eq_true rfl) dX10_init_19 (fun H locs hP hD hS => ?_)
  have hP : va_P D vwCl [(h, .inr (10, [.null, .ref q_1, .ref q_3, .int 0, .int 0])), (q_1, .inl (k_2, 1024, .inl (fun _ => 0))), (q_3, .inl (k_4, 6144, .inl (fun _ => 0)))] H := hP
  have hD : va_D A [(h, .inr (10, [.null, .ref q_1, .ref q_3, .int 0, .int 0])), (q_1, .inl (k_2, 1024, .inl (fun _ => 0))), (q_3, .inl (k_4, 6144, .inl (fun _ => 0)))] := hD
  refine lv_aload_n hx hb dX10_init_22 rfl (lv_at hl 0 rfl) ?_
  refine lv_aload_n hx hb dX10_init_23 rfl (lv_at hl 1 rfl) ?_
  refine va_putF (D := D) (ci := 10) (v := .ref po) (ty := .object "DynamicLogicProver$Pool") (C := RX10) (T := TX10) (N := 5) hx hb hts hiX10 tyX10 tyX10_ok nmX10 hown hK hP hD hS 0 rfl rfl 0 (by decide) (hts (.fieldLink RX10 18 "DynamicLogicProver$Truth" "pool" "LDynamicLogicProver$Pool;") (mo_X10_init 6 rfl)) (fun _ h9 => h9) rfl hin rfl (tyX10_ok 0 (by decide)) rfl rfl (Nat.le_of_ble_eq_true rfl) dX10_init_24 (fun H locs hP hD hS => ?_)
  have hP : va_P D vwCl [(h, .inr (10, [.ref po, .ref q_1, .ref q_3, .int 0, .int 0])), (q_1, .inl (k_2, 1024, .inl (fun _ => 0))), (q_3, .inl (k_4, 6144, .inl (fun _ => 0)))] H := hP
  have hD : va_D A [(h, .inr (10, [.ref po, .ref q_1, .ref q_3, .int 0, .int 0])), (q_1, .inl (k_2, 1024, .inl (fun _ => 0))), (q_3, .inl (k_4, 6144, .inl (fun _ => 0)))] := hD
  have hP9 := hP.sub (ws' := []) [] rfl
  have hD9 := hD.sub (ws' := []) [] (by decide) rfl
  have hK9 := hK.sub (tys' := []) [] rfl
  refine W.widen (k := 2) (n := 7168) (Nat.le_of_ble_eq_true rfl) (Nat.le_of_ble_eq_true rfl) ?_
  exact W.vret hx hb hr (fun tZ htZ hW => ⟨⟨(), rfl, trivial, by rw [htZ]; exact hP9, va_K.moved hW.alike hK9, hD9⟩, hS.F htZ⟩) hS.2.2 dX10_init_27
theorem dX1_init_0 : decode cX1_init 0 = .ok (.aload_n 0, 1) := by decide +kernel
theorem dX1_init_1 : decode cX1_init 1 = .ok (.invokespecial 3, 3) := by decide +kernel
theorem dX1_init_4 : decode cX1_init 4 = .ok (.aload_n 0, 1) := by decide +kernel
theorem dX1_init_5 : decode cX1_init 5 = .ok (.sipush 200, 3) := by decide +kernel
theorem dX1_init_8 : decode cX1_init 8 = .ok (.newarray .int, 2) := by decide +kernel
theorem dX1_init_10 : decode cX1_init 10 = .ok (.putfield 9, 3) := by decide +kernel
theorem dX1_init_13 : decode cX1_init 13 = .ok (.aload_n 0, 1) := by decide +kernel
theorem dX1_init_14 : decode cX1_init 14 = .ok (.sipush 1024, 3) := by decide +kernel
theorem dX1_init_17 : decode cX1_init 17 = .ok (.newarray .int, 2) := by decide +kernel
theorem dX1_init_19 : decode cX1_init 19 = .ok (.putfield 15, 3) := by decide +kernel
theorem dX1_init_22 : decode cX1_init 22 = .ok (.aload_n 0, 1) := by decide +kernel
theorem dX1_init_23 : decode cX1_init 23 = .ok (.sipush 1024, 3) := by decide +kernel
theorem dX1_init_26 : decode cX1_init 26 = .ok (.newarray .int, 2) := by decide +kernel
theorem dX1_init_28 : decode cX1_init 28 = .ok (.putfield 18, 3) := by decide +kernel
theorem dX1_init_31 : decode cX1_init 31 = .ok (.aload_n 0, 1) := by decide +kernel
theorem dX1_init_32 : decode cX1_init 32 = .ok (.sipush 1024, 3) := by decide +kernel
theorem dX1_init_35 : decode cX1_init 35 = .ok (.newarray .int, 2) := by decide +kernel
theorem dX1_init_37 : decode cX1_init 37 = .ok (.putfield 21, 3) := by decide +kernel
theorem dX1_init_40 : decode cX1_init 40 = .ok (.aload_n 0, 1) := by decide +kernel
theorem dX1_init_41 : decode cX1_init 41 = .ok (.aload_n 1, 1) := by decide +kernel
theorem dX1_init_42 : decode cX1_init 42 = .ok (.putfield 24, 3) := by decide +kernel
theorem dX1_init_45 : decode cX1_init 45 = .ok (.return_, 1) := by decide +kernel
def wo_X1_init : List Cond := [.methodLink RX1 3 objectInit, .instanceMethod objectInit, .code objectInit ⟨#[0xb1]⟩ 1 none, .arrayClass .int, .fieldLink RX1 9 "DynamicLogicProver$Closure" "members" "[I", .fieldLink RX1 15 "DynamicLogicProver$Closure" "places" "[I", .fieldLink RX1 18 "DynamicLogicProver$Closure" "firsts" "[I", .fieldLink RX1 21 "DynamicLogicProver$Closure" "seconds" "[I", .fieldLink RX1 24 "DynamicLogicProver$Closure" "pool" "LDynamicLogicProver$Pool;"]
def wd_X1_init : List Cond := .code yX1_init cX1_init 2 none :: (wo_X1_init ++ (wsX10 ++ ([] : List Cond)))
theorem mo_X1_init {w : Cond} (i : Nat) (h : wo_X1_init[i]? = some w) : w ∈ wd_X1_init := List.mem_cons_of_mem _ (List.mem_append_left _ (List.mem_of_getElem? h))
theorem mb_X1_init_0 : ∀ w ∈ wsX10, w ∈ wd_X1_init := fun w h => List.mem_cons_of_mem _ (List.mem_append_right _ (List.mem_append_left _ h))
theorem hd_X1_init : yX1_init.cls ≠ "java/lang/invoke/MethodHandle" ∧ yX1_init.cls ≠ "java/lang/invoke/VarHandle" ∧ (parseMethodDescriptor yX1_init.desc).map (fun d => d.parameters.length) = some 1 := by decide +kernel
set_option maxRecDepth 20000 in
theorem gw_X1_init : wd_X1_init.all goodWord = true := by decide +kernel
abbrev qc_X1_init (D : va_G) (h : Nat) (po : Nat) (A : Nat → Prop) : Array Value → State → Outcome → State → Prop := va_Qv (fun (uZ : Unit) => True) (fun uZ tZ => kc_pos D A [] [] tZ) A
set_option maxHeartbeats 4000000 in
set_option maxRecDepth 100000 in
theorem ct_X1_init (l : Launch) (D : va_G) (h : Nat) (po : Nat) (sz : Nat)  : Met l yX1_init wd_X1_init ({ frames := 1, cells := 4, slots := 3272, locals := 12 }) (va_Pc [.ref h, .ref po] (kc_pre D [] [(h, .inr (1, [.null, .null, .null, .null, .null, .int 0]))] sz)) (qc_X1_init D h po (va_A [(h, .inr (1, [.null, .null, .null, .null, .null, .int 0]))] sz)) 4 3272 (va_A [(h, .inr (1, [.null, .null, .null, .null, .null, .int 0]))] sz) := by
  refine Met.ofW (cc := cX1_init) (maxL := 2) (ret := none) (by decide) rfl ?_
  intro p e s m args below meth c s₁ B hml hv
  obtain ⟨rfl, hsz, hP, hK, hN, hD0⟩ := hv
  have hx := B.exec
  have hb := B.bytes
  have hr := B.returns
  have hts := atoms_spec (ws := wd_X1_init) B.pre
  have hown : s.vm.findClass RX1 = some m.cls := findClass_of_methodNamed B.named
  have hlocks := B.notSynchronized
  have hin : meth.name = "<init>" := (name_of_methodNamed B.named B.method).1
  subst hsz
  have hD := hD0.self (sz := s.heap.size)
  generalize hAe : va_A [(h, .inr (1, [.null, .null, .null, .null, .null, .int 0]))] s.heap.size = A at hD ⊢
  have hA : ∀ q : Nat, s.heap.size ≤ q → A q := fun q h => by rw [← hAe]; exact Or.inr h
  have hS : va_S A s.heap s.heap [] := va_S.rf
  have hiX1 : ∀ w ∈ wsX10, w ∈ wd_X1_init := mb_X1_init_0
  have hl := lv_entry ([.ref h, .ref po]) (n := 2) (Nat.le_of_ble_eq_true rfl)
  rw [lg_entry_eq]
  generalize (lg_sl ([.ref h, .ref po]) ++ List.replicate (2 - (lg_sl ([.ref h, .ref po])).length) Slot.unset).toArray = ls at hl ⊢
  have hl : lv_has ls 2 [(0, .ref h), (1, .ref po)] := hl
  refine lv_aload_n hx hb dX1_init_0 rfl (lv_at hl 0 rfl) ?_
  refine W.objInit hx hb hown (hts (.methodLink RX1 3 objectInit) (mo_X1_init 0 rfl)) (hts (.instanceMethod objectInit) (mo_X1_init 1 rfl)) (hts (.code objectInit ⟨#[0xb1]⟩ 1 none) (mo_X1_init 2 rfl)) rfl (by rw [hml]; exact hl.1) rfl dX1_init_1 (Nat.le_of_ble_eq_true rfl) (Nat.le_of_ble_eq_true rfl) ?_
  refine W.eq (g2 := F0 m 4 ls []) rfl ?_
  refine lv_aload_n hx hb dX1_init_4 rfl (lv_at hl 0 rfl) ?_
  refine lv_sipush (v := 200) hx hb dX1_init_5 (by decide) ?_
  refine va_newa (atype := .int) (ty := .int) (a0 := (200, .inl (fun _ => 0))) hx hb (hts (.arrayClass .int) (mo_X1_init 3 rfl)) rfl hK hP hD hS hA (fun _ => rfl) (by decide) (N' := 200) (by decide) (by decide) (Nat.le_of_ble_eq_true rfl) (Nat.le_of_ble_eq_true rfl) dX1_init_8 (fun q_1 k_2 H hK hP hD hS => ?_)
  have hP : va_P D vwCl [(h, .inr (1, [.null, .null, .null, .null, .null, .int 0])), (q_1, .inl (k_2, 200, .inl (fun _ => 0)))] H := hP
  have hD : va_D A [(h, .inr (1, [.null, .null, .null, .null, .null, .int 0])), (q_1, .inl (k_2, 200, .inl (fun _ => 0)))] := hD
  have hK : va_K D vwCl [(k_2, .int)] s := hK
  refine W.widen (k := 1) (n := 200) (by decide) (Nat.le_of_ble_eq_true rfl) ?_
  refine va_putF (D := D) (ci := 1) (v := .ref q_1) (ty := .array .int) (C := RX1) (T := TX1) (N := 6) hx hb hts hiX1 tyX1 tyX1_ok nmX1 hown hK hP hD hS 0 rfl rfl 1 (by decide) (hts (.fieldLink RX1 9 "DynamicLogicProver$Closure" "members" "[I") (mo_X1_init 4 rfl)) (fun _ h9 => h9) rfl hin rfl (tyX1_ok 1 (by decide)) rfl rfl (Nat.le_of_ble_eq_true rfl) dX1_init_10 (fun H locs hP hD hS => ?_)
  have hP : va_P D vwCl [(h, .inr (1, [.null, .ref q_1, .null, .null, .null, .int 0])), (q_1, .inl (k_2, 200, .inl (fun _ => 0)))] H := hP
  have hD : va_D A [(h, .inr (1, [.null, .ref q_1, .null, .null, .null, .int 0])), (q_1, .inl (k_2, 200, .inl (fun _ => 0)))] := hD
  refine lv_aload_n hx hb dX1_init_13 rfl (lv_at hl 0 rfl) ?_
  refine lv_sipush (v := 1024) hx hb dX1_init_14 (by decide) ?_
  refine va_newa (atype := .int) (ty := .int) (a0 := (1024, .inl (fun _ => 0))) hx hb (hts (.arrayClass .int) (mo_X1_init 3 rfl)) rfl hK hP hD hS hA (fun _ => rfl) (by decide) (N' := 1024) (by decide) (by decide) (Nat.le_of_ble_eq_true rfl) (Nat.le_of_ble_eq_true rfl) dX1_init_17 (fun q_3 k_4 H hK hP hD hS => ?_)
  have hP : va_P D vwCl [(h, .inr (1, [.null, .ref q_1, .null, .null, .null, .int 0])), (q_1, .inl (k_2, 200, .inl (fun _ => 0))), (q_3, .inl (k_4, 1024, .inl (fun _ => 0)))] H := hP
  have hD : va_D A [(h, .inr (1, [.null, .ref q_1, .null, .null, .null, .int 0])), (q_1, .inl (k_2, 200, .inl (fun _ => 0))), (q_3, .inl (k_4, 1024, .inl (fun _ => 0)))] := hD
  have hK : va_K D vwCl [(k_2, .int), (k_4, .int)] s := hK
  refine W.widen (k := 2) (n := 1224) (by decide) (Nat.le_of_ble_eq_true rfl) ?_
  refine va_putF (D := D) (ci := 1) (v := .ref q_3) (ty := .array .int) (C := RX1) (T := TX1) (N := 6) hx hb hts hiX1 tyX1 tyX1_ok nmX1 hown hK hP hD hS 0 rfl rfl 2 (by decide) (hts (.fieldLink RX1 15 "DynamicLogicProver$Closure" "places" "[I") (mo_X1_init 5 rfl)) (fun _ h9 => h9) rfl hin rfl (tyX1_ok 2 (by decide)) rfl rfl (Nat.le_of_ble_eq_true rfl) dX1_init_19 (fun H locs hP hD hS => ?_)
  have hP : va_P D vwCl [(h, .inr (1, [.null, .ref q_1, .ref q_3, .null, .null, .int 0])), (q_1, .inl (k_2, 200, .inl (fun _ => 0))), (q_3, .inl (k_4, 1024, .inl (fun _ => 0)))] H := hP
  have hD : va_D A [(h, .inr (1, [.null, .ref q_1, .ref q_3, .null, .null, .int 0])), (q_1, .inl (k_2, 200, .inl (fun _ => 0))), (q_3, .inl (k_4, 1024, .inl (fun _ => 0)))] := hD
  refine lv_aload_n hx hb dX1_init_22 rfl (lv_at hl 0 rfl) ?_
  refine lv_sipush (v := 1024) hx hb dX1_init_23 (by decide) ?_
  refine va_newa (atype := .int) (ty := .int) (a0 := (1024, .inl (fun _ => 0))) hx hb (hts (.arrayClass .int) (mo_X1_init 3 rfl)) rfl hK hP hD hS hA (fun _ => rfl) (by decide) (N' := 1024) (by decide) (by decide) (Nat.le_of_ble_eq_true rfl) (Nat.le_of_ble_eq_true rfl) dX1_init_26 (fun q_5 k_6 H hK hP hD hS => ?_)
  have hP : va_P D vwCl [(h, .inr (1, [.null, .ref q_1, .ref q_3, .null, .null, .int 0])), (q_1, .inl (k_2, 200, .inl (fun _ => 0))), (q_3, .inl (k_4, 1024, .inl (fun _ => 0))), (q_5, .inl (k_6, 1024, .inl (fun _ => 0)))] H := hP
  have hD : va_D A [(h, .inr (1, [.null, .ref q_1, .ref q_3, .null, .null, .int 0])), (q_1, .inl (k_2, 200, .inl (fun _ => 0))), (q_3, .inl (k_4, 1024, .inl (fun _ => 0))), (q_5, .inl (k_6, 1024, .inl (fun _ => 0)))] := hD
  have hK : va_K D vwCl [(k_2, .int), (k_4, .int), (k_6, .int)] s := hK
  refine W.widen (k := 3) (n := 2248) (by decide) (Nat.le_of_ble_eq_true rfl) ?_
  refine va_putF (D := D) (ci := 1) (v := .ref q_5) (ty := .array .int) (C := RX1) (T := TX1) (N := 6) hx hb hts hiX1 tyX1 tyX1_ok nmX1 hown hK hP hD hS 0 rfl rfl 3 (by decide) (hts (.fieldLink RX1 18 "DynamicLogicProver$Closure" "firsts" "[I") (mo_X1_init 6 rfl)) (fun _ h9 => h9) rfl hin rfl (tyX1_ok 3 (by decide)) rfl rfl (Nat.le_of_ble_eq_true rfl) dX1_init_28 (fun H locs hP hD hS => ?_)
  have hP : va_P D vwCl [(h, .inr (1, [.null, .ref q_1, .ref q_3, .ref q_5, .null, .int 0])), (q_1, .inl (k_2, 200, .inl (fun _ => 0))), (q_3, .inl (k_4, 1024, .inl (fun _ => 0))), (q_5, .inl (k_6, 1024, .inl (fun _ => 0)))] H := hP
  have hD : va_D A [(h, .inr (1, [.null, .ref q_1, .ref q_3, .ref q_5, .null, .int 0])), (q_1, .inl (k_2, 200, .inl (fun _ => 0))), (q_3, .inl (k_4, 1024, .inl (fun _ => 0))), (q_5, .inl (k_6, 1024, .inl (fun _ => 0)))] := hD
  refine lv_aload_n hx hb dX1_init_31 rfl (lv_at hl 0 rfl) ?_
  refine lv_sipush (v := 1024) hx hb dX1_init_32 (by decide) ?_
  refine va_newa (atype := .int) (ty := .int) (a0 := (1024, .inl (fun _ => 0))) hx hb (hts (.arrayClass .int) (mo_X1_init 3 rfl)) rfl hK hP hD hS hA (fun _ => rfl) (by decide) (N' := 1024) (by decide) (by decide) (Nat.le_of_ble_eq_true rfl) (Nat.le_of_ble_eq_true rfl) dX1_init_35 (fun q_7 k_8 H hK hP hD hS => ?_)
  have hP : va_P D vwCl [(h, .inr (1, [.null, .ref q_1, .ref q_3, .ref q_5, .null, .int 0])), (q_1, .inl (k_2, 200, .inl (fun _ => 0))), (q_3, .inl (k_4, 1024, .inl (fun _ => 0))), (q_5, .inl (k_6, 1024, .inl (fun _ => 0))), (q_7, .inl (k_8, 1024, .inl (fun _ => 0)))] H := hP
  have hD : va_D A [(h, .inr (1, [.null, .ref q_1, .ref q_3, .ref q_5, .null, .int 0])), (q_1, .inl (k_2, 200, .inl (fun _ => 0))), (q_3, .inl (k_4, 1024, .inl (fun _ => 0))), (q_5, .inl (k_6, 1024, .inl (fun _ => 0))), (q_7, .inl (k_8, 1024, .inl (fun _ => 0)))] := hD
  have hK : va_K D vwCl [(k_2, .int), (k_4, .int), (k_6, .int), (k_8, .int)] s := hK
  refine W.widen (k := 4) (n := 3272) (by decide) (Nat.le_of_ble_eq_true rfl) ?_
  refine va_putF (D := D) (ci := 1) (v := .ref q_7) (ty := .array .int) (C := RX1) (T := TX1) (N := 6) hx hb hts hiX1 tyX1 tyX1_ok nmX1 hown hK hP hD hS 0 rfl rfl 4 (by decide) (hts (.fieldLink RX1 21 "DynamicLogicProver$Closure" "seconds" "[I") (mo_X1_init 7 rfl)) (fun _ h9 => h9) rfl hin rfl (tyX1_ok 4 (by decide)) rfl rfl (Nat.le_of_ble_eq_true rfl) dX1_init_37 (fun H locs hP hD hS => ?_)
  have hP : va_P D vwCl [(h, .inr (1, [.null, .ref q_1, .ref q_3, .ref q_5, .ref q_7, .int 0])), (q_1, .inl (k_2, 200, .inl (fun _ => 0))), (q_3, .inl (k_4, 1024, .inl (fun _ => 0))), (q_5, .inl (k_6, 1024, .inl (fun _ => 0))), (q_7, .inl (k_8, 1024, .inl (fun _ => 0)))] H := hP
  have hD : va_D A [(h, .inr (1, [.null, .ref q_1, .ref q_3, .ref q_5, .ref q_7, .int 0])), (q_1, .inl (k_2, 200, .inl (fun _ => 0))), (q_3, .inl (k_4, 1024, .inl (fun _ => 0))), (q_5, .inl (k_6, 1024, .inl (fun _ => 0))), (q_7, .inl (k_8, 1024, .inl (fun _ => 0)))] := hD
  refine lv_aload_n hx hb dX1_init_40 rfl (lv_at hl 0 rfl) ?_
  refine lv_aload_n hx hb dX1_init_41 rfl (lv_at hl 1 rfl) ?_
  refine va_putF (D := D) (ci := 1) (v := .ref po) (ty := .object "DynamicLogicProver$Pool") (C := RX1) (T := TX1) (N := 6) hx hb hts hiX1 tyX1 tyX1_ok nmX1 hown hK hP hD hS 0 rfl rfl 0 (by decide) (hts (.fieldLink RX1 24 "DynamicLogicProver$Closure" "pool" "LDynamicLogicProver$Pool;") (mo_X1_init 8 rfl)) (fun _ h9 => h9) rfl hin rfl (tyX1_ok 0 (by decide)) rfl rfl (Nat.le_of_ble_eq_true rfl) dX1_init_42 (fun H locs hP hD hS => ?_)
  have hP : va_P D vwCl [(h, .inr (1, [.ref po, .ref q_1, .ref q_3, .ref q_5, .ref q_7, .int 0])), (q_1, .inl (k_2, 200, .inl (fun _ => 0))), (q_3, .inl (k_4, 1024, .inl (fun _ => 0))), (q_5, .inl (k_6, 1024, .inl (fun _ => 0))), (q_7, .inl (k_8, 1024, .inl (fun _ => 0)))] H := hP
  have hD : va_D A [(h, .inr (1, [.ref po, .ref q_1, .ref q_3, .ref q_5, .ref q_7, .int 0])), (q_1, .inl (k_2, 200, .inl (fun _ => 0))), (q_3, .inl (k_4, 1024, .inl (fun _ => 0))), (q_5, .inl (k_6, 1024, .inl (fun _ => 0))), (q_7, .inl (k_8, 1024, .inl (fun _ => 0)))] := hD
  have hP9 := hP.sub (ws' := []) [] rfl
  have hD9 := hD.sub (ws' := []) [] (by decide) rfl
  have hK9 := hK.sub (tys' := []) [] rfl
  refine W.widen (k := 4) (n := 3272) (Nat.le_of_ble_eq_true rfl) (Nat.le_of_ble_eq_true rfl) ?_
  exact W.vret hx hb hr (fun tZ htZ hW => ⟨⟨(), rfl, trivial, by rw [htZ]; exact hP9, va_K.moved hW.alike hK9, hD9⟩, hS.F htZ⟩) hS.2.2 dX1_init_45
theorem dX2_init_0 : decode cX2_init 0 = .ok (.aload_n 0, 1) := by decide +kernel
theorem dX2_init_1 : decode cX2_init 1 = .ok (.invokespecial 3, 3) := by decide +kernel
theorem dX2_init_4 : decode cX2_init 4 = .ok (.aload_n 0, 1) := by decide +kernel
theorem dX2_init_5 : decode cX2_init 5 = .ok (.sipush 200, 3) := by decide +kernel
theorem dX2_init_8 : decode cX2_init 8 = .ok (.newarray .int, 2) := by decide +kernel
theorem dX2_init_10 : decode cX2_init 10 = .ok (.putfield 9, 3) := by decide +kernel
theorem dX2_init_13 : decode cX2_init 13 = .ok (.aload_n 0, 1) := by decide +kernel
theorem dX2_init_14 : decode cX2_init 14 = .ok (.sipush 200, 3) := by decide +kernel
theorem dX2_init_17 : decode cX2_init 17 = .ok (.newarray .int, 2) := by decide +kernel
theorem dX2_init_19 : decode cX2_init 19 = .ok (.putfield 15, 3) := by decide +kernel
theorem dX2_init_22 : decode cX2_init 22 = .ok (.aload_n 0, 1) := by decide +kernel
theorem dX2_init_23 : decode cX2_init 23 = .ok (.sipush 200, 3) := by decide +kernel
theorem dX2_init_26 : decode cX2_init 26 = .ok (.newarray .int, 2) := by decide +kernel
theorem dX2_init_28 : decode cX2_init 28 = .ok (.putfield 18, 3) := by decide +kernel
theorem dX2_init_31 : decode cX2_init 31 = .ok (.aload_n 0, 1) := by decide +kernel
theorem dX2_init_32 : decode cX2_init 32 = .ok (.sipush 200, 3) := by decide +kernel
theorem dX2_init_35 : decode cX2_init 35 = .ok (.newarray .int, 2) := by decide +kernel
theorem dX2_init_37 : decode cX2_init 37 = .ok (.putfield 21, 3) := by decide +kernel
theorem dX2_init_40 : decode cX2_init 40 = .ok (.aload_n 0, 1) := by decide +kernel
theorem dX2_init_41 : decode cX2_init 41 = .ok (.sipush 200, 3) := by decide +kernel
theorem dX2_init_44 : decode cX2_init 44 = .ok (.newarray .int, 2) := by decide +kernel
theorem dX2_init_46 : decode cX2_init 46 = .ok (.putfield 24, 3) := by decide +kernel
theorem dX2_init_49 : decode cX2_init 49 = .ok (.aload_n 0, 1) := by decide +kernel
theorem dX2_init_50 : decode cX2_init 50 = .ok (.sipush 800, 3) := by decide +kernel
theorem dX2_init_53 : decode cX2_init 53 = .ok (.newarray .long, 2) := by decide +kernel
theorem dX2_init_55 : decode cX2_init 55 = .ok (.putfield 27, 3) := by decide +kernel
theorem dX2_init_58 : decode cX2_init 58 = .ok (.aload_n 0, 1) := by decide +kernel
theorem dX2_init_59 : decode cX2_init 59 = .ok (.sipush 800, 3) := by decide +kernel
theorem dX2_init_62 : decode cX2_init 62 = .ok (.newarray .long, 2) := by decide +kernel
theorem dX2_init_64 : decode cX2_init 64 = .ok (.putfield 31, 3) := by decide +kernel
theorem dX2_init_67 : decode cX2_init 67 = .ok (.aload_n 0, 1) := by decide +kernel
theorem dX2_init_68 : decode cX2_init 68 = .ok (.sipush 3072, 3) := by decide +kernel
theorem dX2_init_71 : decode cX2_init 71 = .ok (.newarray .long, 2) := by decide +kernel
theorem dX2_init_73 : decode cX2_init 73 = .ok (.putfield 34, 3) := by decide +kernel
theorem dX2_init_76 : decode cX2_init 76 = .ok (.aload_n 0, 1) := by decide +kernel
theorem dX2_init_77 : decode cX2_init 77 = .ok (.iconst 4, 1) := by decide +kernel
theorem dX2_init_78 : decode cX2_init 78 = .ok (.newarray .long, 2) := by decide +kernel
theorem dX2_init_80 : decode cX2_init 80 = .ok (.putfield 37, 3) := by decide +kernel
theorem dX2_init_83 : decode cX2_init 83 = .ok (.aload_n 0, 1) := by decide +kernel
theorem dX2_init_84 : decode cX2_init 84 = .ok (.aload_n 1, 1) := by decide +kernel
theorem dX2_init_85 : decode cX2_init 85 = .ok (.putfield 40, 3) := by decide +kernel
theorem dX2_init_88 : decode cX2_init 88 = .ok (.return_, 1) := by decide +kernel
def wo_X2_init : List Cond := [.methodLink RX2 3 objectInit, .instanceMethod objectInit, .code objectInit ⟨#[0xb1]⟩ 1 none, .arrayClass .int, .fieldLink RX2 9 "DynamicLogicProver$Decision" "forms" "[I", .fieldLink RX2 15 "DynamicLogicProver$Decision" "firsts" "[I", .fieldLink RX2 18 "DynamicLogicProver$Decision" "seconds" "[I", .fieldLink RX2 21 "DynamicLogicProver$Decision" "states" "[I", .fieldLink RX2 24 "DynamicLogicProver$Decision" "group" "[I", .arrayClass .long, .fieldLink RX2 27 "DynamicLogicProver$Decision" "values" "[J", .fieldLink RX2 31 "DynamicLogicProver$Decision" "refuted" "[J", .fieldLink RX2 34 "DynamicLogicProver$Decision" "onward" "[J", .fieldLink RX2 37 "DynamicLogicProver$Decision" "alive" "[J", .fieldLink RX2 40 "DynamicLogicProver$Decision" "closure" "LDynamicLogicProver$Closure;"]
def wd_X2_init : List Cond := .code yX2_init cX2_init 2 none :: (wo_X2_init ++ (wsX20 ++ ([] : List Cond)))
theorem mo_X2_init {w : Cond} (i : Nat) (h : wo_X2_init[i]? = some w) : w ∈ wd_X2_init := List.mem_cons_of_mem _ (List.mem_append_left _ (List.mem_of_getElem? h))
theorem mb_X2_init_0 : ∀ w ∈ wsX20, w ∈ wd_X2_init := fun w h => List.mem_cons_of_mem _ (List.mem_append_right _ (List.mem_append_left _ h))
theorem hd_X2_init : yX2_init.cls ≠ "java/lang/invoke/MethodHandle" ∧ yX2_init.cls ≠ "java/lang/invoke/VarHandle" ∧ (parseMethodDescriptor yX2_init.desc).map (fun d => d.parameters.length) = some 1 := by decide +kernel
set_option maxRecDepth 20000 in
theorem gw_X2_init : wd_X2_init.all goodWord = true := by decide +kernel
abbrev qc_X2_init (D : va_G) (h : Nat) (po : Nat) (A : Nat → Prop) : Array Value → State → Outcome → State → Prop := va_Qv (fun (uZ : Unit) => True) (fun uZ tZ => kc_pos D A [] [] tZ) A
set_option maxHeartbeats 4000000 in
set_option maxRecDepth 100000 in
theorem ct_X2_init (l : Launch) (D : va_G) (h : Nat) (po : Nat) (sz : Nat)  : Met l yX2_init wd_X2_init ({ frames := 1, cells := 9, slots := 5676, locals := 12 }) (va_Pc [.ref h, .ref po] (kc_pre D [] [(h, .inr (2, [.null, .null, .null, .null, .null, .null, .null, .null, .null, .null, .int 0, .int 0, .int 0]))] sz)) (qc_X2_init D h po (va_A [(h, .inr (2, [.null, .null, .null, .null, .null, .null, .null, .null, .null, .null, .int 0, .int 0, .int 0]))] sz)) 9 5676 (va_A [(h, .inr (2, [.null, .null, .null, .null, .null, .null, .null, .null, .null, .null, .int 0, .int 0, .int 0]))] sz) := by
  refine Met.ofW (cc := cX2_init) (maxL := 2) (ret := none) (by decide) rfl ?_
  intro p e s m args below meth c s₁ B hml hv
  obtain ⟨rfl, hsz, hP, hK, hN, hD0⟩ := hv
  have hx := B.exec
  have hb := B.bytes
  have hr := B.returns
  have hts := atoms_spec (ws := wd_X2_init) B.pre
  have hown : s.vm.findClass RX2 = some m.cls := findClass_of_methodNamed B.named
  have hlocks := B.notSynchronized
  have hin : meth.name = "<init>" := (name_of_methodNamed B.named B.method).1
  subst hsz
  have hD := hD0.self (sz := s.heap.size)
  generalize hAe : va_A [(h, .inr (2, [.null, .null, .null, .null, .null, .null, .null, .null, .null, .null, .int 0, .int 0, .int 0]))] s.heap.size = A at hD ⊢
  have hA : ∀ q : Nat, s.heap.size ≤ q → A q := fun q h => by rw [← hAe]; exact Or.inr h
  have hS : va_S A s.heap s.heap [] := va_S.rf
  have hiX2 : ∀ w ∈ wsX20, w ∈ wd_X2_init := mb_X2_init_0
  have hl := lv_entry ([.ref h, .ref po]) (n := 2) (Nat.le_of_ble_eq_true rfl)
  rw [lg_entry_eq]
  generalize (lg_sl ([.ref h, .ref po]) ++ List.replicate (2 - (lg_sl ([.ref h, .ref po])).length) Slot.unset).toArray = ls at hl ⊢
  have hl : lv_has ls 2 [(0, .ref h), (1, .ref po)] := hl
  refine lv_aload_n hx hb dX2_init_0 rfl (lv_at hl 0 rfl) ?_
  refine W.objInit hx hb hown (hts (.methodLink RX2 3 objectInit) (mo_X2_init 0 rfl)) (hts (.instanceMethod objectInit) (mo_X2_init 1 rfl)) (hts (.code objectInit ⟨#[0xb1]⟩ 1 none) (mo_X2_init 2 rfl)) rfl (by rw [hml]; exact hl.1) rfl dX2_init_1 (Nat.le_of_ble_eq_true rfl) (Nat.le_of_ble_eq_true rfl) ?_
  refine W.eq (g2 := F0 m 4 ls []) rfl ?_
  refine lv_aload_n hx hb dX2_init_4 rfl (lv_at hl 0 rfl) ?_
  refine lv_sipush (v := 200) hx hb dX2_init_5 (by decide) ?_
  refine va_newa (atype := .int) (ty := .int) (a0 := (200, .inl (fun _ => 0))) hx hb (hts (.arrayClass .int) (mo_X2_init 3 rfl)) rfl hK hP hD hS hA (fun _ => rfl) (by decide) (N' := 200) (by decide) (by decide) (Nat.le_of_ble_eq_true rfl) (Nat.le_of_ble_eq_true rfl) dX2_init_8 (fun q_1 k_2 H hK hP hD hS => ?_)
  have hP : va_P D vwCl [(h, .inr (2, [.null, .null, .null, .null, .null, .null, .null, .null, .null, .null, .int 0, .int 0, .int 0])), (q_1, .inl (k_2, 200, .inl (fun _ => 0)))] H := hP
  have hD : va_D A [(h, .inr (2, [.null, .null, .null, .null, .null, .null, .null, .null, .null, .null, .int 0, .int 0, .int 0])), (q_1, .inl (k_2, 200, .inl (fun _ => 0)))] := hD
  have hK : va_K D vwCl [(k_2, .int)] s := hK
  refine W.widen (k := 1) (n := 200) (by decide) (Nat.le_of_ble_eq_true rfl) ?_
  refine va_putF (D := D) (ci := 2) (v := .ref q_1) (ty := .array .int) (C := RX2) (T := TX2) (N := 13) hx hb hts hiX2 tyX2 tyX2_ok nmX2 hown hK hP hD hS 0 rfl rfl 1 (by decide) (hts (.fieldLink RX2 9 "DynamicLogicProver$Decision" "forms" "[I") (mo_X2_init 4 rfl)) (fun _ h9 => h9) rfl hin rfl (tyX2_ok 1 (by decide)) rfl rfl (Nat.le_of_ble_eq_true rfl) dX2_init_10 (fun H locs hP hD hS => ?_)
  have hP : va_P D vwCl [(h, .inr (2, [.null, .ref q_1, .null, .null, .null, .null, .null, .null, .null, .null, .int 0, .int 0, .int 0])), (q_1, .inl (k_2, 200, .inl (fun _ => 0)))] H := hP
  have hD : va_D A [(h, .inr (2, [.null, .ref q_1, .null, .null, .null, .null, .null, .null, .null, .null, .int 0, .int 0, .int 0])), (q_1, .inl (k_2, 200, .inl (fun _ => 0)))] := hD
  refine lv_aload_n hx hb dX2_init_13 rfl (lv_at hl 0 rfl) ?_
  refine lv_sipush (v := 200) hx hb dX2_init_14 (by decide) ?_
  refine va_newa (atype := .int) (ty := .int) (a0 := (200, .inl (fun _ => 0))) hx hb (hts (.arrayClass .int) (mo_X2_init 3 rfl)) rfl hK hP hD hS hA (fun _ => rfl) (by decide) (N' := 200) (by decide) (by decide) (Nat.le_of_ble_eq_true rfl) (Nat.le_of_ble_eq_true rfl) dX2_init_17 (fun q_3 k_4 H hK hP hD hS => ?_)
  have hP : va_P D vwCl [(h, .inr (2, [.null, .ref q_1, .null, .null, .null, .null, .null, .null, .null, .null, .int 0, .int 0, .int 0])), (q_1, .inl (k_2, 200, .inl (fun _ => 0))), (q_3, .inl (k_4, 200, .inl (fun _ => 0)))] H := hP
  have hD : va_D A [(h, .inr (2, [.null, .ref q_1, .null, .null, .null, .null, .null, .null, .null, .null, .int 0, .int 0, .int 0])), (q_1, .inl (k_2, 200, .inl (fun _ => 0))), (q_3, .inl (k_4, 200, .inl (fun _ => 0)))] := hD
  have hK : va_K D vwCl [(k_2, .int), (k_4, .int)] s := hK
  refine W.widen (k := 2) (n := 400) (by decide) (Nat.le_of_ble_eq_true rfl) ?_
  refine va_putF (D := D) (ci := 2) (v := .ref q_3) (ty := .array .int) (C := RX2) (T := TX2) (N := 13) hx hb hts hiX2 tyX2 tyX2_ok nmX2 hown hK hP hD hS 0 rfl rfl 2 (by decide) (hts (.fieldLink RX2 15 "DynamicLogicProver$Decision" "firsts" "[I") (mo_X2_init 5 rfl)) (fun _ h9 => h9) rfl hin rfl (tyX2_ok 2 (by decide)) rfl rfl (Nat.le_of_ble_eq_true rfl) dX2_init_19 (fun H locs hP hD hS => ?_)
  have hP : va_P D vwCl [(h, .inr (2, [.null, .ref q_1, .ref q_3, .null, .null, .null, .null, .null, .null, .null, .int 0, .int 0, .int 0])), (q_1, .inl (k_2, 200, .inl (fun _ => 0))), (q_3, .inl (k_4, 200, .inl (fun _ => 0)))] H := hP
  have hD : va_D A [(h, .inr (2, [.null, .ref q_1, .ref q_3, .null, .null, .null, .null, .null, .null, .null, .int 0, .int 0, .int 0])), (q_1, .inl (k_2, 200, .inl (fun _ => 0))), (q_3, .inl (k_4, 200, .inl (fun _ => 0)))] := hD
  refine lv_aload_n hx hb dX2_init_22 rfl (lv_at hl 0 rfl) ?_
  refine lv_sipush (v := 200) hx hb dX2_init_23 (by decide) ?_
  refine va_newa (atype := .int) (ty := .int) (a0 := (200, .inl (fun _ => 0))) hx hb (hts (.arrayClass .int) (mo_X2_init 3 rfl)) rfl hK hP hD hS hA (fun _ => rfl) (by decide) (N' := 200) (by decide) (by decide) (Nat.le_of_ble_eq_true rfl) (Nat.le_of_ble_eq_true rfl) dX2_init_26 (fun q_5 k_6 H hK hP hD hS => ?_)
  have hP : va_P D vwCl [(h, .inr (2, [.null, .ref q_1, .ref q_3, .null, .null, .null, .null, .null, .null, .null, .int 0, .int 0, .int 0])), (q_1, .inl (k_2, 200, .inl (fun _ => 0))), (q_3, .inl (k_4, 200, .inl (fun _ => 0))), (q_5, .inl (k_6, 200, .inl (fun _ => 0)))] H := hP
  have hD : va_D A [(h, .inr (2, [.null, .ref q_1, .ref q_3, .null, .null, .null, .null, .null, .null, .null, .int 0, .int 0, .int 0])), (q_1, .inl (k_2, 200, .inl (fun _ => 0))), (q_3, .inl (k_4, 200, .inl (fun _ => 0))), (q_5, .inl (k_6, 200, .inl (fun _ => 0)))] := hD
  have hK : va_K D vwCl [(k_2, .int), (k_4, .int), (k_6, .int)] s := hK
  refine W.widen (k := 3) (n := 600) (by decide) (Nat.le_of_ble_eq_true rfl) ?_
  refine va_putF (D := D) (ci := 2) (v := .ref q_5) (ty := .array .int) (C := RX2) (T := TX2) (N := 13) hx hb hts hiX2 tyX2 tyX2_ok nmX2 hown hK hP hD hS 0 rfl rfl 3 (by decide) (hts (.fieldLink RX2 18 "DynamicLogicProver$Decision" "seconds" "[I") (mo_X2_init 6 rfl)) (fun _ h9 => h9) rfl hin rfl (tyX2_ok 3 (by decide)) rfl rfl (Nat.le_of_ble_eq_true rfl) dX2_init_28 (fun H locs hP hD hS => ?_)
  have hP : va_P D vwCl [(h, .inr (2, [.null, .ref q_1, .ref q_3, .ref q_5, .null, .null, .null, .null, .null, .null, .int 0, .int 0, .int 0])), (q_1, .inl (k_2, 200, .inl (fun _ => 0))), (q_3, .inl (k_4, 200, .inl (fun _ => 0))), (q_5, .inl (k_6, 200, .inl (fun _ => 0)))] H := hP
  have hD : va_D A [(h, .inr (2, [.null, .ref q_1, .ref q_3, .ref q_5, .null, .null, .null, .null, .null, .null, .int 0, .int 0, .int 0])), (q_1, .inl (k_2, 200, .inl (fun _ => 0))), (q_3, .inl (k_4, 200, .inl (fun _ => 0))), (q_5, .inl (k_6, 200, .inl (fun _ => 0)))] := hD
  refine lv_aload_n hx hb dX2_init_31 rfl (lv_at hl 0 rfl) ?_
  refine lv_sipush (v := 200) hx hb dX2_init_32 (by decide) ?_
  refine va_newa (atype := .int) (ty := .int) (a0 := (200, .inl (fun _ => 0))) hx hb (hts (.arrayClass .int) (mo_X2_init 3 rfl)) rfl hK hP hD hS hA (fun _ => rfl) (by decide) (N' := 200) (by decide) (by decide) (Nat.le_of_ble_eq_true rfl) (Nat.le_of_ble_eq_true rfl) dX2_init_35 (fun q_7 k_8 H hK hP hD hS => ?_)
  have hP : va_P D vwCl [(h, .inr (2, [.null, .ref q_1, .ref q_3, .ref q_5, .null, .null, .null, .null, .null, .null, .int 0, .int 0, .int 0])), (q_1, .inl (k_2, 200, .inl (fun _ => 0))), (q_3, .inl (k_4, 200, .inl (fun _ => 0))), (q_5, .inl (k_6, 200, .inl (fun _ => 0))), (q_7, .inl (k_8, 200, .inl (fun _ => 0)))] H := hP
  have hD : va_D A [(h, .inr (2, [.null, .ref q_1, .ref q_3, .ref q_5, .null, .null, .null, .null, .null, .null, .int 0, .int 0, .int 0])), (q_1, .inl (k_2, 200, .inl (fun _ => 0))), (q_3, .inl (k_4, 200, .inl (fun _ => 0))), (q_5, .inl (k_6, 200, .inl (fun _ => 0))), (q_7, .inl (k_8, 200, .inl (fun _ => 0)))] := hD
  have hK : va_K D vwCl [(k_2, .int), (k_4, .int), (k_6, .int), (k_8, .int)] s := hK
  refine W.widen (k := 4) (n := 800) (by decide) (Nat.le_of_ble_eq_true rfl) ?_
  refine va_putF (D := D) (ci := 2) (v := .ref q_7) (ty := .array .int) (C := RX2) (T := TX2) (N := 13) hx hb hts hiX2 tyX2 tyX2_ok nmX2 hown hK hP hD hS 0 rfl rfl 4 (by decide) (hts (.fieldLink RX2 21 "DynamicLogicProver$Decision" "states" "[I") (mo_X2_init 7 rfl)) (fun _ h9 => h9) rfl hin rfl (tyX2_ok 4 (by decide)) rfl rfl (Nat.le_of_ble_eq_true rfl) dX2_init_37 (fun H locs hP hD hS => ?_)
  have hP : va_P D vwCl [(h, .inr (2, [.null, .ref q_1, .ref q_3, .ref q_5, .ref q_7, .null, .null, .null, .null, .null, .int 0, .int 0, .int 0])), (q_1, .inl (k_2, 200, .inl (fun _ => 0))), (q_3, .inl (k_4, 200, .inl (fun _ => 0))), (q_5, .inl (k_6, 200, .inl (fun _ => 0))), (q_7, .inl (k_8, 200, .inl (fun _ => 0)))] H := hP
  have hD : va_D A [(h, .inr (2, [.null, .ref q_1, .ref q_3, .ref q_5, .ref q_7, .null, .null, .null, .null, .null, .int 0, .int 0, .int 0])), (q_1, .inl (k_2, 200, .inl (fun _ => 0))), (q_3, .inl (k_4, 200, .inl (fun _ => 0))), (q_5, .inl (k_6, 200, .inl (fun _ => 0))), (q_7, .inl (k_8, 200, .inl (fun _ => 0)))] := hD
  refine lv_aload_n hx hb dX2_init_40 rfl (lv_at hl 0 rfl) ?_
  refine lv_sipush (v := 200) hx hb dX2_init_41 (by decide) ?_
  refine va_newa (atype := .int) (ty := .int) (a0 := (200, .inl (fun _ => 0))) hx hb (hts (.arrayClass .int) (mo_X2_init 3 rfl)) rfl hK hP hD hS hA (fun _ => rfl) (by decide) (N' := 200) (by decide) (by decide) (Nat.le_of_ble_eq_true rfl) (Nat.le_of_ble_eq_true rfl) dX2_init_44 (fun q_9 k_10 H hK hP hD hS => ?_)
  have hP : va_P D vwCl [(h, .inr (2, [.null, .ref q_1, .ref q_3, .ref q_5, .ref q_7, .null, .null, .null, .null, .null, .int 0, .int 0, .int 0])), (q_1, .inl (k_2, 200, .inl (fun _ => 0))), (q_3, .inl (k_4, 200, .inl (fun _ => 0))), (q_5, .inl (k_6, 200, .inl (fun _ => 0))), (q_7, .inl (k_8, 200, .inl (fun _ => 0))), (q_9, .inl (k_10, 200, .inl (fun _ => 0)))] H := hP
  have hD : va_D A [(h, .inr (2, [.null, .ref q_1, .ref q_3, .ref q_5, .ref q_7, .null, .null, .null, .null, .null, .int 0, .int 0, .int 0])), (q_1, .inl (k_2, 200, .inl (fun _ => 0))), (q_3, .inl (k_4, 200, .inl (fun _ => 0))), (q_5, .inl (k_6, 200, .inl (fun _ => 0))), (q_7, .inl (k_8, 200, .inl (fun _ => 0))), (q_9, .inl (k_10, 200, .inl (fun _ => 0)))] := hD
  have hK : va_K D vwCl [(k_2, .int), (k_4, .int), (k_6, .int), (k_8, .int), (k_10, .int)] s := hK
  refine W.widen (k := 5) (n := 1000) (by decide) (Nat.le_of_ble_eq_true rfl) ?_
  refine va_putF (D := D) (ci := 2) (v := .ref q_9) (ty := .array .int) (C := RX2) (T := TX2) (N := 13) hx hb hts hiX2 tyX2 tyX2_ok nmX2 hown hK hP hD hS 0 rfl rfl 5 (by decide) (hts (.fieldLink RX2 24 "DynamicLogicProver$Decision" "group" "[I") (mo_X2_init 8 rfl)) (fun _ h9 => h9) rfl hin rfl (tyX2_ok 5 (by decide)) rfl rfl (Nat.le_of_ble_eq_true rfl) dX2_init_46 (fun H locs hP hD hS => ?_)
  have hP : va_P D vwCl [(h, .inr (2, [.null, .ref q_1, .ref q_3, .ref q_5, .ref q_7, .ref q_9, .null, .null, .null, .null, .int 0, .int 0, .int 0])), (q_1, .inl (k_2, 200, .inl (fun _ => 0))), (q_3, .inl (k_4, 200, .inl (fun _ => 0))), (q_5, .inl (k_6, 200, .inl (fun _ => 0))), (q_7, .inl (k_8, 200, .inl (fun _ => 0))), (q_9, .inl (k_10, 200, .inl (fun _ => 0)))] H := hP
  have hD : va_D A [(h, .inr (2, [.null, .ref q_1, .ref q_3, .ref q_5, .ref q_7, .ref q_9, .null, .null, .null, .null, .int 0, .int 0, .int 0])), (q_1, .inl (k_2, 200, .inl (fun _ => 0))), (q_3, .inl (k_4, 200, .inl (fun _ => 0))), (q_5, .inl (k_6, 200, .inl (fun _ => 0))), (q_7, .inl (k_8, 200, .inl (fun _ => 0))), (q_9, .inl (k_10, 200, .inl (fun _ => 0)))] := hD
  refine lv_aload_n hx hb dX2_init_49 rfl (lv_at hl 0 rfl) ?_
  refine lv_sipush (v := 800) hx hb dX2_init_50 (by decide) ?_
  refine va_newa (atype := .long) (ty := .long) (a0 := (800, .inr (.inl (fun _ => 0)))) hx hb (hts (.arrayClass .long) (mo_X2_init 9 rfl)) rfl hK hP hD hS hA (fun _ => rfl) (by decide) (N' := 800) (by decide) (by decide) (Nat.le_of_ble_eq_true rfl) (Nat.le_of_ble_eq_true rfl) dX2_init_53 (fun q_11 k_12 H hK hP hD hS => ?_)
  have hP : va_P D vwCl [(h, .inr (2, [.null, .ref q_1, .ref q_3, .ref q_5, .ref q_7, .ref q_9, .null, .null, .null, .null, .int 0, .int 0, .int 0])), (q_1, .inl (k_2, 200, .inl (fun _ => 0))), (q_3, .inl (k_4, 200, .inl (fun _ => 0))), (q_5, .inl (k_6, 200, .inl (fun _ => 0))), (q_7, .inl (k_8, 200, .inl (fun _ => 0))), (q_9, .inl (k_10, 200, .inl (fun _ => 0))), (q_11, .inl (k_12, 800, .inr (.inl (fun _ => 0))))] H := hP
  have hD : va_D A [(h, .inr (2, [.null, .ref q_1, .ref q_3, .ref q_5, .ref q_7, .ref q_9, .null, .null, .null, .null, .int 0, .int 0, .int 0])), (q_1, .inl (k_2, 200, .inl (fun _ => 0))), (q_3, .inl (k_4, 200, .inl (fun _ => 0))), (q_5, .inl (k_6, 200, .inl (fun _ => 0))), (q_7, .inl (k_8, 200, .inl (fun _ => 0))), (q_9, .inl (k_10, 200, .inl (fun _ => 0))), (q_11, .inl (k_12, 800, .inr (.inl (fun _ => 0))))] := hD
  have hK : va_K D vwCl [(k_2, .int), (k_4, .int), (k_6, .int), (k_8, .int), (k_10, .int), (k_12, .long)] s := hK
  refine W.widen (k := 6) (n := 1800) (by decide) (Nat.le_of_ble_eq_true rfl) ?_
  refine va_putF (D := D) (ci := 2) (v := .ref q_11) (ty := .array .long) (C := RX2) (T := TX2) (N := 13) hx hb hts hiX2 tyX2 tyX2_ok nmX2 hown hK hP hD hS 0 rfl rfl 6 (by decide) (hts (.fieldLink RX2 27 "DynamicLogicProver$Decision" "values" "[J") (mo_X2_init 10 rfl)) (fun _ h9 => h9) rfl hin rfl (tyX2_ok 6 (by decide)) rfl rfl (Nat.le_of_ble_eq_true rfl) dX2_init_55 (fun H locs hP hD hS => ?_)
  have hP : va_P D vwCl [(h, .inr (2, [.null, .ref q_1, .ref q_3, .ref q_5, .ref q_7, .ref q_9, .ref q_11, .null, .null, .null, .int 0, .int 0, .int 0])), (q_1, .inl (k_2, 200, .inl (fun _ => 0))), (q_3, .inl (k_4, 200, .inl (fun _ => 0))), (q_5, .inl (k_6, 200, .inl (fun _ => 0))), (q_7, .inl (k_8, 200, .inl (fun _ => 0))), (q_9, .inl (k_10, 200, .inl (fun _ => 0))), (q_11, .inl (k_12, 800, .inr (.inl (fun _ => 0))))] H := hP
  have hD : va_D A [(h, .inr (2, [.null, .ref q_1, .ref q_3, .ref q_5, .ref q_7, .ref q_9, .ref q_11, .null, .null, .null, .int 0, .int 0, .int 0])), (q_1, .inl (k_2, 200, .inl (fun _ => 0))), (q_3, .inl (k_4, 200, .inl (fun _ => 0))), (q_5, .inl (k_6, 200, .inl (fun _ => 0))), (q_7, .inl (k_8, 200, .inl (fun _ => 0))), (q_9, .inl (k_10, 200, .inl (fun _ => 0))), (q_11, .inl (k_12, 800, .inr (.inl (fun _ => 0))))] := hD
  refine lv_aload_n hx hb dX2_init_58 rfl (lv_at hl 0 rfl) ?_
  refine lv_sipush (v := 800) hx hb dX2_init_59 (by decide) ?_
  refine va_newa (atype := .long) (ty := .long) (a0 := (800, .inr (.inl (fun _ => 0)))) hx hb (hts (.arrayClass .long) (mo_X2_init 9 rfl)) rfl hK hP hD hS hA (fun _ => rfl) (by decide) (N' := 800) (by decide) (by decide) (Nat.le_of_ble_eq_true rfl) (Nat.le_of_ble_eq_true rfl) dX2_init_62 (fun q_13 k_14 H hK hP hD hS => ?_)
  have hP : va_P D vwCl [(h, .inr (2, [.null, .ref q_1, .ref q_3, .ref q_5, .ref q_7, .ref q_9, .ref q_11, .null, .null, .null, .int 0, .int 0, .int 0])), (q_1, .inl (k_2, 200, .inl (fun _ => 0))), (q_3, .inl (k_4, 200, .inl (fun _ => 0))), (q_5, .inl (k_6, 200, .inl (fun _ => 0))), (q_7, .inl (k_8, 200, .inl (fun _ => 0))), (q_9, .inl (k_10, 200, .inl (fun _ => 0))), (q_11, .inl (k_12, 800, .inr (.inl (fun _ => 0)))), (q_13, .inl (k_14, 800, .inr (.inl (fun _ => 0))))] H := hP
  have hD : va_D A [(h, .inr (2, [.null, .ref q_1, .ref q_3, .ref q_5, .ref q_7, .ref q_9, .ref q_11, .null, .null, .null, .int 0, .int 0, .int 0])), (q_1, .inl (k_2, 200, .inl (fun _ => 0))), (q_3, .inl (k_4, 200, .inl (fun _ => 0))), (q_5, .inl (k_6, 200, .inl (fun _ => 0))), (q_7, .inl (k_8, 200, .inl (fun _ => 0))), (q_9, .inl (k_10, 200, .inl (fun _ => 0))), (q_11, .inl (k_12, 800, .inr (.inl (fun _ => 0)))), (q_13, .inl (k_14, 800, .inr (.inl (fun _ => 0))))] := hD
  have hK : va_K D vwCl [(k_2, .int), (k_4, .int), (k_6, .int), (k_8, .int), (k_10, .int), (k_12, .long), (k_14, .long)] s := hK
  refine W.widen (k := 7) (n := 2600) (by decide) (Nat.le_of_ble_eq_true rfl) ?_
  refine va_putF (D := D) (ci := 2) (v := .ref q_13) (ty := .array .long) (C := RX2) (T := TX2) (N := 13) hx hb hts hiX2 tyX2 tyX2_ok nmX2 hown hK hP hD hS 0 rfl rfl 7 (by decide) (hts (.fieldLink RX2 31 "DynamicLogicProver$Decision" "refuted" "[J") (mo_X2_init 11 rfl)) (fun _ h9 => h9) rfl hin rfl (tyX2_ok 7 (by decide)) rfl rfl (Nat.le_of_ble_eq_true rfl) dX2_init_64 (fun H locs hP hD hS => ?_)
  have hP : va_P D vwCl [(h, .inr (2, [.null, .ref q_1, .ref q_3, .ref q_5, .ref q_7, .ref q_9, .ref q_11, .ref q_13, .null, .null, .int 0, .int 0, .int 0])), (q_1, .inl (k_2, 200, .inl (fun _ => 0))), (q_3, .inl (k_4, 200, .inl (fun _ => 0))), (q_5, .inl (k_6, 200, .inl (fun _ => 0))), (q_7, .inl (k_8, 200, .inl (fun _ => 0))), (q_9, .inl (k_10, 200, .inl (fun _ => 0))), (q_11, .inl (k_12, 800, .inr (.inl (fun _ => 0)))), (q_13, .inl (k_14, 800, .inr (.inl (fun _ => 0))))] H := hP
  have hD : va_D A [(h, .inr (2, [.null, .ref q_1, .ref q_3, .ref q_5, .ref q_7, .ref q_9, .ref q_11, .ref q_13, .null, .null, .int 0, .int 0, .int 0])), (q_1, .inl (k_2, 200, .inl (fun _ => 0))), (q_3, .inl (k_4, 200, .inl (fun _ => 0))), (q_5, .inl (k_6, 200, .inl (fun _ => 0))), (q_7, .inl (k_8, 200, .inl (fun _ => 0))), (q_9, .inl (k_10, 200, .inl (fun _ => 0))), (q_11, .inl (k_12, 800, .inr (.inl (fun _ => 0)))), (q_13, .inl (k_14, 800, .inr (.inl (fun _ => 0))))] := hD
  refine lv_aload_n hx hb dX2_init_67 rfl (lv_at hl 0 rfl) ?_
  refine lv_sipush (v := 3072) hx hb dX2_init_68 (by decide) ?_
  refine va_newa (atype := .long) (ty := .long) (a0 := (3072, .inr (.inl (fun _ => 0)))) hx hb (hts (.arrayClass .long) (mo_X2_init 9 rfl)) rfl hK hP hD hS hA (fun _ => rfl) (by decide) (N' := 3072) (by decide) (by decide) (Nat.le_of_ble_eq_true rfl) (Nat.le_of_ble_eq_true rfl) dX2_init_71 (fun q_15 k_16 H hK hP hD hS => ?_)
  have hP : va_P D vwCl [(h, .inr (2, [.null, .ref q_1, .ref q_3, .ref q_5, .ref q_7, .ref q_9, .ref q_11, .ref q_13, .null, .null, .int 0, .int 0, .int 0])), (q_1, .inl (k_2, 200, .inl (fun _ => 0))), (q_3, .inl (k_4, 200, .inl (fun _ => 0))), (q_5, .inl (k_6, 200, .inl (fun _ => 0))), (q_7, .inl (k_8, 200, .inl (fun _ => 0))), (q_9, .inl (k_10, 200, .inl (fun _ => 0))), (q_11, .inl (k_12, 800, .inr (.inl (fun _ => 0)))), (q_13, .inl (k_14, 800, .inr (.inl (fun _ => 0)))), (q_15, .inl (k_16, 3072, .inr (.inl (fun _ => 0))))] H := hP
  have hD : va_D A [(h, .inr (2, [.null, .ref q_1, .ref q_3, .ref q_5, .ref q_7, .ref q_9, .ref q_11, .ref q_13, .null, .null, .int 0, .int 0, .int 0])), (q_1, .inl (k_2, 200, .inl (fun _ => 0))), (q_3, .inl (k_4, 200, .inl (fun _ => 0))), (q_5, .inl (k_6, 200, .inl (fun _ => 0))), (q_7, .inl (k_8, 200, .inl (fun _ => 0))), (q_9, .inl (k_10, 200, .inl (fun _ => 0))), (q_11, .inl (k_12, 800, .inr (.inl (fun _ => 0)))), (q_13, .inl (k_14, 800, .inr (.inl (fun _ => 0)))), (q_15, .inl (k_16, 3072, .inr (.inl (fun _ => 0))))] := hD
  have hK : va_K D vwCl [(k_2, .int), (k_4, .int), (k_6, .int), (k_8, .int), (k_10, .int), (k_12, .long), (k_14, .long), (k_16, .long)] s := hK
  refine W.widen (k := 8) (n := 5672) (by decide) (Nat.le_of_ble_eq_true rfl) ?_
  refine va_putF (D := D) (ci := 2) (v := .ref q_15) (ty := .array .long) (C := RX2) (T := TX2) (N := 13) hx hb hts hiX2 tyX2 tyX2_ok nmX2 hown hK hP hD hS 0 rfl rfl 8 (by decide) (hts (.fieldLink RX2 34 "DynamicLogicProver$Decision" "onward" "[J") (mo_X2_init 12 rfl)) (fun _ h9 => h9) rfl hin rfl (tyX2_ok 8 (by decide)) rfl rfl (Nat.le_of_ble_eq_true rfl) dX2_init_73 (fun H locs hP hD hS => ?_)
  have hP : va_P D vwCl [(h, .inr (2, [.null, .ref q_1, .ref q_3, .ref q_5, .ref q_7, .ref q_9, .ref q_11, .ref q_13, .ref q_15, .null, .int 0, .int 0, .int 0])), (q_1, .inl (k_2, 200, .inl (fun _ => 0))), (q_3, .inl (k_4, 200, .inl (fun _ => 0))), (q_5, .inl (k_6, 200, .inl (fun _ => 0))), (q_7, .inl (k_8, 200, .inl (fun _ => 0))), (q_9, .inl (k_10, 200, .inl (fun _ => 0))), (q_11, .inl (k_12, 800, .inr (.inl (fun _ => 0)))), (q_13, .inl (k_14, 800, .inr (.inl (fun _ => 0)))), (q_15, .inl (k_16, 3072, .inr (.inl (fun _ => 0))))] H := hP
  have hD : va_D A [(h, .inr (2, [.null, .ref q_1, .ref q_3, .ref q_5, .ref q_7, .ref q_9, .ref q_11, .ref q_13, .ref q_15, .null, .int 0, .int 0, .int 0])), (q_1, .inl (k_2, 200, .inl (fun _ => 0))), (q_3, .inl (k_4, 200, .inl (fun _ => 0))), (q_5, .inl (k_6, 200, .inl (fun _ => 0))), (q_7, .inl (k_8, 200, .inl (fun _ => 0))), (q_9, .inl (k_10, 200, .inl (fun _ => 0))), (q_11, .inl (k_12, 800, .inr (.inl (fun _ => 0)))), (q_13, .inl (k_14, 800, .inr (.inl (fun _ => 0)))), (q_15, .inl (k_16, 3072, .inr (.inl (fun _ => 0))))] := hD
  refine lv_aload_n hx hb dX2_init_76 rfl (lv_at hl 0 rfl) ?_
  refine lv_iconst (v := 4) hx hb dX2_init_77 (by decide) ?_
  refine va_newa (atype := .long) (ty := .long) (a0 := (4, .inr (.inl (fun _ => 0)))) hx hb (hts (.arrayClass .long) (mo_X2_init 9 rfl)) rfl hK hP hD hS hA (fun _ => rfl) (by decide) (N' := 4) (by decide) (by decide) (Nat.le_of_ble_eq_true rfl) (Nat.le_of_ble_eq_true rfl) dX2_init_78 (fun q_17 k_18 H hK hP hD hS => ?_)
  have hP : va_P D vwCl [(h, .inr (2, [.null, .ref q_1, .ref q_3, .ref q_5, .ref q_7, .ref q_9, .ref q_11, .ref q_13, .ref q_15, .null, .int 0, .int 0, .int 0])), (q_1, .inl (k_2, 200, .inl (fun _ => 0))), (q_3, .inl (k_4, 200, .inl (fun _ => 0))), (q_5, .inl (k_6, 200, .inl (fun _ => 0))), (q_7, .inl (k_8, 200, .inl (fun _ => 0))), (q_9, .inl (k_10, 200, .inl (fun _ => 0))), (q_11, .inl (k_12, 800, .inr (.inl (fun _ => 0)))), (q_13, .inl (k_14, 800, .inr (.inl (fun _ => 0)))), (q_15, .inl (k_16, 3072, .inr (.inl (fun _ => 0)))), (q_17, .inl (k_18, 4, .inr (.inl (fun _ => 0))))] H := hP
  have hD : va_D A [(h, .inr (2, [.null, .ref q_1, .ref q_3, .ref q_5, .ref q_7, .ref q_9, .ref q_11, .ref q_13, .ref q_15, .null, .int 0, .int 0, .int 0])), (q_1, .inl (k_2, 200, .inl (fun _ => 0))), (q_3, .inl (k_4, 200, .inl (fun _ => 0))), (q_5, .inl (k_6, 200, .inl (fun _ => 0))), (q_7, .inl (k_8, 200, .inl (fun _ => 0))), (q_9, .inl (k_10, 200, .inl (fun _ => 0))), (q_11, .inl (k_12, 800, .inr (.inl (fun _ => 0)))), (q_13, .inl (k_14, 800, .inr (.inl (fun _ => 0)))), (q_15, .inl (k_16, 3072, .inr (.inl (fun _ => 0)))), (q_17, .inl (k_18, 4, .inr (.inl (fun _ => 0))))] := hD
  have hK : va_K D vwCl [(k_2, .int), (k_4, .int), (k_6, .int), (k_8, .int), (k_10, .int), (k_12, .long), (k_14, .long), (k_16, .long), (k_18, .long)] s := hK
  refine W.widen (k := 9) (n := 5676) (by decide) (Nat.le_of_ble_eq_true rfl) ?_
  refine va_putF (D := D) (ci := 2) (v := .ref q_17) (ty := .array .long) (C := RX2) (T := TX2) (N := 13) hx hb hts hiX2 tyX2 tyX2_ok nmX2 hown hK hP hD hS 0 rfl rfl 9 (by decide) (hts (.fieldLink RX2 37 "DynamicLogicProver$Decision" "alive" "[J") (mo_X2_init 13 rfl)) (fun _ h9 => h9) rfl hin rfl (tyX2_ok 9 (by decide)) rfl rfl (Nat.le_of_ble_eq_true rfl) dX2_init_80 (fun H locs hP hD hS => ?_)
  have hP : va_P D vwCl [(h, .inr (2, [.null, .ref q_1, .ref q_3, .ref q_5, .ref q_7, .ref q_9, .ref q_11, .ref q_13, .ref q_15, .ref q_17, .int 0, .int 0, .int 0])), (q_1, .inl (k_2, 200, .inl (fun _ => 0))), (q_3, .inl (k_4, 200, .inl (fun _ => 0))), (q_5, .inl (k_6, 200, .inl (fun _ => 0))), (q_7, .inl (k_8, 200, .inl (fun _ => 0))), (q_9, .inl (k_10, 200, .inl (fun _ => 0))), (q_11, .inl (k_12, 800, .inr (.inl (fun _ => 0)))), (q_13, .inl (k_14, 800, .inr (.inl (fun _ => 0)))), (q_15, .inl (k_16, 3072, .inr (.inl (fun _ => 0)))), (q_17, .inl (k_18, 4, .inr (.inl (fun _ => 0))))] H := hP
  have hD : va_D A [(h, .inr (2, [.null, .ref q_1, .ref q_3, .ref q_5, .ref q_7, .ref q_9, .ref q_11, .ref q_13, .ref q_15, .ref q_17, .int 0, .int 0, .int 0])), (q_1, .inl (k_2, 200, .inl (fun _ => 0))), (q_3, .inl (k_4, 200, .inl (fun _ => 0))), (q_5, .inl (k_6, 200, .inl (fun _ => 0))), (q_7, .inl (k_8, 200, .inl (fun _ => 0))), (q_9, .inl (k_10, 200, .inl (fun _ => 0))), (q_11, .inl (k_12, 800, .inr (.inl (fun _ => 0)))), (q_13, .inl (k_14, 800, .inr (.inl (fun _ => 0)))), (q_15, .inl (k_16, 3072, .inr (.inl (fun _ => 0)))), (q_17, .inl (k_18, 4, .inr (.inl (fun _ => 0))))] := hD
  refine lv_aload_n hx hb dX2_init_83 rfl (lv_at hl 0 rfl) ?_
  refine lv_aload_n hx hb dX2_init_84 rfl (lv_at hl 1 rfl) ?_
  refine va_putF (D := D) (ci := 2) (v := .ref po) (ty := .object "DynamicLogicProver$Closure") (C := RX2) (T := TX2) (N := 13) hx hb hts hiX2 tyX2 tyX2_ok nmX2 hown hK hP hD hS 0 rfl rfl 0 (by decide) (hts (.fieldLink RX2 40 "DynamicLogicProver$Decision" "closure" "LDynamicLogicProver$Closure;") (mo_X2_init 14 rfl)) (fun _ h9 => h9) rfl hin rfl (tyX2_ok 0 (by decide)) rfl rfl (Nat.le_of_ble_eq_true rfl) dX2_init_85 (fun H locs hP hD hS => ?_)
  have hP : va_P D vwCl [(h, .inr (2, [.ref po, .ref q_1, .ref q_3, .ref q_5, .ref q_7, .ref q_9, .ref q_11, .ref q_13, .ref q_15, .ref q_17, .int 0, .int 0, .int 0])), (q_1, .inl (k_2, 200, .inl (fun _ => 0))), (q_3, .inl (k_4, 200, .inl (fun _ => 0))), (q_5, .inl (k_6, 200, .inl (fun _ => 0))), (q_7, .inl (k_8, 200, .inl (fun _ => 0))), (q_9, .inl (k_10, 200, .inl (fun _ => 0))), (q_11, .inl (k_12, 800, .inr (.inl (fun _ => 0)))), (q_13, .inl (k_14, 800, .inr (.inl (fun _ => 0)))), (q_15, .inl (k_16, 3072, .inr (.inl (fun _ => 0)))), (q_17, .inl (k_18, 4, .inr (.inl (fun _ => 0))))] H := hP
  have hD : va_D A [(h, .inr (2, [.ref po, .ref q_1, .ref q_3, .ref q_5, .ref q_7, .ref q_9, .ref q_11, .ref q_13, .ref q_15, .ref q_17, .int 0, .int 0, .int 0])), (q_1, .inl (k_2, 200, .inl (fun _ => 0))), (q_3, .inl (k_4, 200, .inl (fun _ => 0))), (q_5, .inl (k_6, 200, .inl (fun _ => 0))), (q_7, .inl (k_8, 200, .inl (fun _ => 0))), (q_9, .inl (k_10, 200, .inl (fun _ => 0))), (q_11, .inl (k_12, 800, .inr (.inl (fun _ => 0)))), (q_13, .inl (k_14, 800, .inr (.inl (fun _ => 0)))), (q_15, .inl (k_16, 3072, .inr (.inl (fun _ => 0)))), (q_17, .inl (k_18, 4, .inr (.inl (fun _ => 0))))] := hD
  have hP9 := hP.sub (ws' := []) [] rfl
  have hD9 := hD.sub (ws' := []) [] (by decide) rfl
  have hK9 := hK.sub (tys' := []) [] rfl
  refine W.widen (k := 9) (n := 5676) (Nat.le_of_ble_eq_true rfl) (Nat.le_of_ble_eq_true rfl) ?_
  exact W.vret hx hb hr (fun tZ htZ hW => ⟨⟨(), rfl, trivial, by rw [htZ]; exact hP9, va_K.moved hW.alike hK9, hD9⟩, hS.F htZ⟩) hS.2.2 dX2_init_88
theorem dX8_init_0 : decode cX8_init 0 = .ok (.aload_n 0, 1) := by decide +kernel
theorem dX8_init_1 : decode cX8_init 1 = .ok (.invokespecial 3, 3) := by decide +kernel
theorem dX8_init_4 : decode cX8_init 4 = .ok (.aload_n 0, 1) := by decide +kernel
theorem dX8_init_5 : decode cX8_init 5 = .ok (.sipush 1200, 3) := by decide +kernel
theorem dX8_init_8 : decode cX8_init 8 = .ok (.newarray .long, 2) := by decide +kernel
theorem dX8_init_10 : decode cX8_init 10 = .ok (.putfield 9, 3) := by decide +kernel
theorem dX8_init_13 : decode cX8_init 13 = .ok (.aload_n 0, 1) := by decide +kernel
theorem dX8_init_14 : decode cX8_init 14 = .ok (.bipush 64, 2) := by decide +kernel
theorem dX8_init_16 : decode cX8_init 16 = .ok (.newarray .int, 2) := by decide +kernel
theorem dX8_init_18 : decode cX8_init 18 = .ok (.putfield 15, 3) := by decide +kernel
theorem dX8_init_21 : decode cX8_init 21 = .ok (.aload_n 0, 1) := by decide +kernel
theorem dX8_init_22 : decode cX8_init 22 = .ok (.bipush 6, 2) := by decide +kernel
theorem dX8_init_24 : decode cX8_init 24 = .ok (.newarray .long, 2) := by decide +kernel
theorem dX8_init_26 : decode cX8_init 26 = .ok (.putfield 19, 3) := by decide +kernel
theorem dX8_init_29 : decode cX8_init 29 = .ok (.aload_n 0, 1) := by decide +kernel
theorem dX8_init_30 : decode cX8_init 30 = .ok (.bipush 6, 2) := by decide +kernel
theorem dX8_init_32 : decode cX8_init 32 = .ok (.newarray .long, 2) := by decide +kernel
theorem dX8_init_34 : decode cX8_init 34 = .ok (.putfield 22, 3) := by decide +kernel
theorem dX8_init_37 : decode cX8_init 37 = .ok (.aload_n 0, 1) := by decide +kernel
theorem dX8_init_38 : decode cX8_init 38 = .ok (.sipush 384, 3) := by decide +kernel
theorem dX8_init_41 : decode cX8_init 41 = .ok (.newarray .int, 2) := by decide +kernel
theorem dX8_init_43 : decode cX8_init 43 = .ok (.putfield 25, 3) := by decide +kernel
theorem dX8_init_46 : decode cX8_init 46 = .ok (.aload_n 0, 1) := by decide +kernel
theorem dX8_init_47 : decode cX8_init 47 = .ok (.bipush 54, 2) := by decide +kernel
theorem dX8_init_49 : decode cX8_init 49 = .ok (.newarray .long, 2) := by decide +kernel
theorem dX8_init_51 : decode cX8_init 51 = .ok (.putfield 28, 3) := by decide +kernel
theorem dX8_init_54 : decode cX8_init 54 = .ok (.aload_n 0, 1) := by decide +kernel
theorem dX8_init_55 : decode cX8_init 55 = .ok (.sipush 4096, 3) := by decide +kernel
theorem dX8_init_58 : decode cX8_init 58 = .ok (.newarray .long, 2) := by decide +kernel
theorem dX8_init_60 : decode cX8_init 60 = .ok (.putfield 31, 3) := by decide +kernel
theorem dX8_init_63 : decode cX8_init 63 = .ok (.aload_n 0, 1) := by decide +kernel
theorem dX8_init_64 : decode cX8_init 64 = .ok (.sipush 4096, 3) := by decide +kernel
theorem dX8_init_67 : decode cX8_init 67 = .ok (.newarray .int, 2) := by decide +kernel
theorem dX8_init_69 : decode cX8_init 69 = .ok (.putfield 34, 3) := by decide +kernel
theorem dX8_init_72 : decode cX8_init 72 = .ok (.aload_n 0, 1) := by decide +kernel
theorem dX8_init_73 : decode cX8_init 73 = .ok (.sipush 4096, 3) := by decide +kernel
theorem dX8_init_76 : decode cX8_init 76 = .ok (.newarray .long, 2) := by decide +kernel
theorem dX8_init_78 : decode cX8_init 78 = .ok (.putfield 37, 3) := by decide +kernel
theorem dX8_init_81 : decode cX8_init 81 = .ok (.aload_n 0, 1) := by decide +kernel
theorem dX8_init_82 : decode cX8_init 82 = .ok (.aload_n 1, 1) := by decide +kernel
theorem dX8_init_83 : decode cX8_init 83 = .ok (.putfield 40, 3) := by decide +kernel
theorem dX8_init_86 : decode cX8_init 86 = .ok (.aload_n 0, 1) := by decide +kernel
theorem dX8_init_87 : decode cX8_init 87 = .ok (.aload_n 2, 1) := by decide +kernel
theorem dX8_init_88 : decode cX8_init 88 = .ok (.putfield 44, 3) := by decide +kernel
theorem dX8_init_91 : decode cX8_init 91 = .ok (.aload_n 0, 1) := by decide +kernel
theorem dX8_init_92 : decode cX8_init 92 = .ok (.aload_n 3, 1) := by decide +kernel
theorem dX8_init_93 : decode cX8_init 93 = .ok (.putfield 48, 3) := by decide +kernel
theorem dX8_init_96 : decode cX8_init 96 = .ok (.aload_n 0, 1) := by decide +kernel
theorem dX8_init_97 : decode cX8_init 97 = .ok (.aload 4, 2) := by decide +kernel
theorem dX8_init_99 : decode cX8_init 99 = .ok (.putfield 52, 3) := by decide +kernel
theorem dX8_init_102 : decode cX8_init 102 = .ok (.return_, 1) := by decide +kernel
def wo_X8_init : List Cond := [.methodLink RX8 3 objectInit, .instanceMethod objectInit, .code objectInit ⟨#[0xb1]⟩ 1 none, .arrayClass .long, .fieldLink RX8 9 "DynamicLogicProver$Runs" "outcomes" "[J", .arrayClass .int, .fieldLink RX8 15 "DynamicLogicProver$Runs" "states" "[I", .fieldLink RX8 19 "DynamicLogicProver$Runs" "front" "[J", .fieldLink RX8 22 "DynamicLogicProver$Runs" "next" "[J", .fieldLink RX8 25 "DynamicLogicProver$Runs" "distances" "[I", .fieldLink RX8 28 "DynamicLogicProver$Runs" "useful" "[J", .fieldLink RX8 31 "DynamicLogicProver$Runs" "keyMasks" "[J", .fieldLink RX8 34 "DynamicLogicProver$Runs" "keyPlaces" "[I", .fieldLink RX8 37 "DynamicLogicProver$Runs" "answers" "[J", .fieldLink RX8 40 "DynamicLogicProver$Runs" "pool" "LDynamicLogicProver$Pool;", .fieldLink RX8 44 "DynamicLogicProver$Runs" "closure" "LDynamicLogicProver$Closure;", .fieldLink RX8 48 "DynamicLogicProver$Runs" "truth" "LDynamicLogicProver$Truth;", .fieldLink RX8 52 "DynamicLogicProver$Runs" "model" "LDynamicLogicProver$Model;"]
def wd_X8_init : List Cond := .code yX8_init cX8_init 5 none :: (wo_X8_init ++ (wsX80 ++ ([] : List Cond)))
theorem mo_X8_init {w : Cond} (i : Nat) (h : wo_X8_init[i]? = some w) : w ∈ wd_X8_init := List.mem_cons_of_mem _ (List.mem_append_left _ (List.mem_of_getElem? h))
theorem mb_X8_init_0 : ∀ w ∈ wsX80, w ∈ wd_X8_init := fun w h => List.mem_cons_of_mem _ (List.mem_append_right _ (List.mem_append_left _ h))
theorem hd_X8_init : yX8_init.cls ≠ "java/lang/invoke/MethodHandle" ∧ yX8_init.cls ≠ "java/lang/invoke/VarHandle" ∧ (parseMethodDescriptor yX8_init.desc).map (fun d => d.parameters.length) = some 4 := by decide +kernel
set_option maxRecDepth 20000 in
theorem gw_X8_init : wd_X8_init.all goodWord = true := by decide +kernel
abbrev qc_X8_init (D : va_G) (h : Nat) (po : Nat) (o2 : Nat) (o3 : Nat) (o4 : Nat) (A : Nat → Prop) : Array Value → State → Outcome → State → Prop := va_Qv (fun (uZ : Unit) => True) (fun uZ tZ => kc_pos D A [] [] tZ) A
set_option maxHeartbeats 4000000 in
set_option maxRecDepth 100000 in
theorem ct_X8_init (l : Launch) (D : va_G) (h : Nat) (po : Nat) (o2 : Nat) (o3 : Nat) (o4 : Nat) (sz : Nat)  : Met l yX8_init wd_X8_init ({ frames := 1, cells := 9, slots := 14002, locals := 12 }) (va_Pc [.ref h, .ref po, .ref o2, .ref o3, .ref o4] (kc_pre D [] [(h, .inr (8, [.null, .null, .null, .null, .null, .null, .null, .null, .null, .null, .null, .null, .null, .int 0, .int 0]))] sz)) (qc_X8_init D h po o2 o3 o4 (va_A [(h, .inr (8, [.null, .null, .null, .null, .null, .null, .null, .null, .null, .null, .null, .null, .null, .int 0, .int 0]))] sz)) 9 14002 (va_A [(h, .inr (8, [.null, .null, .null, .null, .null, .null, .null, .null, .null, .null, .null, .null, .null, .int 0, .int 0]))] sz) := by
  refine Met.ofW (cc := cX8_init) (maxL := 5) (ret := none) (by decide) rfl ?_
  intro p e s m args below meth c s₁ B hml hv
  obtain ⟨rfl, hsz, hP, hK, hN, hD0⟩ := hv
  have hx := B.exec
  have hb := B.bytes
  have hr := B.returns
  have hts := atoms_spec (ws := wd_X8_init) B.pre
  have hown : s.vm.findClass RX8 = some m.cls := findClass_of_methodNamed B.named
  have hlocks := B.notSynchronized
  have hin : meth.name = "<init>" := (name_of_methodNamed B.named B.method).1
  subst hsz
  have hD := hD0.self (sz := s.heap.size)
  generalize hAe : va_A [(h, .inr (8, [.null, .null, .null, .null, .null, .null, .null, .null, .null, .null, .null, .null, .null, .int 0, .int 0]))] s.heap.size = A at hD ⊢
  have hA : ∀ q : Nat, s.heap.size ≤ q → A q := fun q h => by rw [← hAe]; exact Or.inr h
  have hS : va_S A s.heap s.heap [] := va_S.rf
  have hiX8 : ∀ w ∈ wsX80, w ∈ wd_X8_init := mb_X8_init_0
  have hl := lv_entry ([.ref h, .ref po, .ref o2, .ref o3, .ref o4]) (n := 5) (Nat.le_of_ble_eq_true rfl)
  rw [lg_entry_eq]
  generalize (lg_sl ([.ref h, .ref po, .ref o2, .ref o3, .ref o4]) ++ List.replicate (5 - (lg_sl ([.ref h, .ref po, .ref o2, .ref o3, .ref o4])).length) Slot.unset).toArray = ls at hl ⊢
  have hl : lv_has ls 5 [(0, .ref h), (1, .ref po), (2, .ref o2), (3, .ref o3), (4, .ref o4)] := hl
  refine lv_aload_n hx hb dX8_init_0 rfl (lv_at hl 0 rfl) ?_
  refine W.objInit hx hb hown (hts (.methodLink RX8 3 objectInit) (mo_X8_init 0 rfl)) (hts (.instanceMethod objectInit) (mo_X8_init 1 rfl)) (hts (.code objectInit ⟨#[0xb1]⟩ 1 none) (mo_X8_init 2 rfl)) rfl (by rw [hml]; exact hl.1) rfl dX8_init_1 (Nat.le_of_ble_eq_true rfl) (Nat.le_of_ble_eq_true rfl) ?_
  refine W.eq (g2 := F0 m 4 ls []) rfl ?_
  refine lv_aload_n hx hb dX8_init_4 rfl (lv_at hl 0 rfl) ?_
  refine lv_sipush (v := 1200) hx hb dX8_init_5 (by decide) ?_
  refine va_newa (atype := .long) (ty := .long) (a0 := (1200, .inr (.inl (fun _ => 0)))) hx hb (hts (.arrayClass .long) (mo_X8_init 3 rfl)) rfl hK hP hD hS hA (fun _ => rfl) (by decide) (N' := 1200) (by decide) (by decide) (Nat.le_of_ble_eq_true rfl) (Nat.le_of_ble_eq_true rfl) dX8_init_8 (fun q_1 k_2 H hK hP hD hS => ?_)
  have hP : va_P D vwCl [(h, .inr (8, [.null, .null, .null, .null, .null, .null, .null, .null, .null, .null, .null, .null, .null, .int 0, .int 0])), (q_1, .inl (k_2, 1200, .inr (.inl (fun _ => 0))))] H := hP
  have hD : va_D A [(h, .inr (8, [.null, .null, .null, .null, .null, .null, .null, .null, .null, .null, .null, .null, .null, .int 0, .int 0])), (q_1, .inl (k_2, 1200, .inr (.inl (fun _ => 0))))] := hD
  have hK : va_K D vwCl [(k_2, .long)] s := hK
  refine W.widen (k := 1) (n := 1200) (by decide) (Nat.le_of_ble_eq_true rfl) ?_
  refine va_putF (D := D) (ci := 8) (v := .ref q_1) (ty := .array .long) (C := RX8) (T := TX8) (N := 15) hx hb hts hiX8 tyX8 tyX8_ok nmX8 hown hK hP hD hS 0 rfl rfl 4 (by decide) (hts (.fieldLink RX8 9 "DynamicLogicProver$Runs" "outcomes" "[J") (mo_X8_init 4 rfl)) (fun _ h9 => h9) rfl hin rfl (tyX8_ok 4 (by decide)) rfl rfl (Nat.le_of_ble_eq_true rfl) dX8_init_10 (fun H locs hP hD hS => ?_)
  have hP : va_P D vwCl [(h, .inr (8, [.null, .null, .null, .null, .ref q_1, .null, .null, .null, .null, .null, .null, .null, .null, .int 0, .int 0])), (q_1, .inl (k_2, 1200, .inr (.inl (fun _ => 0))))] H := hP
  have hD : va_D A [(h, .inr (8, [.null, .null, .null, .null, .ref q_1, .null, .null, .null, .null, .null, .null, .null, .null, .int 0, .int 0])), (q_1, .inl (k_2, 1200, .inr (.inl (fun _ => 0))))] := hD
  refine lv_aload_n hx hb dX8_init_13 rfl (lv_at hl 0 rfl) ?_
  refine lv_bipush (v := 64) hx hb dX8_init_14 (by decide) ?_
  refine va_newa (atype := .int) (ty := .int) (a0 := (64, .inl (fun _ => 0))) hx hb (hts (.arrayClass .int) (mo_X8_init 5 rfl)) rfl hK hP hD hS hA (fun _ => rfl) (by decide) (N' := 64) (by decide) (by decide) (Nat.le_of_ble_eq_true rfl) (Nat.le_of_ble_eq_true rfl) dX8_init_16 (fun q_3 k_4 H hK hP hD hS => ?_)
  have hP : va_P D vwCl [(h, .inr (8, [.null, .null, .null, .null, .ref q_1, .null, .null, .null, .null, .null, .null, .null, .null, .int 0, .int 0])), (q_1, .inl (k_2, 1200, .inr (.inl (fun _ => 0)))), (q_3, .inl (k_4, 64, .inl (fun _ => 0)))] H := hP
  have hD : va_D A [(h, .inr (8, [.null, .null, .null, .null, .ref q_1, .null, .null, .null, .null, .null, .null, .null, .null, .int 0, .int 0])), (q_1, .inl (k_2, 1200, .inr (.inl (fun _ => 0)))), (q_3, .inl (k_4, 64, .inl (fun _ => 0)))] := hD
  have hK : va_K D vwCl [(k_2, .long), (k_4, .int)] s := hK
  refine W.widen (k := 2) (n := 1264) (by decide) (Nat.le_of_ble_eq_true rfl) ?_
  refine va_putF (D := D) (ci := 8) (v := .ref q_3) (ty := .array .int) (C := RX8) (T := TX8) (N := 15) hx hb hts hiX8 tyX8 tyX8_ok nmX8 hown hK hP hD hS 0 rfl rfl 5 (by decide) (hts (.fieldLink RX8 15 "DynamicLogicProver$Runs" "states" "[I") (mo_X8_init 6 rfl)) (fun _ h9 => h9) rfl hin rfl (tyX8_ok 5 (by decide)) rfl rfl (Nat.le_of_ble_eq_true rfl) dX8_init_18 (fun H locs hP hD hS => ?_)
  have hP : va_P D vwCl [(h, .inr (8, [.null, .null, .null, .null, .ref q_1, .ref q_3, .null, .null, .null, .null, .null, .null, .null, .int 0, .int 0])), (q_1, .inl (k_2, 1200, .inr (.inl (fun _ => 0)))), (q_3, .inl (k_4, 64, .inl (fun _ => 0)))] H := hP
  have hD : va_D A [(h, .inr (8, [.null, .null, .null, .null, .ref q_1, .ref q_3, .null, .null, .null, .null, .null, .null, .null, .int 0, .int 0])), (q_1, .inl (k_2, 1200, .inr (.inl (fun _ => 0)))), (q_3, .inl (k_4, 64, .inl (fun _ => 0)))] := hD
  refine lv_aload_n hx hb dX8_init_21 rfl (lv_at hl 0 rfl) ?_
  refine lv_bipush (v := 6) hx hb dX8_init_22 (by decide) ?_
  refine va_newa (atype := .long) (ty := .long) (a0 := (6, .inr (.inl (fun _ => 0)))) hx hb (hts (.arrayClass .long) (mo_X8_init 3 rfl)) rfl hK hP hD hS hA (fun _ => rfl) (by decide) (N' := 6) (by decide) (by decide) (Nat.le_of_ble_eq_true rfl) (Nat.le_of_ble_eq_true rfl) dX8_init_24 (fun q_5 k_6 H hK hP hD hS => ?_)
  have hP : va_P D vwCl [(h, .inr (8, [.null, .null, .null, .null, .ref q_1, .ref q_3, .null, .null, .null, .null, .null, .null, .null, .int 0, .int 0])), (q_1, .inl (k_2, 1200, .inr (.inl (fun _ => 0)))), (q_3, .inl (k_4, 64, .inl (fun _ => 0))), (q_5, .inl (k_6, 6, .inr (.inl (fun _ => 0))))] H := hP
  have hD : va_D A [(h, .inr (8, [.null, .null, .null, .null, .ref q_1, .ref q_3, .null, .null, .null, .null, .null, .null, .null, .int 0, .int 0])), (q_1, .inl (k_2, 1200, .inr (.inl (fun _ => 0)))), (q_3, .inl (k_4, 64, .inl (fun _ => 0))), (q_5, .inl (k_6, 6, .inr (.inl (fun _ => 0))))] := hD
  have hK : va_K D vwCl [(k_2, .long), (k_4, .int), (k_6, .long)] s := hK
  refine W.widen (k := 3) (n := 1270) (by decide) (Nat.le_of_ble_eq_true rfl) ?_
  refine va_putF (D := D) (ci := 8) (v := .ref q_5) (ty := .array .long) (C := RX8) (T := TX8) (N := 15) hx hb hts hiX8 tyX8 tyX8_ok nmX8 hown hK hP hD hS 0 rfl rfl 6 (by decide) (hts (.fieldLink RX8 19 "DynamicLogicProver$Runs" "front" "[J") (mo_X8_init 7 rfl)) (fun _ h9 => h9) rfl hin rfl (tyX8_ok 6 (by decide)) rfl rfl (Nat.le_of_ble_eq_true rfl) dX8_init_26 (fun H locs hP hD hS => ?_)
  have hP : va_P D vwCl [(h, .inr (8, [.null, .null, .null, .null, .ref q_1, .ref q_3, .ref q_5, .null, .null, .null, .null, .null, .null, .int 0, .int 0])), (q_1, .inl (k_2, 1200, .inr (.inl (fun _ => 0)))), (q_3, .inl (k_4, 64, .inl (fun _ => 0))), (q_5, .inl (k_6, 6, .inr (.inl (fun _ => 0))))] H := hP
  have hD : va_D A [(h, .inr (8, [.null, .null, .null, .null, .ref q_1, .ref q_3, .ref q_5, .null, .null, .null, .null, .null, .null, .int 0, .int 0])), (q_1, .inl (k_2, 1200, .inr (.inl (fun _ => 0)))), (q_3, .inl (k_4, 64, .inl (fun _ => 0))), (q_5, .inl (k_6, 6, .inr (.inl (fun _ => 0))))] := hD
  refine lv_aload_n hx hb dX8_init_29 rfl (lv_at hl 0 rfl) ?_
  refine lv_bipush (v := 6) hx hb dX8_init_30 (by decide) ?_
  refine va_newa (atype := .long) (ty := .long) (a0 := (6, .inr (.inl (fun _ => 0)))) hx hb (hts (.arrayClass .long) (mo_X8_init 3 rfl)) rfl hK hP hD hS hA (fun _ => rfl) (by decide) (N' := 6) (by decide) (by decide) (Nat.le_of_ble_eq_true rfl) (Nat.le_of_ble_eq_true rfl) dX8_init_32 (fun q_7 k_8 H hK hP hD hS => ?_)
  have hP : va_P D vwCl [(h, .inr (8, [.null, .null, .null, .null, .ref q_1, .ref q_3, .ref q_5, .null, .null, .null, .null, .null, .null, .int 0, .int 0])), (q_1, .inl (k_2, 1200, .inr (.inl (fun _ => 0)))), (q_3, .inl (k_4, 64, .inl (fun _ => 0))), (q_5, .inl (k_6, 6, .inr (.inl (fun _ => 0)))), (q_7, .inl (k_8, 6, .inr (.inl (fun _ => 0))))] H := hP
  have hD : va_D A [(h, .inr (8, [.null, .null, .null, .null, .ref q_1, .ref q_3, .ref q_5, .null, .null, .null, .null, .null, .null, .int 0, .int 0])), (q_1, .inl (k_2, 1200, .inr (.inl (fun _ => 0)))), (q_3, .inl (k_4, 64, .inl (fun _ => 0))), (q_5, .inl (k_6, 6, .inr (.inl (fun _ => 0)))), (q_7, .inl (k_8, 6, .inr (.inl (fun _ => 0))))] := hD
  have hK : va_K D vwCl [(k_2, .long), (k_4, .int), (k_6, .long), (k_8, .long)] s := hK
  refine W.widen (k := 4) (n := 1276) (by decide) (Nat.le_of_ble_eq_true rfl) ?_
  refine va_putF (D := D) (ci := 8) (v := .ref q_7) (ty := .array .long) (C := RX8) (T := TX8) (N := 15) hx hb hts hiX8 tyX8 tyX8_ok nmX8 hown hK hP hD hS 0 rfl rfl 7 (by decide) (hts (.fieldLink RX8 22 "DynamicLogicProver$Runs" "next" "[J") (mo_X8_init 8 rfl)) (fun _ h9 => h9) rfl hin rfl (tyX8_ok 7 (by decide)) rfl rfl (Nat.le_of_ble_eq_true rfl) dX8_init_34 (fun H locs hP hD hS => ?_)
  have hP : va_P D vwCl [(h, .inr (8, [.null, .null, .null, .null, .ref q_1, .ref q_3, .ref q_5, .ref q_7, .null, .null, .null, .null, .null, .int 0, .int 0])), (q_1, .inl (k_2, 1200, .inr (.inl (fun _ => 0)))), (q_3, .inl (k_4, 64, .inl (fun _ => 0))), (q_5, .inl (k_6, 6, .inr (.inl (fun _ => 0)))), (q_7, .inl (k_8, 6, .inr (.inl (fun _ => 0))))] H := hP
  have hD : va_D A [(h, .inr (8, [.null, .null, .null, .null, .ref q_1, .ref q_3, .ref q_5, .ref q_7, .null, .null, .null, .null, .null, .int 0, .int 0])), (q_1, .inl (k_2, 1200, .inr (.inl (fun _ => 0)))), (q_3, .inl (k_4, 64, .inl (fun _ => 0))), (q_5, .inl (k_6, 6, .inr (.inl (fun _ => 0)))), (q_7, .inl (k_8, 6, .inr (.inl (fun _ => 0))))] := hD
  refine lv_aload_n hx hb dX8_init_37 rfl (lv_at hl 0 rfl) ?_
  refine lv_sipush (v := 384) hx hb dX8_init_38 (by decide) ?_
  refine va_newa (atype := .int) (ty := .int) (a0 := (384, .inl (fun _ => 0))) hx hb (hts (.arrayClass .int) (mo_X8_init 5 rfl)) rfl hK hP hD hS hA (fun _ => rfl) (by decide) (N' := 384) (by decide) (by decide) (Nat.le_of_ble_eq_true rfl) (Nat.le_of_ble_eq_true rfl) dX8_init_41 (fun q_9 k_10 H hK hP hD hS => ?_)
  have hP : va_P D vwCl [(h, .inr (8, [.null, .null, .null, .null, .ref q_1, .ref q_3, .ref q_5, .ref q_7, .null, .null, .null, .null, .null, .int 0, .int 0])), (q_1, .inl (k_2, 1200, .inr (.inl (fun _ => 0)))), (q_3, .inl (k_4, 64, .inl (fun _ => 0))), (q_5, .inl (k_6, 6, .inr (.inl (fun _ => 0)))), (q_7, .inl (k_8, 6, .inr (.inl (fun _ => 0)))), (q_9, .inl (k_10, 384, .inl (fun _ => 0)))] H := hP
  have hD : va_D A [(h, .inr (8, [.null, .null, .null, .null, .ref q_1, .ref q_3, .ref q_5, .ref q_7, .null, .null, .null, .null, .null, .int 0, .int 0])), (q_1, .inl (k_2, 1200, .inr (.inl (fun _ => 0)))), (q_3, .inl (k_4, 64, .inl (fun _ => 0))), (q_5, .inl (k_6, 6, .inr (.inl (fun _ => 0)))), (q_7, .inl (k_8, 6, .inr (.inl (fun _ => 0)))), (q_9, .inl (k_10, 384, .inl (fun _ => 0)))] := hD
  have hK : va_K D vwCl [(k_2, .long), (k_4, .int), (k_6, .long), (k_8, .long), (k_10, .int)] s := hK
  refine W.widen (k := 5) (n := 1660) (by decide) (Nat.le_of_ble_eq_true rfl) ?_
  refine va_putF (D := D) (ci := 8) (v := .ref q_9) (ty := .array .int) (C := RX8) (T := TX8) (N := 15) hx hb hts hiX8 tyX8 tyX8_ok nmX8 hown hK hP hD hS 0 rfl rfl 8 (by decide) (hts (.fieldLink RX8 25 "DynamicLogicProver$Runs" "distances" "[I") (mo_X8_init 9 rfl)) (fun _ h9 => h9) rfl hin rfl (tyX8_ok 8 (by decide)) rfl rfl (Nat.le_of_ble_eq_true rfl) dX8_init_43 (fun H locs hP hD hS => ?_)
  have hP : va_P D vwCl [(h, .inr (8, [.null, .null, .null, .null, .ref q_1, .ref q_3, .ref q_5, .ref q_7, .ref q_9, .null, .null, .null, .null, .int 0, .int 0])), (q_1, .inl (k_2, 1200, .inr (.inl (fun _ => 0)))), (q_3, .inl (k_4, 64, .inl (fun _ => 0))), (q_5, .inl (k_6, 6, .inr (.inl (fun _ => 0)))), (q_7, .inl (k_8, 6, .inr (.inl (fun _ => 0)))), (q_9, .inl (k_10, 384, .inl (fun _ => 0)))] H := hP
  have hD : va_D A [(h, .inr (8, [.null, .null, .null, .null, .ref q_1, .ref q_3, .ref q_5, .ref q_7, .ref q_9, .null, .null, .null, .null, .int 0, .int 0])), (q_1, .inl (k_2, 1200, .inr (.inl (fun _ => 0)))), (q_3, .inl (k_4, 64, .inl (fun _ => 0))), (q_5, .inl (k_6, 6, .inr (.inl (fun _ => 0)))), (q_7, .inl (k_8, 6, .inr (.inl (fun _ => 0)))), (q_9, .inl (k_10, 384, .inl (fun _ => 0)))] := hD
  refine lv_aload_n hx hb dX8_init_46 rfl (lv_at hl 0 rfl) ?_
  refine lv_bipush (v := 54) hx hb dX8_init_47 (by decide) ?_
  refine va_newa (atype := .long) (ty := .long) (a0 := (54, .inr (.inl (fun _ => 0)))) hx hb (hts (.arrayClass .long) (mo_X8_init 3 rfl)) rfl hK hP hD hS hA (fun _ => rfl) (by decide) (N' := 54) (by decide) (by decide) (Nat.le_of_ble_eq_true rfl) (Nat.le_of_ble_eq_true rfl) dX8_init_49 (fun q_11 k_12 H hK hP hD hS => ?_)
  have hP : va_P D vwCl [(h, .inr (8, [.null, .null, .null, .null, .ref q_1, .ref q_3, .ref q_5, .ref q_7, .ref q_9, .null, .null, .null, .null, .int 0, .int 0])), (q_1, .inl (k_2, 1200, .inr (.inl (fun _ => 0)))), (q_3, .inl (k_4, 64, .inl (fun _ => 0))), (q_5, .inl (k_6, 6, .inr (.inl (fun _ => 0)))), (q_7, .inl (k_8, 6, .inr (.inl (fun _ => 0)))), (q_9, .inl (k_10, 384, .inl (fun _ => 0))), (q_11, .inl (k_12, 54, .inr (.inl (fun _ => 0))))] H := hP
  have hD : va_D A [(h, .inr (8, [.null, .null, .null, .null, .ref q_1, .ref q_3, .ref q_5, .ref q_7, .ref q_9, .null, .null, .null, .null, .int 0, .int 0])), (q_1, .inl (k_2, 1200, .inr (.inl (fun _ => 0)))), (q_3, .inl (k_4, 64, .inl (fun _ => 0))), (q_5, .inl (k_6, 6, .inr (.inl (fun _ => 0)))), (q_7, .inl (k_8, 6, .inr (.inl (fun _ => 0)))), (q_9, .inl (k_10, 384, .inl (fun _ => 0))), (q_11, .inl (k_12, 54, .inr (.inl (fun _ => 0))))] := hD
  have hK : va_K D vwCl [(k_2, .long), (k_4, .int), (k_6, .long), (k_8, .long), (k_10, .int), (k_12, .long)] s := hK
  refine W.widen (k := 6) (n := 1714) (by decide) (Nat.le_of_ble_eq_true rfl) ?_
  refine va_putF (D := D) (ci := 8) (v := .ref q_11) (ty := .array .long) (C := RX8) (T := TX8) (N := 15) hx hb hts hiX8 tyX8 tyX8_ok nmX8 hown hK hP hD hS 0 rfl rfl 9 (by decide) (hts (.fieldLink RX8 28 "DynamicLogicProver$Runs" "useful" "[J") (mo_X8_init 10 rfl)) (fun _ h9 => h9) rfl hin rfl (tyX8_ok 9 (by decide)) rfl rfl (Nat.le_of_ble_eq_true rfl) dX8_init_51 (fun H locs hP hD hS => ?_)
  have hP : va_P D vwCl [(h, .inr (8, [.null, .null, .null, .null, .ref q_1, .ref q_3, .ref q_5, .ref q_7, .ref q_9, .ref q_11, .null, .null, .null, .int 0, .int 0])), (q_1, .inl (k_2, 1200, .inr (.inl (fun _ => 0)))), (q_3, .inl (k_4, 64, .inl (fun _ => 0))), (q_5, .inl (k_6, 6, .inr (.inl (fun _ => 0)))), (q_7, .inl (k_8, 6, .inr (.inl (fun _ => 0)))), (q_9, .inl (k_10, 384, .inl (fun _ => 0))), (q_11, .inl (k_12, 54, .inr (.inl (fun _ => 0))))] H := hP
  have hD : va_D A [(h, .inr (8, [.null, .null, .null, .null, .ref q_1, .ref q_3, .ref q_5, .ref q_7, .ref q_9, .ref q_11, .null, .null, .null, .int 0, .int 0])), (q_1, .inl (k_2, 1200, .inr (.inl (fun _ => 0)))), (q_3, .inl (k_4, 64, .inl (fun _ => 0))), (q_5, .inl (k_6, 6, .inr (.inl (fun _ => 0)))), (q_7, .inl (k_8, 6, .inr (.inl (fun _ => 0)))), (q_9, .inl (k_10, 384, .inl (fun _ => 0))), (q_11, .inl (k_12, 54, .inr (.inl (fun _ => 0))))] := hD
  refine lv_aload_n hx hb dX8_init_54 rfl (lv_at hl 0 rfl) ?_
  refine lv_sipush (v := 4096) hx hb dX8_init_55 (by decide) ?_
  refine va_newa (atype := .long) (ty := .long) (a0 := (4096, .inr (.inl (fun _ => 0)))) hx hb (hts (.arrayClass .long) (mo_X8_init 3 rfl)) rfl hK hP hD hS hA (fun _ => rfl) (by decide) (N' := 4096) (by decide) (by decide) (Nat.le_of_ble_eq_true rfl) (Nat.le_of_ble_eq_true rfl) dX8_init_58 (fun q_13 k_14 H hK hP hD hS => ?_)
  have hP : va_P D vwCl [(h, .inr (8, [.null, .null, .null, .null, .ref q_1, .ref q_3, .ref q_5, .ref q_7, .ref q_9, .ref q_11, .null, .null, .null, .int 0, .int 0])), (q_1, .inl (k_2, 1200, .inr (.inl (fun _ => 0)))), (q_3, .inl (k_4, 64, .inl (fun _ => 0))), (q_5, .inl (k_6, 6, .inr (.inl (fun _ => 0)))), (q_7, .inl (k_8, 6, .inr (.inl (fun _ => 0)))), (q_9, .inl (k_10, 384, .inl (fun _ => 0))), (q_11, .inl (k_12, 54, .inr (.inl (fun _ => 0)))), (q_13, .inl (k_14, 4096, .inr (.inl (fun _ => 0))))] H := hP
  have hD : va_D A [(h, .inr (8, [.null, .null, .null, .null, .ref q_1, .ref q_3, .ref q_5, .ref q_7, .ref q_9, .ref q_11, .null, .null, .null, .int 0, .int 0])), (q_1, .inl (k_2, 1200, .inr (.inl (fun _ => 0)))), (q_3, .inl (k_4, 64, .inl (fun _ => 0))), (q_5, .inl (k_6, 6, .inr (.inl (fun _ => 0)))), (q_7, .inl (k_8, 6, .inr (.inl (fun _ => 0)))), (q_9, .inl (k_10, 384, .inl (fun _ => 0))), (q_11, .inl (k_12, 54, .inr (.inl (fun _ => 0)))), (q_13, .inl (k_14, 4096, .inr (.inl (fun _ => 0))))] := hD
  have hK : va_K D vwCl [(k_2, .long), (k_4, .int), (k_6, .long), (k_8, .long), (k_10, .int), (k_12, .long), (k_14, .long)] s := hK
  refine W.widen (k := 7) (n := 5810) (by decide) (Nat.le_of_ble_eq_true rfl) ?_
  refine va_putF (D := D) (ci := 8) (v := .ref q_13) (ty := .array .long) (C := RX8) (T := TX8) (N := 15) hx hb hts hiX8 tyX8 tyX8_ok nmX8 hown hK hP hD hS 0 rfl rfl 10 (by decide) (hts (.fieldLink RX8 31 "DynamicLogicProver$Runs" "keyMasks" "[J") (mo_X8_init 11 rfl)) (fun _ h9 => h9) rfl hin rfl (tyX8_ok 10 (by decide)) rfl rfl (Nat.le_of_ble_eq_true rfl) dX8_init_60 (fun H locs hP hD hS => ?_)
  have hP : va_P D vwCl [(h, .inr (8, [.null, .null, .null, .null, .ref q_1, .ref q_3, .ref q_5, .ref q_7, .ref q_9, .ref q_11, .ref q_13, .null, .null, .int 0, .int 0])), (q_1, .inl (k_2, 1200, .inr (.inl (fun _ => 0)))), (q_3, .inl (k_4, 64, .inl (fun _ => 0))), (q_5, .inl (k_6, 6, .inr (.inl (fun _ => 0)))), (q_7, .inl (k_8, 6, .inr (.inl (fun _ => 0)))), (q_9, .inl (k_10, 384, .inl (fun _ => 0))), (q_11, .inl (k_12, 54, .inr (.inl (fun _ => 0)))), (q_13, .inl (k_14, 4096, .inr (.inl (fun _ => 0))))] H := hP
  have hD : va_D A [(h, .inr (8, [.null, .null, .null, .null, .ref q_1, .ref q_3, .ref q_5, .ref q_7, .ref q_9, .ref q_11, .ref q_13, .null, .null, .int 0, .int 0])), (q_1, .inl (k_2, 1200, .inr (.inl (fun _ => 0)))), (q_3, .inl (k_4, 64, .inl (fun _ => 0))), (q_5, .inl (k_6, 6, .inr (.inl (fun _ => 0)))), (q_7, .inl (k_8, 6, .inr (.inl (fun _ => 0)))), (q_9, .inl (k_10, 384, .inl (fun _ => 0))), (q_11, .inl (k_12, 54, .inr (.inl (fun _ => 0)))), (q_13, .inl (k_14, 4096, .inr (.inl (fun _ => 0))))] := hD
  refine lv_aload_n hx hb dX8_init_63 rfl (lv_at hl 0 rfl) ?_
  refine lv_sipush (v := 4096) hx hb dX8_init_64 (by decide) ?_
  refine va_newa (atype := .int) (ty := .int) (a0 := (4096, .inl (fun _ => 0))) hx hb (hts (.arrayClass .int) (mo_X8_init 5 rfl)) rfl hK hP hD hS hA (fun _ => rfl) (by decide) (N' := 4096) (by decide) (by decide) (Nat.le_of_ble_eq_true rfl) (Nat.le_of_ble_eq_true rfl) dX8_init_67 (fun q_15 k_16 H hK hP hD hS => ?_)
  have hP : va_P D vwCl [(h, .inr (8, [.null, .null, .null, .null, .ref q_1, .ref q_3, .ref q_5, .ref q_7, .ref q_9, .ref q_11, .ref q_13, .null, .null, .int 0, .int 0])), (q_1, .inl (k_2, 1200, .inr (.inl (fun _ => 0)))), (q_3, .inl (k_4, 64, .inl (fun _ => 0))), (q_5, .inl (k_6, 6, .inr (.inl (fun _ => 0)))), (q_7, .inl (k_8, 6, .inr (.inl (fun _ => 0)))), (q_9, .inl (k_10, 384, .inl (fun _ => 0))), (q_11, .inl (k_12, 54, .inr (.inl (fun _ => 0)))), (q_13, .inl (k_14, 4096, .inr (.inl (fun _ => 0)))), (q_15, .inl (k_16, 4096, .inl (fun _ => 0)))] H := hP
  have hD : va_D A [(h, .inr (8, [.null, .null, .null, .null, .ref q_1, .ref q_3, .ref q_5, .ref q_7, .ref q_9, .ref q_11, .ref q_13, .null, .null, .int 0, .int 0])), (q_1, .inl (k_2, 1200, .inr (.inl (fun _ => 0)))), (q_3, .inl (k_4, 64, .inl (fun _ => 0))), (q_5, .inl (k_6, 6, .inr (.inl (fun _ => 0)))), (q_7, .inl (k_8, 6, .inr (.inl (fun _ => 0)))), (q_9, .inl (k_10, 384, .inl (fun _ => 0))), (q_11, .inl (k_12, 54, .inr (.inl (fun _ => 0)))), (q_13, .inl (k_14, 4096, .inr (.inl (fun _ => 0)))), (q_15, .inl (k_16, 4096, .inl (fun _ => 0)))] := hD
  have hK : va_K D vwCl [(k_2, .long), (k_4, .int), (k_6, .long), (k_8, .long), (k_10, .int), (k_12, .long), (k_14, .long), (k_16, .int)] s := hK
  refine W.widen (k := 8) (n := 9906) (by decide) (Nat.le_of_ble_eq_true rfl) ?_
  refine va_putF (D := D) (ci := 8) (v := .ref q_15) (ty := .array .int) (C := RX8) (T := TX8) (N := 15) hx hb hts hiX8 tyX8 tyX8_ok nmX8 hown hK hP hD hS 0 rfl rfl 11 (by decide) (hts (.fieldLink RX8 34 "DynamicLogicProver$Runs" "keyPlaces" "[I") (mo_X8_init 12 rfl)) (fun _ h9 => h9) rfl hin rfl (tyX8_ok 11 (by decide)) rfl rfl (Nat.le_of_ble_eq_true rfl) dX8_init_69 (fun H locs hP hD hS => ?_)
  have hP : va_P D vwCl [(h, .inr (8, [.null, .null, .null, .null, .ref q_1, .ref q_3, .ref q_5, .ref q_7, .ref q_9, .ref q_11, .ref q_13, .ref q_15, .null, .int 0, .int 0])), (q_1, .inl (k_2, 1200, .inr (.inl (fun _ => 0)))), (q_3, .inl (k_4, 64, .inl (fun _ => 0))), (q_5, .inl (k_6, 6, .inr (.inl (fun _ => 0)))), (q_7, .inl (k_8, 6, .inr (.inl (fun _ => 0)))), (q_9, .inl (k_10, 384, .inl (fun _ => 0))), (q_11, .inl (k_12, 54, .inr (.inl (fun _ => 0)))), (q_13, .inl (k_14, 4096, .inr (.inl (fun _ => 0)))), (q_15, .inl (k_16, 4096, .inl (fun _ => 0)))] H := hP
  have hD : va_D A [(h, .inr (8, [.null, .null, .null, .null, .ref q_1, .ref q_3, .ref q_5, .ref q_7, .ref q_9, .ref q_11, .ref q_13, .ref q_15, .null, .int 0, .int 0])), (q_1, .inl (k_2, 1200, .inr (.inl (fun _ => 0)))), (q_3, .inl (k_4, 64, .inl (fun _ => 0))), (q_5, .inl (k_6, 6, .inr (.inl (fun _ => 0)))), (q_7, .inl (k_8, 6, .inr (.inl (fun _ => 0)))), (q_9, .inl (k_10, 384, .inl (fun _ => 0))), (q_11, .inl (k_12, 54, .inr (.inl (fun _ => 0)))), (q_13, .inl (k_14, 4096, .inr (.inl (fun _ => 0)))), (q_15, .inl (k_16, 4096, .inl (fun _ => 0)))] := hD
  refine lv_aload_n hx hb dX8_init_72 rfl (lv_at hl 0 rfl) ?_
  refine lv_sipush (v := 4096) hx hb dX8_init_73 (by decide) ?_
  refine va_newa (atype := .long) (ty := .long) (a0 := (4096, .inr (.inl (fun _ => 0)))) hx hb (hts (.arrayClass .long) (mo_X8_init 3 rfl)) rfl hK hP hD hS hA (fun _ => rfl) (by decide) (N' := 4096) (by decide) (by decide) (Nat.le_of_ble_eq_true rfl) (Nat.le_of_ble_eq_true rfl) dX8_init_76 (fun q_17 k_18 H hK hP hD hS => ?_)
  have hP : va_P D vwCl [(h, .inr (8, [.null, .null, .null, .null, .ref q_1, .ref q_3, .ref q_5, .ref q_7, .ref q_9, .ref q_11, .ref q_13, .ref q_15, .null, .int 0, .int 0])), (q_1, .inl (k_2, 1200, .inr (.inl (fun _ => 0)))), (q_3, .inl (k_4, 64, .inl (fun _ => 0))), (q_5, .inl (k_6, 6, .inr (.inl (fun _ => 0)))), (q_7, .inl (k_8, 6, .inr (.inl (fun _ => 0)))), (q_9, .inl (k_10, 384, .inl (fun _ => 0))), (q_11, .inl (k_12, 54, .inr (.inl (fun _ => 0)))), (q_13, .inl (k_14, 4096, .inr (.inl (fun _ => 0)))), (q_15, .inl (k_16, 4096, .inl (fun _ => 0))), (q_17, .inl (k_18, 4096, .inr (.inl (fun _ => 0))))] H := hP
  have hD : va_D A [(h, .inr (8, [.null, .null, .null, .null, .ref q_1, .ref q_3, .ref q_5, .ref q_7, .ref q_9, .ref q_11, .ref q_13, .ref q_15, .null, .int 0, .int 0])), (q_1, .inl (k_2, 1200, .inr (.inl (fun _ => 0)))), (q_3, .inl (k_4, 64, .inl (fun _ => 0))), (q_5, .inl (k_6, 6, .inr (.inl (fun _ => 0)))), (q_7, .inl (k_8, 6, .inr (.inl (fun _ => 0)))), (q_9, .inl (k_10, 384, .inl (fun _ => 0))), (q_11, .inl (k_12, 54, .inr (.inl (fun _ => 0)))), (q_13, .inl (k_14, 4096, .inr (.inl (fun _ => 0)))), (q_15, .inl (k_16, 4096, .inl (fun _ => 0))), (q_17, .inl (k_18, 4096, .inr (.inl (fun _ => 0))))] := hD
  have hK : va_K D vwCl [(k_2, .long), (k_4, .int), (k_6, .long), (k_8, .long), (k_10, .int), (k_12, .long), (k_14, .long), (k_16, .int), (k_18, .long)] s := hK
  refine W.widen (k := 9) (n := 14002) (by decide) (Nat.le_of_ble_eq_true rfl) ?_
  refine va_putF (D := D) (ci := 8) (v := .ref q_17) (ty := .array .long) (C := RX8) (T := TX8) (N := 15) hx hb hts hiX8 tyX8 tyX8_ok nmX8 hown hK hP hD hS 0 rfl rfl 12 (by decide) (hts (.fieldLink RX8 37 "DynamicLogicProver$Runs" "answers" "[J") (mo_X8_init 13 rfl)) (fun _ h9 => h9) rfl hin rfl (tyX8_ok 12 (by decide)) rfl rfl (Nat.le_of_ble_eq_true rfl) dX8_init_78 (fun H locs hP hD hS => ?_)
  have hP : va_P D vwCl [(h, .inr (8, [.null, .null, .null, .null, .ref q_1, .ref q_3, .ref q_5, .ref q_7, .ref q_9, .ref q_11, .ref q_13, .ref q_15, .ref q_17, .int 0, .int 0])), (q_1, .inl (k_2, 1200, .inr (.inl (fun _ => 0)))), (q_3, .inl (k_4, 64, .inl (fun _ => 0))), (q_5, .inl (k_6, 6, .inr (.inl (fun _ => 0)))), (q_7, .inl (k_8, 6, .inr (.inl (fun _ => 0)))), (q_9, .inl (k_10, 384, .inl (fun _ => 0))), (q_11, .inl (k_12, 54, .inr (.inl (fun _ => 0)))), (q_13, .inl (k_14, 4096, .inr (.inl (fun _ => 0)))), (q_15, .inl (k_16, 4096, .inl (fun _ => 0))), (q_17, .inl (k_18, 4096, .inr (.inl (fun _ => 0))))] H := hP
  have hD : va_D A [(h, .inr (8, [.null, .null, .null, .null, .ref q_1, .ref q_3, .ref q_5, .ref q_7, .ref q_9, .ref q_11, .ref q_13, .ref q_15, .ref q_17, .int 0, .int 0])), (q_1, .inl (k_2, 1200, .inr (.inl (fun _ => 0)))), (q_3, .inl (k_4, 64, .inl (fun _ => 0))), (q_5, .inl (k_6, 6, .inr (.inl (fun _ => 0)))), (q_7, .inl (k_8, 6, .inr (.inl (fun _ => 0)))), (q_9, .inl (k_10, 384, .inl (fun _ => 0))), (q_11, .inl (k_12, 54, .inr (.inl (fun _ => 0)))), (q_13, .inl (k_14, 4096, .inr (.inl (fun _ => 0)))), (q_15, .inl (k_16, 4096, .inl (fun _ => 0))), (q_17, .inl (k_18, 4096, .inr (.inl (fun _ => 0))))] := hD
  refine lv_aload_n hx hb dX8_init_81 rfl (lv_at hl 0 rfl) ?_
  refine lv_aload_n hx hb dX8_init_82 rfl (lv_at hl 1 rfl) ?_
  refine va_putF (D := D) (ci := 8) (v := .ref po) (ty := .object "DynamicLogicProver$Pool") (C := RX8) (T := TX8) (N := 15) hx hb hts hiX8 tyX8 tyX8_ok nmX8 hown hK hP hD hS 0 rfl rfl 0 (by decide) (hts (.fieldLink RX8 40 "DynamicLogicProver$Runs" "pool" "LDynamicLogicProver$Pool;") (mo_X8_init 14 rfl)) (fun _ h9 => h9) rfl hin rfl (tyX8_ok 0 (by decide)) rfl rfl (Nat.le_of_ble_eq_true rfl) dX8_init_83 (fun H locs hP hD hS => ?_)
  have hP : va_P D vwCl [(h, .inr (8, [.ref po, .null, .null, .null, .ref q_1, .ref q_3, .ref q_5, .ref q_7, .ref q_9, .ref q_11, .ref q_13, .ref q_15, .ref q_17, .int 0, .int 0])), (q_1, .inl (k_2, 1200, .inr (.inl (fun _ => 0)))), (q_3, .inl (k_4, 64, .inl (fun _ => 0))), (q_5, .inl (k_6, 6, .inr (.inl (fun _ => 0)))), (q_7, .inl (k_8, 6, .inr (.inl (fun _ => 0)))), (q_9, .inl (k_10, 384, .inl (fun _ => 0))), (q_11, .inl (k_12, 54, .inr (.inl (fun _ => 0)))), (q_13, .inl (k_14, 4096, .inr (.inl (fun _ => 0)))), (q_15, .inl (k_16, 4096, .inl (fun _ => 0))), (q_17, .inl (k_18, 4096, .inr (.inl (fun _ => 0))))] H := hP
  have hD : va_D A [(h, .inr (8, [.ref po, .null, .null, .null, .ref q_1, .ref q_3, .ref q_5, .ref q_7, .ref q_9, .ref q_11, .ref q_13, .ref q_15, .ref q_17, .int 0, .int 0])), (q_1, .inl (k_2, 1200, .inr (.inl (fun _ => 0)))), (q_3, .inl (k_4, 64, .inl (fun _ => 0))), (q_5, .inl (k_6, 6, .inr (.inl (fun _ => 0)))), (q_7, .inl (k_8, 6, .inr (.inl (fun _ => 0)))), (q_9, .inl (k_10, 384, .inl (fun _ => 0))), (q_11, .inl (k_12, 54, .inr (.inl (fun _ => 0)))), (q_13, .inl (k_14, 4096, .inr (.inl (fun _ => 0)))), (q_15, .inl (k_16, 4096, .inl (fun _ => 0))), (q_17, .inl (k_18, 4096, .inr (.inl (fun _ => 0))))] := hD
  refine lv_aload_n hx hb dX8_init_86 rfl (lv_at hl 0 rfl) ?_
  refine lv_aload_n hx hb dX8_init_87 rfl (lv_at hl 2 rfl) ?_
  refine va_putF (D := D) (ci := 8) (v := .ref o2) (ty := .object "DynamicLogicProver$Closure") (C := RX8) (T := TX8) (N := 15) hx hb hts hiX8 tyX8 tyX8_ok nmX8 hown hK hP hD hS 0 rfl rfl 1 (by decide) (hts (.fieldLink RX8 44 "DynamicLogicProver$Runs" "closure" "LDynamicLogicProver$Closure;") (mo_X8_init 15 rfl)) (fun _ h9 => h9) rfl hin rfl (tyX8_ok 1 (by decide)) rfl rfl (Nat.le_of_ble_eq_true rfl) dX8_init_88 (fun H locs hP hD hS => ?_)
  have hP : va_P D vwCl [(h, .inr (8, [.ref po, .ref o2, .null, .null, .ref q_1, .ref q_3, .ref q_5, .ref q_7, .ref q_9, .ref q_11, .ref q_13, .ref q_15, .ref q_17, .int 0, .int 0])), (q_1, .inl (k_2, 1200, .inr (.inl (fun _ => 0)))), (q_3, .inl (k_4, 64, .inl (fun _ => 0))), (q_5, .inl (k_6, 6, .inr (.inl (fun _ => 0)))), (q_7, .inl (k_8, 6, .inr (.inl (fun _ => 0)))), (q_9, .inl (k_10, 384, .inl (fun _ => 0))), (q_11, .inl (k_12, 54, .inr (.inl (fun _ => 0)))), (q_13, .inl (k_14, 4096, .inr (.inl (fun _ => 0)))), (q_15, .inl (k_16, 4096, .inl (fun _ => 0))), (q_17, .inl (k_18, 4096, .inr (.inl (fun _ => 0))))] H := hP
  have hD : va_D A [(h, .inr (8, [.ref po, .ref o2, .null, .null, .ref q_1, .ref q_3, .ref q_5, .ref q_7, .ref q_9, .ref q_11, .ref q_13, .ref q_15, .ref q_17, .int 0, .int 0])), (q_1, .inl (k_2, 1200, .inr (.inl (fun _ => 0)))), (q_3, .inl (k_4, 64, .inl (fun _ => 0))), (q_5, .inl (k_6, 6, .inr (.inl (fun _ => 0)))), (q_7, .inl (k_8, 6, .inr (.inl (fun _ => 0)))), (q_9, .inl (k_10, 384, .inl (fun _ => 0))), (q_11, .inl (k_12, 54, .inr (.inl (fun _ => 0)))), (q_13, .inl (k_14, 4096, .inr (.inl (fun _ => 0)))), (q_15, .inl (k_16, 4096, .inl (fun _ => 0))), (q_17, .inl (k_18, 4096, .inr (.inl (fun _ => 0))))] := hD
  refine lv_aload_n hx hb dX8_init_91 rfl (lv_at hl 0 rfl) ?_
  refine lv_aload_n hx hb dX8_init_92 rfl (lv_at hl 3 rfl) ?_
  refine va_putF (D := D) (ci := 8) (v := .ref o3) (ty := .object "DynamicLogicProver$Truth") (C := RX8) (T := TX8) (N := 15) hx hb hts hiX8 tyX8 tyX8_ok nmX8 hown hK hP hD hS 0 rfl rfl 2 (by decide) (hts (.fieldLink RX8 48 "DynamicLogicProver$Runs" "truth" "LDynamicLogicProver$Truth;") (mo_X8_init 16 rfl)) (fun _ h9 => h9) rfl hin rfl (tyX8_ok 2 (by decide)) rfl rfl (Nat.le_of_ble_eq_true rfl) dX8_init_93 (fun H locs hP hD hS => ?_)
  have hP : va_P D vwCl [(h, .inr (8, [.ref po, .ref o2, .ref o3, .null, .ref q_1, .ref q_3, .ref q_5, .ref q_7, .ref q_9, .ref q_11, .ref q_13, .ref q_15, .ref q_17, .int 0, .int 0])), (q_1, .inl (k_2, 1200, .inr (.inl (fun _ => 0)))), (q_3, .inl (k_4, 64, .inl (fun _ => 0))), (q_5, .inl (k_6, 6, .inr (.inl (fun _ => 0)))), (q_7, .inl (k_8, 6, .inr (.inl (fun _ => 0)))), (q_9, .inl (k_10, 384, .inl (fun _ => 0))), (q_11, .inl (k_12, 54, .inr (.inl (fun _ => 0)))), (q_13, .inl (k_14, 4096, .inr (.inl (fun _ => 0)))), (q_15, .inl (k_16, 4096, .inl (fun _ => 0))), (q_17, .inl (k_18, 4096, .inr (.inl (fun _ => 0))))] H := hP
  have hD : va_D A [(h, .inr (8, [.ref po, .ref o2, .ref o3, .null, .ref q_1, .ref q_3, .ref q_5, .ref q_7, .ref q_9, .ref q_11, .ref q_13, .ref q_15, .ref q_17, .int 0, .int 0])), (q_1, .inl (k_2, 1200, .inr (.inl (fun _ => 0)))), (q_3, .inl (k_4, 64, .inl (fun _ => 0))), (q_5, .inl (k_6, 6, .inr (.inl (fun _ => 0)))), (q_7, .inl (k_8, 6, .inr (.inl (fun _ => 0)))), (q_9, .inl (k_10, 384, .inl (fun _ => 0))), (q_11, .inl (k_12, 54, .inr (.inl (fun _ => 0)))), (q_13, .inl (k_14, 4096, .inr (.inl (fun _ => 0)))), (q_15, .inl (k_16, 4096, .inl (fun _ => 0))), (q_17, .inl (k_18, 4096, .inr (.inl (fun _ => 0))))] := hD
  refine lv_aload_n hx hb dX8_init_96 rfl (lv_at hl 0 rfl) ?_
  refine lv_aload hx hb dX8_init_97 (lv_at hl 4 rfl) ?_
  refine va_putF (D := D) (ci := 8) (v := .ref o4) (ty := .object "DynamicLogicProver$Model") (C := RX8) (T := TX8) (N := 15) hx hb hts hiX8 tyX8 tyX8_ok nmX8 hown hK hP hD hS 0 rfl rfl 3 (by decide) (hts (.fieldLink RX8 52 "DynamicLogicProver$Runs" "model" "LDynamicLogicProver$Model;") (mo_X8_init 17 rfl)) (fun _ h9 => h9) rfl hin rfl (tyX8_ok 3 (by decide)) rfl rfl (Nat.le_of_ble_eq_true rfl) dX8_init_99 (fun H locs hP hD hS => ?_)
  have hP : va_P D vwCl [(h, .inr (8, [.ref po, .ref o2, .ref o3, .ref o4, .ref q_1, .ref q_3, .ref q_5, .ref q_7, .ref q_9, .ref q_11, .ref q_13, .ref q_15, .ref q_17, .int 0, .int 0])), (q_1, .inl (k_2, 1200, .inr (.inl (fun _ => 0)))), (q_3, .inl (k_4, 64, .inl (fun _ => 0))), (q_5, .inl (k_6, 6, .inr (.inl (fun _ => 0)))), (q_7, .inl (k_8, 6, .inr (.inl (fun _ => 0)))), (q_9, .inl (k_10, 384, .inl (fun _ => 0))), (q_11, .inl (k_12, 54, .inr (.inl (fun _ => 0)))), (q_13, .inl (k_14, 4096, .inr (.inl (fun _ => 0)))), (q_15, .inl (k_16, 4096, .inl (fun _ => 0))), (q_17, .inl (k_18, 4096, .inr (.inl (fun _ => 0))))] H := hP
  have hD : va_D A [(h, .inr (8, [.ref po, .ref o2, .ref o3, .ref o4, .ref q_1, .ref q_3, .ref q_5, .ref q_7, .ref q_9, .ref q_11, .ref q_13, .ref q_15, .ref q_17, .int 0, .int 0])), (q_1, .inl (k_2, 1200, .inr (.inl (fun _ => 0)))), (q_3, .inl (k_4, 64, .inl (fun _ => 0))), (q_5, .inl (k_6, 6, .inr (.inl (fun _ => 0)))), (q_7, .inl (k_8, 6, .inr (.inl (fun _ => 0)))), (q_9, .inl (k_10, 384, .inl (fun _ => 0))), (q_11, .inl (k_12, 54, .inr (.inl (fun _ => 0)))), (q_13, .inl (k_14, 4096, .inr (.inl (fun _ => 0)))), (q_15, .inl (k_16, 4096, .inl (fun _ => 0))), (q_17, .inl (k_18, 4096, .inr (.inl (fun _ => 0))))] := hD
  have hP9 := hP.sub (ws' := []) [] rfl
  have hD9 := hD.sub (ws' := []) [] (by decide) rfl
  have hK9 := hK.sub (tys' := []) [] rfl
  refine W.widen (k := 9) (n := 14002) (Nat.le_of_ble_eq_true rfl) (Nat.le_of_ble_eq_true rfl) ?_
  exact W.vret hx hb hr (fun tZ htZ hW => ⟨⟨(), rfl, trivial, by rw [htZ]; exact hP9, va_K.moved hW.alike hK9, hD9⟩, hS.F htZ⟩) hS.2.2 dX8_init_102
theorem dX4_init_0 : decode cX4_init 0 = .ok (.aload_n 0, 1) := by decide +kernel
theorem dX4_init_1 : decode cX4_init 1 = .ok (.invokespecial 3, 3) := by decide +kernel
theorem dX4_init_4 : decode cX4_init 4 = .ok (.aload_n 0, 1) := by decide +kernel
theorem dX4_init_5 : decode cX4_init 5 = .ok (.bipush 101, 2) := by decide +kernel
theorem dX4_init_7 : decode cX4_init 7 = .ok (.newarray .int, 2) := by decide +kernel
theorem dX4_init_9 : decode cX4_init 9 = .ok (.putfield 9, 3) := by decide +kernel
theorem dX4_init_12 : decode cX4_init 12 = .ok (.aload_n 0, 1) := by decide +kernel
theorem dX4_init_13 : decode cX4_init 13 = .ok (.aload_n 1, 1) := by decide +kernel
theorem dX4_init_14 : decode cX4_init 14 = .ok (.putfield 15, 3) := by decide +kernel
theorem dX4_init_17 : decode cX4_init 17 = .ok (.aload_n 0, 1) := by decide +kernel
theorem dX4_init_18 : decode cX4_init 18 = .ok (.aload_n 2, 1) := by decide +kernel
theorem dX4_init_19 : decode cX4_init 19 = .ok (.putfield 19, 3) := by decide +kernel
theorem dX4_init_22 : decode cX4_init 22 = .ok (.aload_n 0, 1) := by decide +kernel
theorem dX4_init_23 : decode cX4_init 23 = .ok (.iconst (-1), 1) := by decide +kernel
theorem dX4_init_24 : decode cX4_init 24 = .ok (.putfield 22, 3) := by decide +kernel
theorem dX4_init_27 : decode cX4_init 27 = .ok (.return_, 1) := by decide +kernel
def wo_X4_init : List Cond := [.methodLink RX4 3 objectInit, .instanceMethod objectInit, .code objectInit ⟨#[0xb1]⟩ 1 none, .arrayClass .int, .fieldLink RX4 9 "DynamicLogicProver$Parser" "operands" "[I", .fieldLink RX4 15 "DynamicLogicProver$Parser" "pool" "LDynamicLogicProver$Pool;", .fieldLink RX4 19 "DynamicLogicProver$Parser" "source" "[I", .fieldLink RX4 22 "DynamicLogicProver$Parser" "fault" "I"]
def wd_X4_init : List Cond := .code yX4_init cX4_init 3 none :: (wo_X4_init ++ (wsX40 ++ ([] : List Cond)))
theorem mo_X4_init {w : Cond} (i : Nat) (h : wo_X4_init[i]? = some w) : w ∈ wd_X4_init := List.mem_cons_of_mem _ (List.mem_append_left _ (List.mem_of_getElem? h))
theorem mb_X4_init_0 : ∀ w ∈ wsX40, w ∈ wd_X4_init := fun w h => List.mem_cons_of_mem _ (List.mem_append_right _ (List.mem_append_left _ h))
theorem hd_X4_init : yX4_init.cls ≠ "java/lang/invoke/MethodHandle" ∧ yX4_init.cls ≠ "java/lang/invoke/VarHandle" ∧ (parseMethodDescriptor yX4_init.desc).map (fun d => d.parameters.length) = some 2 := by decide +kernel
set_option maxRecDepth 20000 in
theorem gw_X4_init : wd_X4_init.all goodWord = true := by decide +kernel
abbrev qc_X4_init (D : va_G) (h : Nat) (po : Nat) (te : Nat) (A : Nat → Prop) : Array Value → State → Outcome → State → Prop := va_Qv (fun (uZ : (Nat) × (ClassId)) => True) (fun uZ tZ => kc_pos D A [(h, .inr (4, [.ref po, .ref te, .ref uZ.1, .int 0, .int 0, .int 0, .int 0, .int (-1)])), (uZ.1, .inl (uZ.2, 101, .inl (fun _ => 0)))] [(uZ.2, .int)] tZ) A
set_option maxHeartbeats 4000000 in
set_option maxRecDepth 100000 in
theorem ct_X4_init (l : Launch) (D : va_G) (h : Nat) (po : Nat) (te : Nat) (sz : Nat)  : Met l yX4_init wd_X4_init ({ frames := 1, cells := 1, slots := 101, locals := 12 }) (va_Pc [.ref h, .ref po, .ref te] (kc_pre D [] [(h, .inr (4, [.null, .null, .null, .int 0, .int 0, .int 0, .int 0, .int 0]))] sz)) (qc_X4_init D h po te (va_A [(h, .inr (4, [.null, .null, .null, .int 0, .int 0, .int 0, .int 0, .int 0]))] sz)) 1 101 (va_A [(h, .inr (4, [.null, .null, .null, .int 0, .int 0, .int 0, .int 0, .int 0]))] sz) := by
  refine Met.ofW (cc := cX4_init) (maxL := 3) (ret := none) (by decide) rfl ?_
  intro p e s m args below meth c s₁ B hml hv
  obtain ⟨rfl, hsz, hP, hK, hN, hD0⟩ := hv
  have hx := B.exec
  have hb := B.bytes
  have hr := B.returns
  have hts := atoms_spec (ws := wd_X4_init) B.pre
  have hown : s.vm.findClass RX4 = some m.cls := findClass_of_methodNamed B.named
  have hlocks := B.notSynchronized
  have hin : meth.name = "<init>" := (name_of_methodNamed B.named B.method).1
  subst hsz
  have hD := hD0.self (sz := s.heap.size)
  generalize hAe : va_A [(h, .inr (4, [.null, .null, .null, .int 0, .int 0, .int 0, .int 0, .int 0]))] s.heap.size = A at hD ⊢
  have hA : ∀ q : Nat, s.heap.size ≤ q → A q := fun q h => by rw [← hAe]; exact Or.inr h
  have hS : va_S A s.heap s.heap [] := va_S.rf
  have hiX4 : ∀ w ∈ wsX40, w ∈ wd_X4_init := mb_X4_init_0
  have hl := lv_entry ([.ref h, .ref po, .ref te]) (n := 3) (Nat.le_of_ble_eq_true rfl)
  rw [lg_entry_eq]
  generalize (lg_sl ([.ref h, .ref po, .ref te]) ++ List.replicate (3 - (lg_sl ([.ref h, .ref po, .ref te])).length) Slot.unset).toArray = ls at hl ⊢
  have hl : lv_has ls 3 [(0, .ref h), (1, .ref po), (2, .ref te)] := hl
  refine lv_aload_n hx hb dX4_init_0 rfl (lv_at hl 0 rfl) ?_
  refine W.objInit hx hb hown (hts (.methodLink RX4 3 objectInit) (mo_X4_init 0 rfl)) (hts (.instanceMethod objectInit) (mo_X4_init 1 rfl)) (hts (.code objectInit ⟨#[0xb1]⟩ 1 none) (mo_X4_init 2 rfl)) rfl (by rw [hml]; exact hl.1) rfl dX4_init_1 (Nat.le_of_ble_eq_true rfl) (Nat.le_of_ble_eq_true rfl) ?_
  refine W.eq (g2 := F0 m 4 ls []) rfl ?_
  refine lv_aload_n hx hb dX4_init_4 rfl (lv_at hl 0 rfl) ?_
  refine lv_bipush (v := 101) hx hb dX4_init_5 (by decide) ?_
  refine va_newa (atype := .int) (ty := .int) (a0 := (101, .inl (fun _ => 0))) hx hb (hts (.arrayClass .int) (mo_X4_init 3 rfl)) rfl hK hP hD hS hA (fun _ => rfl) (by decide) (N' := 101) (by decide) (by decide) (Nat.le_of_ble_eq_true rfl) (Nat.le_of_ble_eq_true rfl) dX4_init_7 (fun q_1 k_2 H hK hP hD hS => ?_)
  have hP : va_P D vwCl [(h, .inr (4, [.null, .null, .null, .int 0, .int 0, .int 0, .int 0, .int 0])), (q_1, .inl (k_2, 101, .inl (fun _ => 0)))] H := hP
  have hD : va_D A [(h, .inr (4, [.null, .null, .null, .int 0, .int 0, .int 0, .int 0, .int 0])), (q_1, .inl (k_2, 101, .inl (fun _ => 0)))] := hD
  have hK : va_K D vwCl [(k_2, .int)] s := hK
  refine W.widen (k := 1) (n := 101) (by decide) (Nat.le_of_ble_eq_true rfl) ?_
  refine va_putF (D := D) (ci := 4) (v := .ref q_1) (ty := .array .int) (C := RX4) (T := TX4) (N := 8) hx hb hts hiX4 tyX4 tyX4_ok nmX4 hown hK hP hD hS 0 rfl rfl 2 (by decide) (hts (.fieldLink RX4 9 "DynamicLogicProver$Parser" "operands" "[I") (mo_X4_init 4 rfl)) (fun _ h9 => h9) rfl hin rfl (tyX4_ok 2 (by decide)) rfl rfl (Nat.le_of_ble_eq_true rfl) dX4_init_9 (fun H locs hP hD hS => ?_)
  have hP : va_P D vwCl [(h, .inr (4, [.null, .null, .ref q_1, .int 0, .int 0, .int 0, .int 0, .int 0])), (q_1, .inl (k_2, 101, .inl (fun _ => 0)))] H := hP
  have hD : va_D A [(h, .inr (4, [.null, .null, .ref q_1, .int 0, .int 0, .int 0, .int 0, .int 0])), (q_1, .inl (k_2, 101, .inl (fun _ => 0)))] := hD
  refine lv_aload_n hx hb dX4_init_12 rfl (lv_at hl 0 rfl) ?_
  refine lv_aload_n hx hb dX4_init_13 rfl (lv_at hl 1 rfl) ?_
  refine va_putF (D := D) (ci := 4) (v := .ref po) (ty := .object "DynamicLogicProver$Pool") (C := RX4) (T := TX4) (N := 8) hx hb hts hiX4 tyX4 tyX4_ok nmX4 hown hK hP hD hS 0 rfl rfl 0 (by decide) (hts (.fieldLink RX4 15 "DynamicLogicProver$Parser" "pool" "LDynamicLogicProver$Pool;") (mo_X4_init 5 rfl)) (fun _ h9 => h9) rfl hin rfl (tyX4_ok 0 (by decide)) rfl rfl (Nat.le_of_ble_eq_true rfl) dX4_init_14 (fun H locs hP hD hS => ?_)
  have hP : va_P D vwCl [(h, .inr (4, [.ref po, .null, .ref q_1, .int 0, .int 0, .int 0, .int 0, .int 0])), (q_1, .inl (k_2, 101, .inl (fun _ => 0)))] H := hP
  have hD : va_D A [(h, .inr (4, [.ref po, .null, .ref q_1, .int 0, .int 0, .int 0, .int 0, .int 0])), (q_1, .inl (k_2, 101, .inl (fun _ => 0)))] := hD
  refine lv_aload_n hx hb dX4_init_17 rfl (lv_at hl 0 rfl) ?_
  refine lv_aload_n hx hb dX4_init_18 rfl (lv_at hl 2 rfl) ?_
  refine va_putF (D := D) (ci := 4) (v := .ref te) (ty := .array .int) (C := RX4) (T := TX4) (N := 8) hx hb hts hiX4 tyX4 tyX4_ok nmX4 hown hK hP hD hS 0 rfl rfl 1 (by decide) (hts (.fieldLink RX4 19 "DynamicLogicProver$Parser" "source" "[I") (mo_X4_init 6 rfl)) (fun _ h9 => h9) rfl hin rfl (tyX4_ok 1 (by decide)) rfl rfl (Nat.le_of_ble_eq_true rfl) dX4_init_19 (fun H locs hP hD hS => ?_)
  have hP : va_P D vwCl [(h, .inr (4, [.ref po, .ref te, .ref q_1, .int 0, .int 0, .int 0, .int 0, .int 0])), (q_1, .inl (k_2, 101, .inl (fun _ => 0)))] H := hP
  have hD : va_D A [(h, .inr (4, [.ref po, .ref te, .ref q_1, .int 0, .int 0, .int 0, .int 0, .int 0])), (q_1, .inl (k_2, 101, .inl (fun _ => 0)))] := hD
  refine lv_aload_n hx hb dX4_init_22 rfl (lv_at hl 0 rfl) ?_
  refine lv_iconst (v := (-1)) hx hb dX4_init_23 (by decide) ?_
  refine va_put (D := D) (ci := 4) (v := .int (-1)) (ty := .int) (C := RX4) (T := TX4) (N := 8) hx hb hts hiX4 tyX4 tyX4_ok nmX4 hown hK hP hD hS 0 rfl rfl 7 (by decide) (hts (.fieldLink RX4 22 "DynamicLogicProver$Parser" "fault" "I") (mo_X4_init 7 rfl)) (fun _ h9 => h9) rfl (tyX4_ok 7 (by decide)) rfl rfl (Nat.le_of_ble_eq_true rfl) dX4_init_24 (fun H locs hP hD hS => ?_)
  have hP : va_P D vwCl [(h, .inr (4, [.ref po, .ref te, .ref q_1, .int 0, .int 0, .int 0, .int 0, .int (-1)])), (q_1, .inl (k_2, 101, .inl (fun _ => 0)))] H := hP
  have hD : va_D A [(h, .inr (4, [.ref po, .ref te, .ref q_1, .int 0, .int 0, .int 0, .int 0, .int (-1)])), (q_1, .inl (k_2, 101, .inl (fun _ => 0)))] := hD
  have hP9 := hP.sub (ws' := [(h, .inr (4, [.ref po, .ref te, .ref q_1, .int 0, .int 0, .int 0, .int 0, .int (-1)])), (q_1, .inl (k_2, 101, .inl (fun _ => 0)))]) [0, 1] rfl
  have hD9 := hD.sub (ws' := [(h, .inr (4, [.ref po, .ref te, .ref q_1, .int 0, .int 0, .int 0, .int 0, .int (-1)])), (q_1, .inl (k_2, 101, .inl (fun _ => 0)))]) [0, 1] (by decide) rfl
  have hK9 := hK.sub (tys' := [(k_2, .int)]) [0] rfl
  refine W.widen (k := 1) (n := 101) (Nat.le_of_ble_eq_true rfl) (Nat.le_of_ble_eq_true rfl) ?_
  exact W.vret hx hb hr (fun tZ htZ hW => ⟨⟨(q_1, k_2), rfl, trivial, by rw [htZ]; exact hP9, va_K.moved hW.alike hK9, hD9⟩, hS.F htZ⟩) hS.2.2 dX4_init_27
theorem dX4_fault_0 : decode cX4_fault 0 = .ok (.aload_n 0, 1) := by decide +kernel
theorem dX4_fault_1 : decode cX4_fault 1 = .ok (.getfield 22, 3) := by decide +kernel
theorem dX4_fault_4 : decode cX4_fault 4 = .ok (.ireturn, 1) := by decide +kernel
def wo_X4_fault0 : List Cond := [.fieldLink RX4 22 "DynamicLogicProver$Parser" "fault" "I"]
def wd_X4_fault0 : List Cond := .code yX4_fault cX4_fault 1 (some .int) :: (wo_X4_fault0 ++ (wsX40 ++ ([] : List Cond)))
theorem mo_X4_fault0 {w : Cond} (i : Nat) (h : wo_X4_fault0[i]? = some w) : w ∈ wd_X4_fault0 := List.mem_cons_of_mem _ (List.mem_append_left _ (List.mem_of_getElem? h))
theorem mb_X4_fault0_0 : ∀ w ∈ wsX40, w ∈ wd_X4_fault0 := fun w h => List.mem_cons_of_mem _ (List.mem_append_right _ (List.mem_append_left _ h))
theorem hd_X4_fault : yX4_fault.cls ≠ "java/lang/invoke/MethodHandle" ∧ yX4_fault.cls ≠ "java/lang/invoke/VarHandle" ∧ (parseMethodDescriptor yX4_fault.desc).map (fun d => d.parameters.length) = some 0 := by decide +kernel
set_option maxRecDepth 20000 in
theorem gw_X4_fault0 : wd_X4_fault0.all goodWord = true := by decide +kernel
abbrev qc_X4_fault0 (D : va_G) (h : Nat) (po : Nat) (te : Nat) (op : Nat) (A : Nat → Prop) : Array Value → State → Outcome → State → Prop := va_Qi (fun (r : Int32) (uZ : Unit) => r = 0) (fun uZ tZ => kc_pos D A [(h, .inr (4, [.ref po, .ref te, .ref op, .int 0, .int 0, .int 0, .int 0, .int 0]))] [] tZ) A
set_option maxHeartbeats 4000000 in
set_option maxRecDepth 100000 in
theorem ct_X4_fault0 (l : Launch) (D : va_G) (h : Nat) (po : Nat) (te : Nat) (op : Nat) (sz : Nat)  : Met l yX4_fault wd_X4_fault0 ({ frames := 0, cells := 0, slots := 0, locals := 0 }) (va_Pc [.ref h] (kc_pre D [] [(h, .inr (4, [.ref po, .ref te, .ref op, .int 0, .int 0, .int 0, .int 0, .int 0]))] sz)) (qc_X4_fault0 D h po te op (va_A [(h, .inr (4, [.ref po, .ref te, .ref op, .int 0, .int 0, .int 0, .int 0, .int 0]))] sz)) 0 0 (va_A [(h, .inr (4, [.ref po, .ref te, .ref op, .int 0, .int 0, .int 0, .int 0, .int 0]))] sz) := by
  refine Met.ofW (cc := cX4_fault) (maxL := 1) (ret := (some .int)) (by decide) rfl ?_
  intro p e s m args below meth c s₁ B hml hv
  obtain ⟨rfl, hsz, hP, hK, hN, hD0⟩ := hv
  have hx := B.exec
  have hb := B.bytes
  have hr := B.returns
  have hts := atoms_spec (ws := wd_X4_fault0) B.pre
  have hown : s.vm.findClass RX4 = some m.cls := findClass_of_methodNamed B.named
  have hlocks := B.notSynchronized
  subst hsz
  have hD := hD0.self (sz := s.heap.size)
  generalize hAe : va_A [(h, .inr (4, [.ref po, .ref te, .ref op, .int 0, .int 0, .int 0, .int 0, .int 0]))] s.heap.size = A at hD ⊢
  have hA : ∀ q : Nat, s.heap.size ≤ q → A q := fun q h => by rw [← hAe]; exact Or.inr h
  have hS : va_S A s.heap s.heap [] := va_S.rf
  have hiX4 : ∀ w ∈ wsX40, w ∈ wd_X4_fault0 := mb_X4_fault0_0
  have hl := lv_entry ([.ref h]) (n := 1) (Nat.le_of_ble_eq_true rfl)
  rw [lg_entry_eq]
  generalize (lg_sl ([.ref h]) ++ List.replicate (1 - (lg_sl ([.ref h])).length) Slot.unset).toArray = ls at hl ⊢
  have hl : lv_has ls 1 [(0, .ref h)] := hl
  refine lv_aload_n hx hb dX4_fault_0 rfl (lv_at hl 0 rfl) ?_
  refine va_get (D := D) (ci := 4) (v := .int 0) (C := RX4) (T := TX4) (N := 8) hx hb hts hiX4 hown hK hP 0 rfl rfl 7 (by decide) (hts (.fieldLink RX4 22 "DynamicLogicProver$Parser" "fault" "I") (mo_X4_fault0 0 rfl)) (fun _ h9 => h9) rfl dX4_fault_1 ?_
  have hP9 := hP.sub (ws' := [(h, .inr (4, [.ref po, .ref te, .ref op, .int 0, .int 0, .int 0, .int 0, .int 0]))]) [0] rfl
  have hD9 := hD.sub (ws' := [(h, .inr (4, [.ref po, .ref te, .ref op, .int 0, .int 0, .int 0, .int 0, .int 0]))]) [0] (by decide) rfl
  have hK9 := hK.sub (tys' := []) [] rfl
  exact W.iret (v := 0) hx hb hr (fun tZ htZ hW => ⟨⟨0, (), rfl, rfl, by rw [htZ]; exact hP9, va_K.moved hW.alike hK9, hD9⟩, hS.F htZ⟩) hS.2.2 dX4_fault_4
theorem dX4_peek_0 : decode cX4_peek 0 = .ok (.aload_n 0, 1) := by decide +kernel
theorem dX4_peek_1 : decode cX4_peek 1 = .ok (.getfield 22, 3) := by decide +kernel
theorem dX4_peek_4 : decode cX4_peek 4 = .ok (.iconst (-1), 1) := by decide +kernel
theorem dX4_peek_5 : decode cX4_peek 5 = .ok (.if_icmp .ne 14, 3) := by decide +kernel
theorem dX4_peek_8 : decode cX4_peek 8 = .ok (.aload_n 0, 1) := by decide +kernel
theorem dX4_peek_9 : decode cX4_peek 9 = .ok (.getfield 29, 3) := by decide +kernel
theorem dX4_peek_12 : decode cX4_peek 12 = .ok (.aload_n 0, 1) := by decide +kernel
theorem dX4_peek_13 : decode cX4_peek 13 = .ok (.getfield 26, 3) := by decide +kernel
theorem dX4_peek_16 : decode cX4_peek 16 = .ok (.if_icmp .lt 7, 3) := by decide +kernel
theorem dX4_peek_19 : decode cX4_peek 19 = .ok (.iconst (-1), 1) := by decide +kernel
theorem dX4_peek_20 : decode cX4_peek 20 = .ok (.goto 14, 3) := by decide +kernel
theorem dX4_peek_23 : decode cX4_peek 23 = .ok (.aload_n 0, 1) := by decide +kernel
theorem dX4_peek_24 : decode cX4_peek 24 = .ok (.getfield 19, 3) := by decide +kernel
theorem dX4_peek_27 : decode cX4_peek 27 = .ok (.aload_n 0, 1) := by decide +kernel
theorem dX4_peek_28 : decode cX4_peek 28 = .ok (.getfield 29, 3) := by decide +kernel
theorem dX4_peek_31 : decode cX4_peek 31 = .ok (.invokestatic 42, 3) := by decide +kernel
theorem dX4_peek_34 : decode cX4_peek 34 = .ok (.ireturn, 1) := by decide +kernel
def wo_X4_peekA : List Cond := [.fieldLink RX4 22 "DynamicLogicProver$Parser" "fault" "I", .fieldLink RX4 29 "DynamicLogicProver$Parser" "place" "I", .fieldLink RX4 26 "DynamicLogicProver$Parser" "end" "I"]
def wd_X4_peekA : List Cond := .code yX4_peek cX4_peek 1 (some .int) :: (wo_X4_peekA ++ (wsX40 ++ ([] : List Cond)))
theorem mo_X4_peekA {w : Cond} (i : Nat) (h : wo_X4_peekA[i]? = some w) : w ∈ wd_X4_peekA := List.mem_cons_of_mem _ (List.mem_append_left _ (List.mem_of_getElem? h))
theorem mb_X4_peekA_0 : ∀ w ∈ wsX40, w ∈ wd_X4_peekA := fun w h => List.mem_cons_of_mem _ (List.mem_append_right _ (List.mem_append_left _ h))
theorem hd_X4_peek : yX4_peek.cls ≠ "java/lang/invoke/MethodHandle" ∧ yX4_peek.cls ≠ "java/lang/invoke/VarHandle" ∧ (parseMethodDescriptor yX4_peek.desc).map (fun d => d.parameters.length) = some 0 := by decide +kernel
set_option maxRecDepth 20000 in
theorem gw_X4_peekA : wd_X4_peekA.all goodWord = true := by decide +kernel
abbrev qc_X4_peekA (D : va_G) (h : Nat) (po : Nat) (te : Nat) (op : Nat) (A : Nat → Prop) : Array Value → State → Outcome → State → Prop := va_Qi (fun (r : Int32) (uZ : Unit) => r = (-1)) (fun uZ tZ => kc_pos D A [(h, .inr (4, [.ref po, .ref te, .ref op, .int 0, .int 0, .int 0, .int 0, .int (-1)]))] [] tZ) A
set_option maxHeartbeats 4000000 in
set_option maxRecDepth 100000 in
theorem ct_X4_peekA (l : Launch) (D : va_G) (h : Nat) (po : Nat) (te : Nat) (op : Nat) (sz : Nat)  : Met l yX4_peek wd_X4_peekA ({ frames := 0, cells := 0, slots := 0, locals := 0 }) (va_Pc [.ref h] (kc_pre D [] [(h, .inr (4, [.ref po, .ref te, .ref op, .int 0, .int 0, .int 0, .int 0, .int (-1)]))] sz)) (qc_X4_peekA D h po te op (va_A [(h, .inr (4, [.ref po, .ref te, .ref op, .int 0, .int 0, .int 0, .int 0, .int (-1)]))] sz)) 0 0 (va_A [(h, .inr (4, [.ref po, .ref te, .ref op, .int 0, .int 0, .int 0, .int 0, .int (-1)]))] sz) := by
  refine Met.ofW (cc := cX4_peek) (maxL := 1) (ret := (some .int)) (by decide) rfl ?_
  intro p e s m args below meth c s₁ B hml hv
  obtain ⟨rfl, hsz, hP, hK, hN, hD0⟩ := hv
  have hx := B.exec
  have hb := B.bytes
  have hr := B.returns
  have hts := atoms_spec (ws := wd_X4_peekA) B.pre
  have hown : s.vm.findClass RX4 = some m.cls := findClass_of_methodNamed B.named
  have hlocks := B.notSynchronized
  subst hsz
  have hD := hD0.self (sz := s.heap.size)
  generalize hAe : va_A [(h, .inr (4, [.ref po, .ref te, .ref op, .int 0, .int 0, .int 0, .int 0, .int (-1)]))] s.heap.size = A at hD ⊢
  have hA : ∀ q : Nat, s.heap.size ≤ q → A q := fun q h => by rw [← hAe]; exact Or.inr h
  have hS : va_S A s.heap s.heap [] := va_S.rf
  have hiX4 : ∀ w ∈ wsX40, w ∈ wd_X4_peekA := mb_X4_peekA_0
  have hl := lv_entry ([.ref h]) (n := 1) (Nat.le_of_ble_eq_true rfl)
  rw [lg_entry_eq]
  generalize (lg_sl ([.ref h]) ++ List.replicate (1 - (lg_sl ([.ref h])).length) Slot.unset).toArray = ls at hl ⊢
  have hl : lv_has ls 1 [(0, .ref h)] := hl
  refine lv_aload_n hx hb dX4_peek_0 rfl (lv_at hl 0 rfl) ?_
  refine va_get (D := D) (ci := 4) (v := .int (-1)) (C := RX4) (T := TX4) (N := 8) hx hb hts hiX4 hown hK hP 0 rfl rfl 7 (by decide) (hts (.fieldLink RX4 22 "DynamicLogicProver$Parser" "fault" "I") (mo_X4_peekA 0 rfl)) (fun _ h9 => h9) rfl dX4_peek_1 ?_
  refine lv_iconst (v := (-1)) hx hb dX4_peek_4 (by decide) ?_
  refine lv_icmp_ne (tgt := 19) hx hb dX4_peek_5 (by decide) (fun c_1 => ?_) (fun c_1 => ?_)
  · exact absurd c_1 (by decide)
  · refine lv_aload_n hx hb dX4_peek_8 rfl (lv_at hl 0 rfl) ?_
    refine va_get (D := D) (ci := 4) (v := .int 0) (C := RX4) (T := TX4) (N := 8) hx hb hts hiX4 hown hK hP 0 rfl rfl 4 (by decide) (hts (.fieldLink RX4 29 "DynamicLogicProver$Parser" "place" "I") (mo_X4_peekA 1 rfl)) (fun _ h9 => h9) rfl dX4_peek_9 ?_
    refine lv_aload_n hx hb dX4_peek_12 rfl (lv_at hl 0 rfl) ?_
    refine va_get (D := D) (ci := 4) (v := .int 0) (C := RX4) (T := TX4) (N := 8) hx hb hts hiX4 hown hK hP 0 rfl rfl 3 (by decide) (hts (.fieldLink RX4 26 "DynamicLogicProver$Parser" "end" "I") (mo_X4_peekA 2 rfl)) (fun _ h9 => h9) rfl dX4_peek_13 ?_
    refine lv_icmp_lt (tgt := 23) hx hb dX4_peek_16 (by decide) (fun c_2 => ?_) (fun c_2 => ?_)
    · exact absurd c_2 (by decide)
    · refine lv_iconst (v := (-1)) hx hb dX4_peek_19 (by decide) ?_
      refine lv_goto (tgt := 34) hx hb dX4_peek_20 (by decide) ?_
      have hP9 := hP.sub (ws' := [(h, .inr (4, [.ref po, .ref te, .ref op, .int 0, .int 0, .int 0, .int 0, .int (-1)]))]) [0] rfl
      have hD9 := hD.sub (ws' := [(h, .inr (4, [.ref po, .ref te, .ref op, .int 0, .int 0, .int 0, .int 0, .int (-1)]))]) [0] (by decide) rfl
      have hK9 := hK.sub (tys' := []) [] rfl
      exact W.iret (v := (-1)) hx hb hr (fun tZ htZ hW => ⟨⟨(-1), (), rfl, rfl, by rw [htZ]; exact hP9, va_K.moved hW.alike hK9, hD9⟩, hS.F htZ⟩) hS.2.2 dX4_peek_34
def wo_X4_peekB : List Cond := [.fieldLink RX4 22 "DynamicLogicProver$Parser" "fault" "I"]
def wd_X4_peekB : List Cond := .code yX4_peek cX4_peek 1 (some .int) :: (wo_X4_peekB ++ (wsX40 ++ ([] : List Cond)))
theorem mo_X4_peekB {w : Cond} (i : Nat) (h : wo_X4_peekB[i]? = some w) : w ∈ wd_X4_peekB := List.mem_cons_of_mem _ (List.mem_append_left _ (List.mem_of_getElem? h))
theorem mb_X4_peekB_0 : ∀ w ∈ wsX40, w ∈ wd_X4_peekB := fun w h => List.mem_cons_of_mem _ (List.mem_append_right _ (List.mem_append_left _ h))
set_option maxRecDepth 20000 in
theorem gw_X4_peekB : wd_X4_peekB.all goodWord = true := by decide +kernel
abbrev qc_X4_peekB (D : va_G) (h : Nat) (po : Nat) (te : Nat) (op : Nat) (A : Nat → Prop) : Array Value → State → Outcome → State → Prop := va_Qi (fun (r : Int32) (uZ : Unit) => r = (-1)) (fun uZ tZ => kc_pos D A [(h, .inr (4, [.ref po, .ref te, .ref op, .int 0, .int 0, .int 0, .int 0, .int 0]))] [] tZ) A
set_option maxHeartbeats 4000000 in
set_option maxRecDepth 100000 in
theorem ct_X4_peekB (l : Launch) (D : va_G) (h : Nat) (po : Nat) (te : Nat) (op : Nat) (sz : Nat)  : Met l yX4_peek wd_X4_peekB ({ frames := 0, cells := 0, slots := 0, locals := 0 }) (va_Pc [.ref h] (kc_pre D [] [(h, .inr (4, [.ref po, .ref te, .ref op, .int 0, .int 0, .int 0, .int 0, .int 0]))] sz)) (qc_X4_peekB D h po te op (va_A [(h, .inr (4, [.ref po, .ref te, .ref op, .int 0, .int 0, .int 0, .int 0, .int 0]))] sz)) 0 0 (va_A [(h, .inr (4, [.ref po, .ref te, .ref op, .int 0, .int 0, .int 0, .int 0, .int 0]))] sz) := by
  refine Met.ofW (cc := cX4_peek) (maxL := 1) (ret := (some .int)) (by decide) rfl ?_
  intro p e s m args below meth c s₁ B hml hv
  obtain ⟨rfl, hsz, hP, hK, hN, hD0⟩ := hv
  have hx := B.exec
  have hb := B.bytes
  have hr := B.returns
  have hts := atoms_spec (ws := wd_X4_peekB) B.pre
  have hown : s.vm.findClass RX4 = some m.cls := findClass_of_methodNamed B.named
  have hlocks := B.notSynchronized
  subst hsz
  have hD := hD0.self (sz := s.heap.size)
  generalize hAe : va_A [(h, .inr (4, [.ref po, .ref te, .ref op, .int 0, .int 0, .int 0, .int 0, .int 0]))] s.heap.size = A at hD ⊢
  have hA : ∀ q : Nat, s.heap.size ≤ q → A q := fun q h => by rw [← hAe]; exact Or.inr h
  have hS : va_S A s.heap s.heap [] := va_S.rf
  have hiX4 : ∀ w ∈ wsX40, w ∈ wd_X4_peekB := mb_X4_peekB_0
  have hl := lv_entry ([.ref h]) (n := 1) (Nat.le_of_ble_eq_true rfl)
  rw [lg_entry_eq]
  generalize (lg_sl ([.ref h]) ++ List.replicate (1 - (lg_sl ([.ref h])).length) Slot.unset).toArray = ls at hl ⊢
  have hl : lv_has ls 1 [(0, .ref h)] := hl
  refine lv_aload_n hx hb dX4_peek_0 rfl (lv_at hl 0 rfl) ?_
  refine va_get (D := D) (ci := 4) (v := .int 0) (C := RX4) (T := TX4) (N := 8) hx hb hts hiX4 hown hK hP 0 rfl rfl 7 (by decide) (hts (.fieldLink RX4 22 "DynamicLogicProver$Parser" "fault" "I") (mo_X4_peekB 0 rfl)) (fun _ h9 => h9) rfl dX4_peek_1 ?_
  refine lv_iconst (v := (-1)) hx hb dX4_peek_4 (by decide) ?_
  refine lv_icmp_ne (tgt := 19) hx hb dX4_peek_5 (by decide) (fun c_1 => ?_) (fun c_1 => ?_)
  · refine lv_iconst (v := (-1)) hx hb dX4_peek_19 (by decide) ?_
    refine lv_goto (tgt := 34) hx hb dX4_peek_20 (by decide) ?_
    have hP9 := hP.sub (ws' := [(h, .inr (4, [.ref po, .ref te, .ref op, .int 0, .int 0, .int 0, .int 0, .int 0]))]) [0] rfl
    have hD9 := hD.sub (ws' := [(h, .inr (4, [.ref po, .ref te, .ref op, .int 0, .int 0, .int 0, .int 0, .int 0]))]) [0] (by decide) rfl
    have hK9 := hK.sub (tys' := []) [] rfl
    exact W.iret (v := (-1)) hx hb hr (fun tZ htZ hW => ⟨⟨(-1), (), rfl, rfl, by rw [htZ]; exact hP9, va_K.moved hW.alike hK9, hD9⟩, hS.F htZ⟩) hS.2.2 dX4_peek_34
  · exact absurd c_1 (by decide)
def wo_X4_peekC : List Cond := [.fieldLink RX4 22 "DynamicLogicProver$Parser" "fault" "I"]
def wd_X4_peekC : List Cond := .code yX4_peek cX4_peek 1 (some .int) :: (wo_X4_peekC ++ (wsX40 ++ ([] : List Cond)))
theorem mo_X4_peekC {w : Cond} (i : Nat) (h : wo_X4_peekC[i]? = some w) : w ∈ wd_X4_peekC := List.mem_cons_of_mem _ (List.mem_append_left _ (List.mem_of_getElem? h))
theorem mb_X4_peekC_0 : ∀ w ∈ wsX40, w ∈ wd_X4_peekC := fun w h => List.mem_cons_of_mem _ (List.mem_append_right _ (List.mem_append_left _ h))
set_option maxRecDepth 20000 in
theorem gw_X4_peekC : wd_X4_peekC.all goodWord = true := by decide +kernel
abbrev qc_X4_peekC (D : va_G) (h : Nat) (po : Nat) (te : Nat) (op : Nat) (A : Nat → Prop) : Array Value → State → Outcome → State → Prop := va_Qi (fun (r : Int32) (uZ : Unit) => r = (-1)) (fun uZ tZ => kc_pos D A [(h, .inr (4, [.ref po, .ref te, .ref op, .int 0, .int 0, .int 0, .int 1, .int 0]))] [] tZ) A
set_option maxHeartbeats 4000000 in
set_option maxRecDepth 100000 in
theorem ct_X4_peekC (l : Launch) (D : va_G) (h : Nat) (po : Nat) (te : Nat) (op : Nat) (sz : Nat)  : Met l yX4_peek wd_X4_peekC ({ frames := 0, cells := 0, slots := 0, locals := 0 }) (va_Pc [.ref h] (kc_pre D [] [(h, .inr (4, [.ref po, .ref te, .ref op, .int 0, .int 0, .int 0, .int 1, .int 0]))] sz)) (qc_X4_peekC D h po te op (va_A [(h, .inr (4, [.ref po, .ref te, .ref op, .int 0, .int 0, .int 0, .int 1, .int 0]))] sz)) 0 0 (va_A [(h, .inr (4, [.ref po, .ref te, .ref op, .int 0, .int 0, .int 0, .int 1, .int 0]))] sz) := by
  refine Met.ofW (cc := cX4_peek) (maxL := 1) (ret := (some .int)) (by decide) rfl ?_
  intro p e s m args below meth c s₁ B hml hv
  obtain ⟨rfl, hsz, hP, hK, hN, hD0⟩ := hv
  have hx := B.exec
  have hb := B.bytes
  have hr := B.returns
  have hts := atoms_spec (ws := wd_X4_peekC) B.pre
  have hown : s.vm.findClass RX4 = some m.cls := findClass_of_methodNamed B.named
  have hlocks := B.notSynchronized
  subst hsz
  have hD := hD0.self (sz := s.heap.size)
  generalize hAe : va_A [(h, .inr (4, [.ref po, .ref te, .ref op, .int 0, .int 0, .int 0, .int 1, .int 0]))] s.heap.size = A at hD ⊢
  have hA : ∀ q : Nat, s.heap.size ≤ q → A q := fun q h => by rw [← hAe]; exact Or.inr h
  have hS : va_S A s.heap s.heap [] := va_S.rf
  have hiX4 : ∀ w ∈ wsX40, w ∈ wd_X4_peekC := mb_X4_peekC_0
  have hl := lv_entry ([.ref h]) (n := 1) (Nat.le_of_ble_eq_true rfl)
  rw [lg_entry_eq]
  generalize (lg_sl ([.ref h]) ++ List.replicate (1 - (lg_sl ([.ref h])).length) Slot.unset).toArray = ls at hl ⊢
  have hl : lv_has ls 1 [(0, .ref h)] := hl
  refine lv_aload_n hx hb dX4_peek_0 rfl (lv_at hl 0 rfl) ?_
  refine va_get (D := D) (ci := 4) (v := .int 0) (C := RX4) (T := TX4) (N := 8) hx hb hts hiX4 hown hK hP 0 rfl rfl 7 (by decide) (hts (.fieldLink RX4 22 "DynamicLogicProver$Parser" "fault" "I") (mo_X4_peekC 0 rfl)) (fun _ h9 => h9) rfl dX4_peek_1 ?_
  refine lv_iconst (v := (-1)) hx hb dX4_peek_4 (by decide) ?_
  refine lv_icmp_ne (tgt := 19) hx hb dX4_peek_5 (by decide) (fun c_1 => ?_) (fun c_1 => ?_)
  · refine lv_iconst (v := (-1)) hx hb dX4_peek_19 (by decide) ?_
    refine lv_goto (tgt := 34) hx hb dX4_peek_20 (by decide) ?_
    have hP9 := hP.sub (ws' := [(h, .inr (4, [.ref po, .ref te, .ref op, .int 0, .int 0, .int 0, .int 1, .int 0]))]) [0] rfl
    have hD9 := hD.sub (ws' := [(h, .inr (4, [.ref po, .ref te, .ref op, .int 0, .int 0, .int 0, .int 1, .int 0]))]) [0] (by decide) rfl
    have hK9 := hK.sub (tys' := []) [] rfl
    exact W.iret (v := (-1)) hx hb hr (fun tZ htZ hW => ⟨⟨(-1), (), rfl, rfl, by rw [htZ]; exact hP9, va_K.moved hW.alike hK9, hD9⟩, hS.F htZ⟩) hS.2.2 dX4_peek_34
  · exact absurd c_1 (by decide)
theorem dX4_skip_0 : decode cX4_skip 0 = .ok (.aload_n 0, 1) := by decide +kernel
theorem dX4_skip_1 : decode cX4_skip 1 = .ok (.invokevirtual 46, 3) := by decide +kernel
theorem dX4_skip_4 : decode cX4_skip 4 = .ok (.iload_n 1, 1) := by decide +kernel
theorem dX4_skip_5 : decode cX4_skip 5 = .ok (.if_icmp .eq 5, 3) := by decide +kernel
theorem dX4_skip_8 : decode cX4_skip 8 = .ok (.iconst 0, 1) := by decide +kernel
theorem dX4_skip_9 : decode cX4_skip 9 = .ok (.ireturn, 1) := by decide +kernel
theorem dX4_skip_10 : decode cX4_skip 10 = .ok (.aload_n 0, 1) := by decide +kernel
theorem dX4_skip_11 : decode cX4_skip 11 = .ok (.dup, 1) := by decide +kernel
theorem dX4_skip_12 : decode cX4_skip 12 = .ok (.getfield 29, 3) := by decide +kernel
theorem dX4_skip_15 : decode cX4_skip 15 = .ok (.iconst 1, 1) := by decide +kernel
theorem dX4_skip_16 : decode cX4_skip 16 = .ok (.iadd, 1) := by decide +kernel
theorem dX4_skip_17 : decode cX4_skip 17 = .ok (.putfield 29, 3) := by decide +kernel
theorem dX4_skip_20 : decode cX4_skip 20 = .ok (.iconst 1, 1) := by decide +kernel
theorem dX4_skip_21 : decode cX4_skip 21 = .ok (.ireturn, 1) := by decide +kernel
def wo_X4_skipB : List Cond := [.methodLink RX4 46 yX4_peek, .instanceMethod yX4_peek, .selects RX4 yX4_peek yX4_peek, .initialized RX4]
def wd_X4_skipB : List Cond := .code yX4_skip cX4_skip 2 (some .boolean) :: (wo_X4_skipB ++ (wd_X4_peekB ++ ([] : List Cond)))
theorem mo_X4_skipB {w : Cond} (i : Nat) (h : wo_X4_skipB[i]? = some w) : w ∈ wd_X4_skipB := List.mem_cons_of_mem _ (List.mem_append_left _ (List.mem_of_getElem? h))
theorem mb_X4_skipB_0 : ∀ w ∈ wd_X4_peekB, w ∈ wd_X4_skipB := fun w h => List.mem_cons_of_mem _ (List.mem_append_right _ (List.mem_append_left _ h))
theorem hd_X4_skip : yX4_skip.cls ≠ "java/lang/invoke/MethodHandle" ∧ yX4_skip.cls ≠ "java/lang/invoke/VarHandle" ∧ (parseMethodDescriptor yX4_skip.desc).map (fun d => d.parameters.length) = some 1 := by decide +kernel
set_option maxRecDepth 20000 in
theorem gw_X4_skipB : wd_X4_skipB.all goodWord = true := by decide +kernel
abbrev qc_X4_skipB (D : va_G) (h : Nat) (po : Nat) (te : Nat) (op : Nat) (g : Int32) (A : Nat → Prop) : Array Value → State → Outcome → State → Prop := va_Qi (fun (r : Int32) (uZ : Unit) => r = 0) (fun uZ tZ => kc_pos D A [(h, .inr (4, [.ref po, .ref te, .ref op, .int 0, .int 0, .int 0, .int 0, .int 0]))] [] tZ) A
set_option maxHeartbeats 4000000 in
set_option maxRecDepth 100000 in
theorem ct_X4_skipB (l : Launch) (D : va_G) (h : Nat) (po : Nat) (te : Nat) (op : Nat) (g : Int32) (sz : Nat) (hg : ¬ (-1 : Int32) = g) : Met l yX4_skip wd_X4_skipB ({ frames := 1, cells := 0, slots := 0, locals := 20 }) (va_Pc [.ref h, .int g] (kc_pre D [] [(h, .inr (4, [.ref po, .ref te, .ref op, .int 0, .int 0, .int 0, .int 0, .int 0]))] sz)) (qc_X4_skipB D h po te op g (va_A [(h, .inr (4, [.ref po, .ref te, .ref op, .int 0, .int 0, .int 0, .int 0, .int 0]))] sz)) 0 0 (va_A [(h, .inr (4, [.ref po, .ref te, .ref op, .int 0, .int 0, .int 0, .int 0, .int 0]))] sz) := by
  refine Met.ofW (cc := cX4_skip) (maxL := 2) (ret := (some .boolean)) (by decide) rfl ?_
  intro p e s m args below meth c s₁ B hml hv
  obtain ⟨rfl, hsz, hP, hK, hN, hD0⟩ := hv
  have hx := B.exec
  have hb := B.bytes
  have hr := B.returns
  have hts := atoms_spec (ws := wd_X4_skipB) B.pre
  have hown : s.vm.findClass RX4 = some m.cls := findClass_of_methodNamed B.named
  have hlocks := B.notSynchronized
  subst hsz
  have hD := hD0.self (sz := s.heap.size)
  generalize hAe : va_A [(h, .inr (4, [.ref po, .ref te, .ref op, .int 0, .int 0, .int 0, .int 0, .int 0]))] s.heap.size = A at hD ⊢
  have hA : ∀ q : Nat, s.heap.size ≤ q → A q := fun q h => by rw [← hAe]; exact Or.inr h
  have hS : va_S A s.heap s.heap [] := va_S.rf
  have hl := lv_entry ([.ref h, .int g]) (n := 2) (Nat.le_of_ble_eq_true rfl)
  rw [lg_entry_eq]
  generalize (lg_sl ([.ref h, .int g]) ++ List.replicate (2 - (lg_sl ([.ref h, .int g])).length) Slot.unset).toArray = ls at hl ⊢
  have hl : lv_has ls 2 [(0, .ref h), (1, .int g)] := hl
  refine lv_aload_n hx hb dX4_skip_0 rfl (lv_at hl 0 rfl) ?_
  refine kc_Vi (As := []) (rest := []) (wr := []) ⟨hx, hb, hml, hown, hts⟩ (ct_X4_peekB l D h po te op _ ) (cwV 0 hts (kg_V (mo_X4_skipB 0 rfl) (mo_X4_skipB 1 rfl) (mo_X4_skipB 2 rfl) (mo_X4_skipB 3 rfl) (goodIn_sub mb_X4_skipB_0 gw_X4_peekB)) rfl rfl rfl ⟨rfl, hd_X4_peek⟩ ⟨Nat.le_of_ble_eq_true rfl, Nat.le_of_ble_eq_true rfl⟩) (RX4, TX4, 8) 4 0 rfl rfl rfl hK hN hP hD hS hA [0] [] [] rfl rfl (by decide) (by decide) (by decide) rfl rfl hl.1 rfl (Nat.le_of_ble_eq_true rfl) dX4_skip_1 ⟨Nat.le_of_ble_eq_true rfl, Nat.le_of_ble_eq_true rfl⟩ (fun r_1 u_2 H locs w_3 hP hD hK1 hS => ?_)
  have hP : va_P D vwCl [(h, .inr (4, [.ref po, .ref te, .ref op, .int 0, .int 0, .int 0, .int 0, .int 0]))] H := hP
  have hD : va_D A [(h, .inr (4, [.ref po, .ref te, .ref op, .int 0, .int 0, .int 0, .int 0, .int 0]))] := hD
  have w_3 : r_1 = (-1) := w_3
  subst w_3
  refine lv_iload_n hx hb dX4_skip_4 rfl (lv_at hl 1 rfl) ?_
  refine lv_icmp_eq (tgt := 10) hx hb dX4_skip_5 (by decide) (fun c_4 => ?_) (fun c_4 => ?_)
  · exact absurd c_4 hg
  · refine lv_iconst (v := 0) hx hb dX4_skip_8 (by decide) ?_
    have hP9 := hP.sub (ws' := [(h, .inr (4, [.ref po, .ref te, .ref op, .int 0, .int 0, .int 0, .int 0, .int 0]))]) [0] rfl
    have hD9 := hD.sub (ws' := [(h, .inr (4, [.ref po, .ref te, .ref op, .int 0, .int 0, .int 0, .int 0, .int 0]))]) [0] (by decide) rfl
    have hK9 := hK.sub (tys' := []) [] rfl
    exact W.zret (v := 0) (ty := .boolean) hx hb hr rfl (fun tZ htZ hW => ⟨⟨0, (), rfl, rfl, by rw [htZ]; exact hP9, va_K.moved hW.alike hK9, hD9⟩, hS.F htZ⟩) hS.2.2 dX4_skip_9
def wo_X4_skipC : List Cond := [.methodLink RX4 46 yX4_peek, .instanceMethod yX4_peek, .selects RX4 yX4_peek yX4_peek, .initialized RX4]
def wd_X4_skipC : List Cond := .code yX4_skip cX4_skip 2 (some .boolean) :: (wo_X4_skipC ++ (wd_X4_peekC ++ ([] : List Cond)))
theorem mo_X4_skipC {w : Cond} (i : Nat) (h : wo_X4_skipC[i]? = some w) : w ∈ wd_X4_skipC := List.mem_cons_of_mem _ (List.mem_append_left _ (List.mem_of_getElem? h))
theorem mb_X4_skipC_0 : ∀ w ∈ wd_X4_peekC, w ∈ wd_X4_skipC := fun w h => List.mem_cons_of_mem _ (List.mem_append_right _ (List.mem_append_left _ h))
set_option maxRecDepth 20000 in
theorem gw_X4_skipC : wd_X4_skipC.all goodWord = true := by decide +kernel
abbrev qc_X4_skipC (D : va_G) (h : Nat) (po : Nat) (te : Nat) (op : Nat) (g : Int32) (A : Nat → Prop) : Array Value → State → Outcome → State → Prop := va_Qi (fun (r : Int32) (uZ : Unit) => r = 0) (fun uZ tZ => kc_pos D A [(h, .inr (4, [.ref po, .ref te, .ref op, .int 0, .int 0, .int 0, .int 1, .int 0]))] [] tZ) A
set_option maxHeartbeats 4000000 in
set_option maxRecDepth 100000 in
theorem ct_X4_skipC (l : Launch) (D : va_G) (h : Nat) (po : Nat) (te : Nat) (op : Nat) (g : Int32) (sz : Nat) (hg : ¬ (-1 : Int32) = g) : Met l yX4_skip wd_X4_skipC ({ frames := 1, cells := 0, slots := 0, locals := 20 }) (va_Pc [.ref h, .int g] (kc_pre D [] [(h, .inr (4, [.ref po, .ref te, .ref op, .int 0, .int 0, .int 0, .int 1, .int 0]))] sz)) (qc_X4_skipC D h po te op g (va_A [(h, .inr (4, [.ref po, .ref te, .ref op, .int 0, .int 0, .int 0, .int 1, .int 0]))] sz)) 0 0 (va_A [(h, .inr (4, [.ref po, .ref te, .ref op, .int 0, .int 0, .int 0, .int 1, .int 0]))] sz) := by
  refine Met.ofW (cc := cX4_skip) (maxL := 2) (ret := (some .boolean)) (by decide) rfl ?_
  intro p e s m args below meth c s₁ B hml hv
  obtain ⟨rfl, hsz, hP, hK, hN, hD0⟩ := hv
  have hx := B.exec
  have hb := B.bytes
  have hr := B.returns
  have hts := atoms_spec (ws := wd_X4_skipC) B.pre
  have hown : s.vm.findClass RX4 = some m.cls := findClass_of_methodNamed B.named
  have hlocks := B.notSynchronized
  subst hsz
  have hD := hD0.self (sz := s.heap.size)
  generalize hAe : va_A [(h, .inr (4, [.ref po, .ref te, .ref op, .int 0, .int 0, .int 0, .int 1, .int 0]))] s.heap.size = A at hD ⊢
  have hA : ∀ q : Nat, s.heap.size ≤ q → A q := fun q h => by rw [← hAe]; exact Or.inr h
  have hS : va_S A s.heap s.heap [] := va_S.rf
  have hl := lv_entry ([.ref h, .int g]) (n := 2) (Nat.le_of_ble_eq_true rfl)
  rw [lg_entry_eq]
  generalize (lg_sl ([.ref h, .int g]) ++ List.replicate (2 - (lg_sl ([.ref h, .int g])).length) Slot.unset).toArray = ls at hl ⊢
  have hl : lv_has ls 2 [(0, .ref h), (1, .int g)] := hl
  refine lv_aload_n hx hb dX4_skip_0 rfl (lv_at hl 0 rfl) ?_
  refine kc_Vi (As := []) (rest := []) (wr := []) ⟨hx, hb, hml, hown, hts⟩ (ct_X4_peekC l D h po te op _ ) (cwV 0 hts (kg_V (mo_X4_skipC 0 rfl) (mo_X4_skipC 1 rfl) (mo_X4_skipC 2 rfl) (mo_X4_skipC 3 rfl) (goodIn_sub mb_X4_skipC_0 gw_X4_peekC)) rfl rfl rfl ⟨rfl, hd_X4_peek⟩ ⟨Nat.le_of_ble_eq_true rfl, Nat.le_of_ble_eq_true rfl⟩) (RX4, TX4, 8) 4 0 rfl rfl rfl hK hN hP hD hS hA [0] [] [] rfl rfl (by decide) (by decide) (by decide) rfl rfl hl.1 rfl (Nat.le_of_ble_eq_true rfl) dX4_skip_1 ⟨Nat.le_of_ble_eq_true rfl, Nat.le_of_ble_eq_true rfl⟩ (fun r_1 u_2 H locs w_3 hP hD hK1 hS => ?_)
  have hP : va_P D vwCl [(h, .inr (4, [.ref po, .ref te, .ref op, .int 0, .int 0, .int 0, .int 1, .int 0]))] H := hP
  have hD : va_D A [(h, .inr (4, [.ref po, .ref te, .ref op, .int 0, .int 0, .int 0, .int 1, .int 0]))] := hD
  have w_3 : r_1 = (-1) := w_3
  subst w_3
  refine lv_iload_n hx hb dX4_skip_4 rfl (lv_at hl 1 rfl) ?_
  refine lv_icmp_eq (tgt := 10) hx hb dX4_skip_5 (by decide) (fun c_4 => ?_) (fun c_4 => ?_)
  · exact absurd c_4 hg
  · refine lv_iconst (v := 0) hx hb dX4_skip_8 (by decide) ?_
    have hP9 := hP.sub (ws' := [(h, .inr (4, [.ref po, .ref te, .ref op, .int 0, .int 0, .int 0, .int 1, .int 0]))]) [0] rfl
    have hD9 := hD.sub (ws' := [(h, .inr (4, [.ref po, .ref te, .ref op, .int 0, .int 0, .int 0, .int 1, .int 0]))]) [0] (by decide) rfl
    have hK9 := hK.sub (tys' := []) [] rfl
    exact W.zret (v := 0) (ty := .boolean) hx hb hr rfl (fun tZ htZ hW => ⟨⟨0, (), rfl, rfl, by rw [htZ]; exact hP9, va_K.moved hW.alike hK9, hD9⟩, hS.F htZ⟩) hS.2.2 dX4_skip_9
theorem dX4_fail_0 : decode cX4_fail 0 = .ok (.aload_n 0, 1) := by decide +kernel
theorem dX4_fail_1 : decode cX4_fail 1 = .ok (.getfield 22, 3) := by decide +kernel
theorem dX4_fail_4 : decode cX4_fail 4 = .ok (.iconst (-1), 1) := by decide +kernel
theorem dX4_fail_5 : decode cX4_fail 5 = .ok (.if_icmp .ne 11, 3) := by decide +kernel
theorem dX4_fail_8 : decode cX4_fail 8 = .ok (.aload_n 0, 1) := by decide +kernel
theorem dX4_fail_9 : decode cX4_fail 9 = .ok (.aload_n 0, 1) := by decide +kernel
theorem dX4_fail_10 : decode cX4_fail 10 = .ok (.getfield 29, 3) := by decide +kernel
theorem dX4_fail_13 : decode cX4_fail 13 = .ok (.putfield 22, 3) := by decide +kernel
theorem dX4_fail_16 : decode cX4_fail 16 = .ok (.iconst (-1), 1) := by decide +kernel
theorem dX4_fail_17 : decode cX4_fail 17 = .ok (.ireturn, 1) := by decide +kernel
def wo_X4_failA : List Cond := [.fieldLink RX4 22 "DynamicLogicProver$Parser" "fault" "I", .fieldLink RX4 29 "DynamicLogicProver$Parser" "place" "I"]
def wd_X4_failA : List Cond := .code yX4_fail cX4_fail 1 (some .int) :: (wo_X4_failA ++ (wsX40 ++ ([] : List Cond)))
theorem mo_X4_failA {w : Cond} (i : Nat) (h : wo_X4_failA[i]? = some w) : w ∈ wd_X4_failA := List.mem_cons_of_mem _ (List.mem_append_left _ (List.mem_of_getElem? h))
theorem mb_X4_failA_0 : ∀ w ∈ wsX40, w ∈ wd_X4_failA := fun w h => List.mem_cons_of_mem _ (List.mem_append_right _ (List.mem_append_left _ h))
theorem hd_X4_fail : yX4_fail.cls ≠ "java/lang/invoke/MethodHandle" ∧ yX4_fail.cls ≠ "java/lang/invoke/VarHandle" ∧ (parseMethodDescriptor yX4_fail.desc).map (fun d => d.parameters.length) = some 0 := by decide +kernel
set_option maxRecDepth 20000 in
theorem gw_X4_failA : wd_X4_failA.all goodWord = true := by decide +kernel
abbrev qc_X4_failA (D : va_G) (h : Nat) (po : Nat) (te : Nat) (op : Nat) (A : Nat → Prop) : Array Value → State → Outcome → State → Prop := va_Qi (fun (r : Int32) (uZ : Unit) => r = (-1)) (fun uZ tZ => kc_pos D A [(h, .inr (4, [.ref po, .ref te, .ref op, .int 0, .int 0, .int 0, .int 0, .int 0]))] [] tZ) A
set_option maxHeartbeats 4000000 in
set_option maxRecDepth 100000 in
theorem ct_X4_failA (l : Launch) (D : va_G) (h : Nat) (po : Nat) (te : Nat) (op : Nat) (sz : Nat)  : Met l yX4_fail wd_X4_failA ({ frames := 0, cells := 0, slots := 0, locals := 0 }) (va_Pc [.ref h] (kc_pre D [] [(h, .inr (4, [.ref po, .ref te, .ref op, .int 0, .int 0, .int 0, .int 0, .int (-1)]))] sz)) (qc_X4_failA D h po te op (va_A [(h, .inr (4, [.ref po, .ref te, .ref op, .int 0, .int 0, .int 0, .int 0, .int (-1)]))] sz)) 0 0 (va_A [(h, .inr (4, [.ref po, .ref te, .ref op, .int 0, .int 0, .int 0, .int 0, .int (-1)]))] sz) := by
  refine Met.ofW (cc := cX4_fail) (maxL := 1) (ret := (some .int)) (by decide) rfl ?_
  intro p e s m args below meth c s₁ B hml hv
  obtain ⟨rfl, hsz, hP, hK, hN, hD0⟩ := hv
  have hx := B.exec
  have hb := B.bytes
  have hr := B.returns
  have hts := atoms_spec (ws := wd_X4_failA) B.pre
  have hown : s.vm.findClass RX4 = some m.cls := findClass_of_methodNamed B.named
  have hlocks := B.notSynchronized
  subst hsz
  have hD := hD0.self (sz := s.heap.size)
  generalize hAe : va_A [(h, .inr (4, [.ref po, .ref te, .ref op, .int 0, .int 0, .int 0, .int 0, .int (-1)]))] s.heap.size = A at hD ⊢
  have hA : ∀ q : Nat, s.heap.size ≤ q → A q := fun q h => by rw [← hAe]; exact Or.inr h
  have hS : va_S A s.heap s.heap [] := va_S.rf
  have hiX4 : ∀ w ∈ wsX40, w ∈ wd_X4_failA := mb_X4_failA_0
  have hl := lv_entry ([.ref h]) (n := 1) (Nat.le_of_ble_eq_true rfl)
  rw [lg_entry_eq]
  generalize (lg_sl ([.ref h]) ++ List.replicate (1 - (lg_sl ([.ref h])).length) Slot.unset).toArray = ls at hl ⊢
  have hl : lv_has ls 1 [(0, .ref h)] := hl
  refine lv_aload_n hx hb dX4_fail_0 rfl (lv_at hl 0 rfl) ?_
  refine va_get (D := D) (ci := 4) (v := .int (-1)) (C := RX4) (T := TX4) (N := 8) hx hb hts hiX4 hown hK hP 0 rfl rfl 7 (by decide) (hts (.fieldLink RX4 22 "DynamicLogicProver$Parser" "fault" "I") (mo_X4_failA 0 rfl)) (fun _ h9 => h9) rfl dX4_fail_1 ?_
  refine lv_iconst (v := (-1)) hx hb dX4_fail_4 (by decide) ?_
  refine lv_icmp_ne (tgt := 16) hx hb dX4_fail_5 (by decide) (fun c_1 => ?_) (fun c_1 => ?_)
  · exact absurd c_1 (by decide)
  · refine lv_aload_n hx hb dX4_fail_8 rfl (lv_at hl 0 rfl) ?_
    refine lv_aload_n hx hb dX4_fail_9 rfl (lv_at hl 0 rfl) ?_
    refine va_get (D := D) (ci := 4) (v := .int 0) (C := RX4) (T := TX4) (N := 8) hx hb hts hiX4 hown hK hP 0 rfl rfl 4 (by decide) (hts (.fieldLink RX4 29 "DynamicLogicProver$Parser" "place" "I") (mo_X4_failA 1 rfl)) (fun _ h9 => h9) rfl dX4_fail_10 ?_
    refine va_put (D := D) (ci := 4) (v := .int 0) (ty := .int) (C := RX4) (T := TX4) (N := 8) hx hb hts hiX4 tyX4 tyX4_ok nmX4 hown hK hP hD hS 0 rfl rfl 7 (by decide) (hts (.fieldLink RX4 22 "DynamicLogicProver$Parser" "fault" "I") (mo_X4_failA 0 rfl)) (fun _ h9 => h9) rfl (tyX4_ok 7 (by decide)) rfl rfl (Nat.le_of_ble_eq_true rfl) dX4_fail_13 (fun H locs hP hD hS => ?_)
    have hP : va_P D vwCl [(h, .inr (4, [.ref po, .ref te, .ref op, .int 0, .int 0, .int 0, .int 0, .int 0]))] H := hP
    have hD : va_D A [(h, .inr (4, [.ref po, .ref te, .ref op, .int 0, .int 0, .int 0, .int 0, .int 0]))] := hD
    refine lv_iconst (v := (-1)) hx hb dX4_fail_16 (by decide) ?_
    have hP9 := hP.sub (ws' := [(h, .inr (4, [.ref po, .ref te, .ref op, .int 0, .int 0, .int 0, .int 0, .int 0]))]) [0] rfl
    have hD9 := hD.sub (ws' := [(h, .inr (4, [.ref po, .ref te, .ref op, .int 0, .int 0, .int 0, .int 0, .int 0]))]) [0] (by decide) rfl
    have hK9 := hK.sub (tys' := []) [] rfl
    exact W.iret (v := (-1)) hx hb hr (fun tZ htZ hW => ⟨⟨(-1), (), rfl, rfl, by rw [htZ]; exact hP9, va_K.moved hW.alike hK9, hD9⟩, hS.F htZ⟩) hS.2.2 dX4_fail_17
theorem dX4_unary_0 : decode cX4_unary 0 = .ok (.aload_n 0, 1) := by decide +kernel
theorem dX4_unary_1 : decode cX4_unary 1 = .ok (.invokevirtual 46, 3) := by decide +kernel
theorem dX4_unary_4 : decode cX4_unary 4 = .ok (.istore_n 1, 1) := by decide +kernel
theorem dX4_unary_5 : decode cX4_unary 5 = .ok (.iload_n 1, 1) := by decide +kernel
theorem dX4_unary_6 : decode cX4_unary 6 = .ok (.bipush 48, 2) := by decide +kernel
theorem dX4_unary_8 : decode cX4_unary 8 = .ok (.if_icmp .eq 15, 3) := by decide +kernel
theorem dX4_unary_11 : decode cX4_unary 11 = .ok (.iload_n 1, 1) := by decide +kernel
theorem dX4_unary_12 : decode cX4_unary 12 = .ok (.bipush 112, 2) := by decide +kernel
theorem dX4_unary_14 : decode cX4_unary 14 = .ok (.if_icmp .lt 28, 3) := by decide +kernel
theorem dX4_unary_17 : decode cX4_unary 17 = .ok (.iload_n 1, 1) := by decide +kernel
theorem dX4_unary_18 : decode cX4_unary 18 = .ok (.bipush 115, 2) := by decide +kernel
theorem dX4_unary_20 : decode cX4_unary 20 = .ok (.if_icmp .gt 22, 3) := by decide +kernel
theorem dX4_unary_23 : decode cX4_unary 23 = .ok (.aload_n 0, 1) := by decide +kernel
theorem dX4_unary_24 : decode cX4_unary 24 = .ok (.dup, 1) := by decide +kernel
theorem dX4_unary_25 : decode cX4_unary 25 = .ok (.getfield 29, 3) := by decide +kernel
theorem dX4_unary_28 : decode cX4_unary 28 = .ok (.iconst 1, 1) := by decide +kernel
theorem dX4_unary_29 : decode cX4_unary 29 = .ok (.iadd, 1) := by decide +kernel
theorem dX4_unary_30 : decode cX4_unary 30 = .ok (.putfield 29, 3) := by decide +kernel
theorem dX4_unary_33 : decode cX4_unary 33 = .ok (.aload_n 0, 1) := by decide +kernel
theorem dX4_unary_34 : decode cX4_unary 34 = .ok (.getfield 15, 3) := by decide +kernel
theorem dX4_unary_37 : decode cX4_unary 37 = .ok (.iload_n 1, 1) := by decide +kernel
theorem dX4_unary_38 : decode cX4_unary 38 = .ok (.invokevirtual 83, 3) := by decide +kernel
theorem dX4_unary_41 : decode cX4_unary 41 = .ok (.ireturn, 1) := by decide +kernel
theorem dX4_unary_42 : decode cX4_unary 42 = .ok (.iload_n 1, 1) := by decide +kernel
theorem dX4_unary_43 : decode cX4_unary 43 = .ok (.bipush 49, 2) := by decide +kernel
theorem dX4_unary_45 : decode cX4_unary 45 = .ok (.if_icmp .ne 21, 3) := by decide +kernel
theorem dX4_unary_48 : decode cX4_unary 48 = .ok (.aload_n 0, 1) := by decide +kernel
theorem dX4_unary_49 : decode cX4_unary 49 = .ok (.dup, 1) := by decide +kernel
theorem dX4_unary_50 : decode cX4_unary 50 = .ok (.getfield 29, 3) := by decide +kernel
theorem dX4_unary_53 : decode cX4_unary 53 = .ok (.iconst 1, 1) := by decide +kernel
theorem dX4_unary_54 : decode cX4_unary 54 = .ok (.iadd, 1) := by decide +kernel
theorem dX4_unary_55 : decode cX4_unary 55 = .ok (.putfield 29, 3) := by decide +kernel
theorem dX4_unary_58 : decode cX4_unary 58 = .ok (.aload_n 0, 1) := by decide +kernel
theorem dX4_unary_59 : decode cX4_unary 59 = .ok (.getfield 15, 3) := by decide +kernel
theorem dX4_unary_62 : decode cX4_unary 62 = .ok (.invokevirtual 87, 3) := by decide +kernel
theorem dX4_unary_65 : decode cX4_unary 65 = .ok (.ireturn, 1) := by decide +kernel
theorem dX4_unary_66 : decode cX4_unary 66 = .ok (.iload_n 1, 1) := by decide +kernel
theorem dX4_unary_67 : decode cX4_unary 67 = .ok (.bipush 33, 2) := by decide +kernel
theorem dX4_unary_69 : decode cX4_unary 69 = .ok (.if_icmp .eq 21, 3) := by decide +kernel
theorem dX4_unary_72 : decode cX4_unary 72 = .ok (.iload_n 1, 1) := by decide +kernel
theorem dX4_unary_73 : decode cX4_unary 73 = .ok (.bipush 91, 2) := by decide +kernel
theorem dX4_unary_75 : decode cX4_unary 75 = .ok (.if_icmp .eq 15, 3) := by decide +kernel
theorem dX4_unary_78 : decode cX4_unary 78 = .ok (.iload_n 1, 1) := by decide +kernel
theorem dX4_unary_79 : decode cX4_unary 79 = .ok (.bipush 60, 2) := by decide +kernel
theorem dX4_unary_81 : decode cX4_unary 81 = .ok (.if_icmp .eq 9, 3) := by decide +kernel
theorem dX4_unary_84 : decode cX4_unary 84 = .ok (.iload_n 1, 1) := by decide +kernel
theorem dX4_unary_85 : decode cX4_unary 85 = .ok (.bipush 40, 2) := by decide +kernel
theorem dX4_unary_87 : decode cX4_unary 87 = .ok (.if_icmp .ne 7, 3) := by decide +kernel
theorem dX4_unary_90 : decode cX4_unary 90 = .ok (.iconst 1, 1) := by decide +kernel
theorem dX4_unary_91 : decode cX4_unary 91 = .ok (.goto 4, 3) := by decide +kernel
theorem dX4_unary_94 : decode cX4_unary 94 = .ok (.iconst 0, 1) := by decide +kernel
theorem dX4_unary_95 : decode cX4_unary 95 = .ok (.istore_n 2, 1) := by decide +kernel
theorem dX4_unary_96 : decode cX4_unary 96 = .ok (.iload_n 2, 1) := by decide +kernel
theorem dX4_unary_97 : decode cX4_unary 97 = .ok (.ifCond .eq 12, 3) := by decide +kernel
theorem dX4_unary_100 : decode cX4_unary 100 = .ok (.aload_n 0, 1) := by decide +kernel
theorem dX4_unary_101 : decode cX4_unary 101 = .ok (.getfield 32, 3) := by decide +kernel
theorem dX4_unary_104 : decode cX4_unary 104 = .ok (.bipush 12, 2) := by decide +kernel
theorem dX4_unary_106 : decode cX4_unary 106 = .ok (.if_icmp .lt 8, 3) := by decide +kernel
theorem dX4_unary_109 : decode cX4_unary 109 = .ok (.aload_n 0, 1) := by decide +kernel
theorem dX4_unary_110 : decode cX4_unary 110 = .ok (.invokevirtual 90, 3) := by decide +kernel
theorem dX4_unary_113 : decode cX4_unary 113 = .ok (.ireturn, 1) := by decide +kernel
theorem dX4_unary_114 : decode cX4_unary 114 = .ok (.aload_n 0, 1) := by decide +kernel
theorem dX4_unary_115 : decode cX4_unary 115 = .ok (.dup, 1) := by decide +kernel
theorem dX4_unary_116 : decode cX4_unary 116 = .ok (.getfield 29, 3) := by decide +kernel
theorem dX4_unary_119 : decode cX4_unary 119 = .ok (.iconst 1, 1) := by decide +kernel
theorem dX4_unary_120 : decode cX4_unary 120 = .ok (.iadd, 1) := by decide +kernel
theorem dX4_unary_121 : decode cX4_unary 121 = .ok (.putfield 29, 3) := by decide +kernel
theorem dX4_unary_124 : decode cX4_unary 124 = .ok (.aload_n 0, 1) := by decide +kernel
theorem dX4_unary_125 : decode cX4_unary 125 = .ok (.dup, 1) := by decide +kernel
theorem dX4_unary_126 : decode cX4_unary 126 = .ok (.getfield 32, 3) := by decide +kernel
theorem dX4_unary_129 : decode cX4_unary 129 = .ok (.iconst 1, 1) := by decide +kernel
theorem dX4_unary_130 : decode cX4_unary 130 = .ok (.iadd, 1) := by decide +kernel
theorem dX4_unary_131 : decode cX4_unary 131 = .ok (.putfield 32, 3) := by decide +kernel
theorem dX4_unary_134 : decode cX4_unary 134 = .ok (.aload_n 0, 1) := by decide +kernel
theorem dX4_unary_135 : decode cX4_unary 135 = .ok (.iload_n 1, 1) := by decide +kernel
theorem dX4_unary_136 : decode cX4_unary 136 = .ok (.invokevirtual 93, 3) := by decide +kernel
theorem dX4_unary_139 : decode cX4_unary 139 = .ok (.istore_n 3, 1) := by decide +kernel
theorem dX4_unary_140 : decode cX4_unary 140 = .ok (.aload_n 0, 1) := by decide +kernel
theorem dX4_unary_141 : decode cX4_unary 141 = .ok (.dup, 1) := by decide +kernel
theorem dX4_unary_142 : decode cX4_unary 142 = .ok (.getfield 32, 3) := by decide +kernel
theorem dX4_unary_145 : decode cX4_unary 145 = .ok (.iconst 1, 1) := by decide +kernel
theorem dX4_unary_146 : decode cX4_unary 146 = .ok (.isub, 1) := by decide +kernel
theorem dX4_unary_147 : decode cX4_unary 147 = .ok (.putfield 32, 3) := by decide +kernel
theorem dX4_unary_150 : decode cX4_unary 150 = .ok (.iload_n 3, 1) := by decide +kernel
theorem dX4_unary_151 : decode cX4_unary 151 = .ok (.ireturn, 1) := by decide +kernel
def wo_X4_unaryA : List Cond := [.methodLink RX4 46 yX4_peek, .instanceMethod yX4_peek, .selects RX4 yX4_peek yX4_peek, .initialized RX4, .methodLink RX4 90 yX4_fail, .instanceMethod yX4_fail, .selects RX4 yX4_fail yX4_fail]
def wd_X4_unaryA : List Cond := .code yX4_unary cX4_unary 4 (some .int) :: (wo_X4_unaryA ++ (wd_X4_peekA ++ (wd_X4_failA ++ ([] : List Cond))))
theorem mo_X4_unaryA {w : Cond} (i : Nat) (h : wo_X4_unaryA[i]? = some w) : w ∈ wd_X4_unaryA := List.mem_cons_of_mem _ (List.mem_append_left _ (List.mem_of_getElem? h))
theorem mb_X4_unaryA_0 : ∀ w ∈ wd_X4_peekA, w ∈ wd_X4_unaryA := fun w h => List.mem_cons_of_mem _ (List.mem_append_right _ (List.mem_append_left _ h))
theorem mb_X4_unaryA_1 : ∀ w ∈ wd_X4_failA, w ∈ wd_X4_unaryA := fun w h => List.mem_cons_of_mem _ (List.mem_append_right _ (List.mem_append_right _ (List.mem_append_left _ h)))
theorem hd_X4_unary : yX4_unary.cls ≠ "java/lang/invoke/MethodHandle" ∧ yX4_unary.cls ≠ "java/lang/invoke/VarHandle" ∧ (parseMethodDescriptor yX4_unary.desc).map (fun d => d.parameters.length) = some 0 := by decide +kernel
set_option maxRecDepth 20000 in
theorem gw_X4_unaryA : wd_X4_unaryA.all goodWord = true := by decide +kernel
abbrev qc_X4_unaryA (D : va_G) (h : Nat) (po : Nat) (te : Nat) (op : Nat) (A : Nat → Prop) : Array Value → State → Outcome → State → Prop := va_Qi (fun (r : Int32) (uZ : Unit) => r = (-1)) (fun uZ tZ => kc_pos D A [(h, .inr (4, [.ref po, .ref te, .ref op, .int 0, .int 0, .int 0, .int 0, .int 0]))] [] tZ) A
set_option maxHeartbeats 4000000 in
set_option maxRecDepth 100000 in
theorem ct_X4_unaryA (l : Launch) (D : va_G) (h : Nat) (po : Nat) (te : Nat) (op : Nat) (sz : Nat)  : Met l yX4_unary wd_X4_unaryA ({ frames := 1, cells := 0, slots := 0, locals := 20 }) (va_Pc [.ref h] (kc_pre D [] [(h, .inr (4, [.ref po, .ref te, .ref op, .int 0, .int 0, .int 0, .int 0, .int (-1)]))] sz)) (qc_X4_unaryA D h po te op (va_A [(h, .inr (4, [.ref po, .ref te, .ref op, .int 0, .int 0, .int 0, .int 0, .int (-1)]))] sz)) 0 0 (va_A [(h, .inr (4, [.ref po, .ref te, .ref op, .int 0, .int 0, .int 0, .int 0, .int (-1)]))] sz) := by
  refine Met.ofW (cc := cX4_unary) (maxL := 4) (ret := (some .int)) (by decide) rfl ?_
  intro p e s m args below meth c s₁ B hml hv
  obtain ⟨rfl, hsz, hP, hK, hN, hD0⟩ := hv
  have hx := B.exec
  have hb := B.bytes
  have hr := B.returns
  have hts := atoms_spec (ws := wd_X4_unaryA) B.pre
  have hown : s.vm.findClass RX4 = some m.cls := findClass_of_methodNamed B.named
  have hlocks := B.notSynchronized
  subst hsz
  have hD := hD0.self (sz := s.heap.size)
  generalize hAe : va_A [(h, .inr (4, [.ref po, .ref te, .ref op, .int 0, .int 0, .int 0, .int 0, .int (-1)]))] s.heap.size = A at hD ⊢
  have hA : ∀ q : Nat, s.heap.size ≤ q → A q := fun q h => by rw [← hAe]; exact Or.inr h
  have hS : va_S A s.heap s.heap [] := va_S.rf
  have hl := lv_entry ([.ref h]) (n := 4) (Nat.le_of_ble_eq_true rfl)
  rw [lg_entry_eq]
  generalize (lg_sl ([.ref h]) ++ List.replicate (4 - (lg_sl ([.ref h])).length) Slot.unset).toArray = ls at hl ⊢
  have hl : lv_has ls 4 [(0, .ref h)] := hl
  refine lv_aload_n hx hb dX4_unary_0 rfl (lv_at hl 0 rfl) ?_
  refine kc_Vi (As := []) (rest := []) (wr := []) ⟨hx, hb, hml, hown, hts⟩ (ct_X4_peekA l D h po te op _ ) (cwV 0 hts (kg_V (mo_X4_unaryA 0 rfl) (mo_X4_unaryA 1 rfl) (mo_X4_unaryA 2 rfl) (mo_X4_unaryA 3 rfl) (goodIn_sub mb_X4_unaryA_0 gw_X4_peekA)) rfl rfl rfl ⟨rfl, hd_X4_peek⟩ ⟨Nat.le_of_ble_eq_true rfl, Nat.le_of_ble_eq_true rfl⟩) (RX4, TX4, 8) 4 0 rfl rfl rfl hK hN hP hD hS hA [0] [] [] rfl rfl (by decide) (by decide) (by decide) rfl rfl hl.1 rfl (Nat.le_of_ble_eq_true rfl) dX4_unary_1 ⟨Nat.le_of_ble_eq_true rfl, Nat.le_of_ble_eq_true rfl⟩ (fun r_1 u_2 H locs w_3 hP hD hK1 hS => ?_)
  have hP : va_P D vwCl [(h, .inr (4, [.ref po, .ref te, .ref op, .int 0, .int 0, .int 0, .int 0, .int (-1)]))] H := hP
  have hD : va_D A [(h, .inr (4, [.ref po, .ref te, .ref op, .int 0, .int 0, .int 0, .int 0, .int (-1)]))] := hD
  have w_3 : r_1 = (-1) := w_3
  subst w_3
  refine lv_istore_n (lv' := [(1, .int (-1)), (0, .ref h)]) hx hb dX4_unary_4 rfl hl (by decide) rfl (fun ls hl => ?_)
  refine lv_iload_n hx hb dX4_unary_5 rfl (lv_at hl 0 rfl) ?_
  refine lv_bipush (v := 48) hx hb dX4_unary_6 (by decide) ?_
  refine lv_icmp_eq (tgt := 23) hx hb dX4_unary_8 (by decide) (fun c_4 => ?_) (fun c_4 => ?_)
  · exact absurd c_4 (by decide)
  · refine lv_iload_n hx hb dX4_unary_11 rfl (lv_at hl 0 rfl) ?_
    refine lv_bipush (v := 112) hx hb dX4_unary_12 (by decide) ?_
    refine lv_icmp_lt (tgt := 42) hx hb dX4_unary_14 (by decide) (fun c_5 => ?_) (fun c_5 => ?_)
    · refine lv_iload_n hx hb dX4_unary_42 rfl (lv_at hl 0 rfl) ?_
      refine lv_bipush (v := 49) hx hb dX4_unary_43 (by decide) ?_
      refine lv_icmp_ne (tgt := 66) hx hb dX4_unary_45 (by decide) (fun c_6 => ?_) (fun c_6 => ?_)
      · refine lv_iload_n hx hb dX4_unary_66 rfl (lv_at hl 0 rfl) ?_
        refine lv_bipush (v := 33) hx hb dX4_unary_67 (by decide) ?_
        refine lv_icmp_eq (tgt := 90) hx hb dX4_unary_69 (by decide) (fun c_7 => ?_) (fun c_7 => ?_)
        · exact absurd c_7 (by decide)
        · refine lv_iload_n hx hb dX4_unary_72 rfl (lv_at hl 0 rfl) ?_
          refine lv_bipush (v := 91) hx hb dX4_unary_73 (by decide) ?_
          refine lv_icmp_eq (tgt := 90) hx hb dX4_unary_75 (by decide) (fun c_8 => ?_) (fun c_8 => ?_)
          · exact absurd c_8 (by decide)
          · refine lv_iload_n hx hb dX4_unary_78 rfl (lv_at hl 0 rfl) ?_
            refine lv_bipush (v := 60) hx hb dX4_unary_79 (by decide) ?_
            refine lv_icmp_eq (tgt := 90) hx hb dX4_unary_81 (by decide) (fun c_9 => ?_) (fun c_9 => ?_)
            · exact absurd c_9 (by decide)
            · refine lv_iload_n hx hb dX4_unary_84 rfl (lv_at hl 0 rfl) ?_
              refine lv_bipush (v := 40) hx hb dX4_unary_85 (by decide) ?_
              refine lv_icmp_ne (tgt := 94) hx hb dX4_unary_87 (by decide) (fun c_10 => ?_) (fun c_10 => ?_)
              · refine lv_iconst (v := 0) hx hb dX4_unary_94 (by decide) ?_
                refine lv_istore_n (lv' := [(2, .int 0), (1, .int (-1)), (0, .ref h)]) hx hb dX4_unary_95 rfl hl (by decide) rfl (fun ls hl => ?_)
                refine lv_iload_n hx hb dX4_unary_96 rfl (lv_at hl 0 rfl) ?_
                refine lv_if_eq (tgt := 109) hx hb dX4_unary_97 (by decide) (fun c_11 => ?_) (fun c_11 => ?_)
                · refine lv_aload_n hx hb dX4_unary_109 rfl (lv_at hl 2 rfl) ?_
                  refine kc_Vi (As := []) (rest := []) (wr := []) ⟨hx, hb, hml, hown, hts⟩ (ct_X4_failA l D h po te op _ ) (cwV 0 hts (kg_V (mo_X4_unaryA 4 rfl) (mo_X4_unaryA 5 rfl) (mo_X4_unaryA 6 rfl) (mo_X4_unaryA 3 rfl) (goodIn_sub mb_X4_unaryA_1 gw_X4_failA)) rfl rfl rfl ⟨rfl, hd_X4_fail⟩ ⟨Nat.le_of_ble_eq_true rfl, Nat.le_of_ble_eq_true rfl⟩) (RX4, TX4, 8) 4 0 rfl rfl rfl hK hN hP hD hS hA [0] [] [] rfl rfl (by decide) (by decide) (by decide) rfl rfl hl.1 rfl (Nat.le_of_ble_eq_true rfl) dX4_unary_110 ⟨Nat.le_of_ble_eq_true rfl, Nat.le_of_ble_eq_true rfl⟩ (fun r_12 u_13 H locs w_14 hP hD hK1 hS => ?_)
                  have hP : va_P D vwCl [(h, .inr (4, [.ref po, .ref te, .ref op, .int 0, .int 0, .int 0, .int 0, .int 0]))] H := hP
                  have hD : va_D A [(h, .inr (4, [.ref po, .ref te, .ref op, .int 0, .int 0, .int 0, .int 0, .int 0]))] := hD
                  have w_14 : r_12 = (-1) := w_14
                  subst w_14
                  have hP9 := hP.sub (ws' := [(h, .inr (4, [.ref po, .ref te, .ref op, .int 0, .int 0, .int 0, .int 0, .int 0]))]) [0] rfl
                  have hD9 := hD.sub (ws' := [(h, .inr (4, [.ref po, .ref te, .ref op, .int 0, .int 0, .int 0, .int 0, .int 0]))]) [0] (by decide) rfl
                  have hK9 := hK.sub (tys' := []) [] rfl
                  exact W.iret (v := (-1)) hx hb hr (fun tZ htZ hW => ⟨⟨(-1), (), rfl, rfl, by rw [htZ]; exact hP9, va_K.moved hW.alike hK9, hD9⟩, hS.F htZ⟩) hS.2.2 dX4_unary_113
                · exact absurd c_11 (by decide)
              · exact absurd c_10 (by decide)
      · exact absurd c_6 (by decide)
    · exact absurd c_5 (by decide)
theorem dX4_conjunction_0 : decode cX4_conjunction 0 = .ok (.aload_n 0, 1) := by decide +kernel
theorem dX4_conjunction_1 : decode cX4_conjunction 1 = .ok (.invokevirtual 77, 3) := by decide +kernel
theorem dX4_conjunction_4 : decode cX4_conjunction 4 = .ok (.istore_n 1, 1) := by decide +kernel
theorem dX4_conjunction_5 : decode cX4_conjunction 5 = .ok (.iconst 0, 1) := by decide +kernel
theorem dX4_conjunction_6 : decode cX4_conjunction 6 = .ok (.istore_n 2, 1) := by decide +kernel
theorem dX4_conjunction_7 : decode cX4_conjunction 7 = .ok (.iload_n 2, 1) := by decide +kernel
theorem dX4_conjunction_8 : decode cX4_conjunction 8 = .ok (.bipush 100, 2) := by decide +kernel
theorem dX4_conjunction_10 : decode cX4_conjunction 10 = .ok (.if_icmp .ge 31, 3) := by decide +kernel
theorem dX4_conjunction_13 : decode cX4_conjunction 13 = .ok (.aload_n 0, 1) := by decide +kernel
theorem dX4_conjunction_14 : decode cX4_conjunction 14 = .ok (.bipush 38, 2) := by decide +kernel
theorem dX4_conjunction_16 : decode cX4_conjunction 16 = .ok (.invokevirtual 56, 3) := by decide +kernel
theorem dX4_conjunction_19 : decode cX4_conjunction 19 = .ok (.ifCond .eq 22, 3) := by decide +kernel
theorem dX4_conjunction_22 : decode cX4_conjunction 22 = .ok (.aload_n 0, 1) := by decide +kernel
theorem dX4_conjunction_23 : decode cX4_conjunction 23 = .ok (.getfield 15, 3) := by decide +kernel
theorem dX4_conjunction_26 : decode cX4_conjunction 26 = .ok (.iload_n 1, 1) := by decide +kernel
theorem dX4_conjunction_27 : decode cX4_conjunction 27 = .ok (.aload_n 0, 1) := by decide +kernel
theorem dX4_conjunction_28 : decode cX4_conjunction 28 = .ok (.invokevirtual 77, 3) := by decide +kernel
theorem dX4_conjunction_31 : decode cX4_conjunction 31 = .ok (.invokevirtual 80, 3) := by decide +kernel
theorem dX4_conjunction_34 : decode cX4_conjunction 34 = .ok (.istore_n 1, 1) := by decide +kernel
theorem dX4_conjunction_35 : decode cX4_conjunction 35 = .ok (.iinc 2 1, 3) := by decide +kernel
theorem dX4_conjunction_38 : decode cX4_conjunction 38 = .ok (.goto (-31), 3) := by decide +kernel
theorem dX4_conjunction_41 : decode cX4_conjunction 41 = .ok (.iload_n 1, 1) := by decide +kernel
theorem dX4_conjunction_42 : decode cX4_conjunction 42 = .ok (.ireturn, 1) := by decide +kernel
def wo_X4_conjunctionA : List Cond := [.methodLink RX4 77 yX4_unary, .instanceMethod yX4_unary, .selects RX4 yX4_unary yX4_unary, .initialized RX4, .methodLink RX4 56 yX4_skip, .instanceMethod yX4_skip, .selects RX4 yX4_skip yX4_skip]
def wd_X4_conjunctionA : List Cond := .code yX4_conjunction cX4_conjunction 3 (some .int) :: (wo_X4_conjunctionA ++ (wd_X4_unaryA ++ (wd_X4_skipB ++ ([] : List Cond))))
theorem mo_X4_conjunctionA {w : Cond} (i : Nat) (h : wo_X4_conjunctionA[i]? = some w) : w ∈ wd_X4_conjunctionA := List.mem_cons_of_mem _ (List.mem_append_left _ (List.mem_of_getElem? h))
theorem mb_X4_conjunctionA_0 : ∀ w ∈ wd_X4_unaryA, w ∈ wd_X4_conjunctionA := fun w h => List.mem_cons_of_mem _ (List.mem_append_right _ (List.mem_append_left _ h))
theorem mb_X4_conjunctionA_1 : ∀ w ∈ wd_X4_skipB, w ∈ wd_X4_conjunctionA := fun w h => List.mem_cons_of_mem _ (List.mem_append_right _ (List.mem_append_right _ (List.mem_append_left _ h)))
theorem hd_X4_conjunction : yX4_conjunction.cls ≠ "java/lang/invoke/MethodHandle" ∧ yX4_conjunction.cls ≠ "java/lang/invoke/VarHandle" ∧ (parseMethodDescriptor yX4_conjunction.desc).map (fun d => d.parameters.length) = some 0 := by decide +kernel
set_option maxRecDepth 20000 in
theorem gw_X4_conjunctionA : wd_X4_conjunctionA.all goodWord = true := by decide +kernel
abbrev qc_X4_conjunctionA (D : va_G) (h : Nat) (po : Nat) (te : Nat) (op : Nat) (A : Nat → Prop) : Array Value → State → Outcome → State → Prop := va_Qi (fun (r : Int32) (uZ : Unit) => r = (-1)) (fun uZ tZ => kc_pos D A [(h, .inr (4, [.ref po, .ref te, .ref op, .int 0, .int 0, .int 0, .int 0, .int 0]))] [] tZ) A
set_option maxHeartbeats 4000000 in
set_option maxRecDepth 100000 in
theorem ct_X4_conjunctionA (l : Launch) (D : va_G) (h : Nat) (po : Nat) (te : Nat) (op : Nat) (sz : Nat)  : Met l yX4_conjunction wd_X4_conjunctionA ({ frames := 2, cells := 0, slots := 0, locals := 43 }) (va_Pc [.ref h] (kc_pre D [] [(h, .inr (4, [.ref po, .ref te, .ref op, .int 0, .int 0, .int 0, .int 0, .int (-1)]))] sz)) (qc_X4_conjunctionA D h po te op (va_A [(h, .inr (4, [.ref po, .ref te, .ref op, .int 0, .int 0, .int 0, .int 0, .int (-1)]))] sz)) 0 0 (va_A [(h, .inr (4, [.ref po, .ref te, .ref op, .int 0, .int 0, .int 0, .int 0, .int (-1)]))] sz) := by
  refine Met.ofW (cc := cX4_conjunction) (maxL := 3) (ret := (some .int)) (by decide) rfl ?_
  intro p e s m args below meth c s₁ B hml hv
  obtain ⟨rfl, hsz, hP, hK, hN, hD0⟩ := hv
  have hx := B.exec
  have hb := B.bytes
  have hr := B.returns
  have hts := atoms_spec (ws := wd_X4_conjunctionA) B.pre
  have hown : s.vm.findClass RX4 = some m.cls := findClass_of_methodNamed B.named
  have hlocks := B.notSynchronized
  subst hsz
  have hD := hD0.self (sz := s.heap.size)
  generalize hAe : va_A [(h, .inr (4, [.ref po, .ref te, .ref op, .int 0, .int 0, .int 0, .int 0, .int (-1)]))] s.heap.size = A at hD ⊢
  have hA : ∀ q : Nat, s.heap.size ≤ q → A q := fun q h => by rw [← hAe]; exact Or.inr h
  have hS : va_S A s.heap s.heap [] := va_S.rf
  have hl := lv_entry ([.ref h]) (n := 3) (Nat.le_of_ble_eq_true rfl)
  rw [lg_entry_eq]
  generalize (lg_sl ([.ref h]) ++ List.replicate (3 - (lg_sl ([.ref h])).length) Slot.unset).toArray = ls at hl ⊢
  have hl : lv_has ls 3 [(0, .ref h)] := hl
  refine lv_aload_n hx hb dX4_conjunction_0 rfl (lv_at hl 0 rfl) ?_
  refine kc_Vi (As := []) (rest := []) (wr := []) ⟨hx, hb, hml, hown, hts⟩ (ct_X4_unaryA l D h po te op _ ) (cwV 0 hts (kg_V (mo_X4_conjunctionA 0 rfl) (mo_X4_conjunctionA 1 rfl) (mo_X4_conjunctionA 2 rfl) (mo_X4_conjunctionA 3 rfl) (goodIn_sub mb_X4_conjunctionA_0 gw_X4_unaryA)) rfl rfl rfl ⟨rfl, hd_X4_unary⟩ ⟨Nat.le_of_ble_eq_true rfl, Nat.le_of_ble_eq_true rfl⟩) (RX4, TX4, 8) 4 0 rfl rfl rfl hK hN hP hD hS hA [0] [] [] rfl rfl (by decide) (by decide) (by decide) rfl rfl hl.1 rfl (Nat.le_of_ble_eq_true rfl) dX4_conjunction_1 ⟨Nat.le_of_ble_eq_true rfl, Nat.le_of_ble_eq_true rfl⟩ (fun r_1 u_2 H locs w_3 hP hD hK1 hS => ?_)
  have hP : va_P D vwCl [(h, .inr (4, [.ref po, .ref te, .ref op, .int 0, .int 0, .int 0, .int 0, .int 0]))] H := hP
  have hD : va_D A [(h, .inr (4, [.ref po, .ref te, .ref op, .int 0, .int 0, .int 0, .int 0, .int 0]))] := hD
  have w_3 : r_1 = (-1) := w_3
  subst w_3
  refine lv_istore_n (lv' := [(1, .int (-1)), (0, .ref h)]) hx hb dX4_conjunction_4 rfl hl (by decide) rfl (fun ls hl => ?_)
  refine lv_iconst (v := 0) hx hb dX4_conjunction_5 (by decide) ?_
  refine lv_istore_n (lv' := [(2, .int 0), (1, .int (-1)), (0, .ref h)]) hx hb dX4_conjunction_6 rfl hl (by decide) rfl (fun ls hl => ?_)
  refine lv_iload_n hx hb dX4_conjunction_7 rfl (lv_at hl 0 rfl) ?_
  refine lv_bipush (v := 100) hx hb dX4_conjunction_8 (by decide) ?_
  refine lv_icmp_ge (tgt := 41) hx hb dX4_conjunction_10 (by decide) (fun c_4 => ?_) (fun c_4 => ?_)
  · exact absurd c_4 (by decide)
  · refine lv_aload_n hx hb dX4_conjunction_13 rfl (lv_at hl 2 rfl) ?_
    refine lv_bipush (v := 38) hx hb dX4_conjunction_14 (by decide) ?_
    refine kc_Vi (As := [.int 38]) (rest := []) (wr := []) ⟨hx, hb, hml, hown, hts⟩ (ct_X4_skipB l D h po te op 38 _ (by decide)) (cwV 1 hts (kg_V (mo_X4_conjunctionA 4 rfl) (mo_X4_conjunctionA 5 rfl) (mo_X4_conjunctionA 6 rfl) (mo_X4_conjunctionA 3 rfl) (goodIn_sub mb_X4_conjunctionA_1 gw_X4_skipB)) rfl rfl rfl ⟨rfl, hd_X4_skip⟩ ⟨Nat.le_of_ble_eq_true rfl, Nat.le_of_ble_eq_true rfl⟩) (RX4, TX4, 8) 4 0 rfl rfl rfl hK hN hP hD hS hA [0] [] [] rfl rfl (by decide) (by decide) (by decide) rfl rfl hl.1 rfl (Nat.le_of_ble_eq_true rfl) dX4_conjunction_16 ⟨Nat.le_of_ble_eq_true rfl, Nat.le_of_ble_eq_true rfl⟩ (fun r_5 u_6 H locs w_7 hP hD hK1 hS => ?_)
    have hP : va_P D vwCl [(h, .inr (4, [.ref po, .ref te, .ref op, .int 0, .int 0, .int 0, .int 0, .int 0]))] H := hP
    have hD : va_D A [(h, .inr (4, [.ref po, .ref te, .ref op, .int 0, .int 0, .int 0, .int 0, .int 0]))] := hD
    have w_7 : r_5 = 0 := w_7
    subst w_7
    refine lv_if_eq (tgt := 41) hx hb dX4_conjunction_19 (by decide) (fun c_8 => ?_) (fun c_8 => ?_)
    · refine lv_iload_n hx hb dX4_conjunction_41 rfl (lv_at hl 1 rfl) ?_
      have hP9 := hP.sub (ws' := [(h, .inr (4, [.ref po, .ref te, .ref op, .int 0, .int 0, .int 0, .int 0, .int 0]))]) [0] rfl
      have hD9 := hD.sub (ws' := [(h, .inr (4, [.ref po, .ref te, .ref op, .int 0, .int 0, .int 0, .int 0, .int 0]))]) [0] (by decide) rfl
      have hK9 := hK.sub (tys' := []) [] rfl
      exact W.iret (v := (-1)) hx hb hr (fun tZ htZ hW => ⟨⟨(-1), (), rfl, rfl, by rw [htZ]; exact hP9, va_K.moved hW.alike hK9, hD9⟩, hS.F htZ⟩) hS.2.2 dX4_conjunction_42
    · exact absurd c_8 (by decide)
theorem dX4_disjunction_0 : decode cX4_disjunction 0 = .ok (.aload_n 0, 1) := by decide +kernel
theorem dX4_disjunction_1 : decode cX4_disjunction 1 = .ok (.invokevirtual 70, 3) := by decide +kernel
theorem dX4_disjunction_4 : decode cX4_disjunction 4 = .ok (.istore_n 1, 1) := by decide +kernel
theorem dX4_disjunction_5 : decode cX4_disjunction 5 = .ok (.iconst 0, 1) := by decide +kernel
theorem dX4_disjunction_6 : decode cX4_disjunction 6 = .ok (.istore_n 2, 1) := by decide +kernel
theorem dX4_disjunction_7 : decode cX4_disjunction 7 = .ok (.iload_n 2, 1) := by decide +kernel
theorem dX4_disjunction_8 : decode cX4_disjunction 8 = .ok (.bipush 100, 2) := by decide +kernel
theorem dX4_disjunction_10 : decode cX4_disjunction 10 = .ok (.if_icmp .ge 31, 3) := by decide +kernel
theorem dX4_disjunction_13 : decode cX4_disjunction 13 = .ok (.aload_n 0, 1) := by decide +kernel
theorem dX4_disjunction_14 : decode cX4_disjunction 14 = .ok (.bipush 124, 2) := by decide +kernel
theorem dX4_disjunction_16 : decode cX4_disjunction 16 = .ok (.invokevirtual 56, 3) := by decide +kernel
theorem dX4_disjunction_19 : decode cX4_disjunction 19 = .ok (.ifCond .eq 22, 3) := by decide +kernel
theorem dX4_disjunction_22 : decode cX4_disjunction 22 = .ok (.aload_n 0, 1) := by decide +kernel
theorem dX4_disjunction_23 : decode cX4_disjunction 23 = .ok (.getfield 15, 3) := by decide +kernel
theorem dX4_disjunction_26 : decode cX4_disjunction 26 = .ok (.iload_n 1, 1) := by decide +kernel
theorem dX4_disjunction_27 : decode cX4_disjunction 27 = .ok (.aload_n 0, 1) := by decide +kernel
theorem dX4_disjunction_28 : decode cX4_disjunction 28 = .ok (.invokevirtual 70, 3) := by decide +kernel
theorem dX4_disjunction_31 : decode cX4_disjunction 31 = .ok (.invokevirtual 73, 3) := by decide +kernel
theorem dX4_disjunction_34 : decode cX4_disjunction 34 = .ok (.istore_n 1, 1) := by decide +kernel
theorem dX4_disjunction_35 : decode cX4_disjunction 35 = .ok (.iinc 2 1, 3) := by decide +kernel
theorem dX4_disjunction_38 : decode cX4_disjunction 38 = .ok (.goto (-31), 3) := by decide +kernel
theorem dX4_disjunction_41 : decode cX4_disjunction 41 = .ok (.iload_n 1, 1) := by decide +kernel
theorem dX4_disjunction_42 : decode cX4_disjunction 42 = .ok (.ireturn, 1) := by decide +kernel
def wo_X4_disjunctionA : List Cond := [.methodLink RX4 70 yX4_conjunction, .instanceMethod yX4_conjunction, .selects RX4 yX4_conjunction yX4_conjunction, .initialized RX4, .methodLink RX4 56 yX4_skip, .instanceMethod yX4_skip, .selects RX4 yX4_skip yX4_skip]
def wd_X4_disjunctionA : List Cond := .code yX4_disjunction cX4_disjunction 3 (some .int) :: (wo_X4_disjunctionA ++ (wd_X4_conjunctionA ++ (wd_X4_skipB ++ ([] : List Cond))))
theorem mo_X4_disjunctionA {w : Cond} (i : Nat) (h : wo_X4_disjunctionA[i]? = some w) : w ∈ wd_X4_disjunctionA := List.mem_cons_of_mem _ (List.mem_append_left _ (List.mem_of_getElem? h))
theorem mb_X4_disjunctionA_0 : ∀ w ∈ wd_X4_conjunctionA, w ∈ wd_X4_disjunctionA := fun w h => List.mem_cons_of_mem _ (List.mem_append_right _ (List.mem_append_left _ h))
theorem mb_X4_disjunctionA_1 : ∀ w ∈ wd_X4_skipB, w ∈ wd_X4_disjunctionA := fun w h => List.mem_cons_of_mem _ (List.mem_append_right _ (List.mem_append_right _ (List.mem_append_left _ h)))
theorem hd_X4_disjunction : yX4_disjunction.cls ≠ "java/lang/invoke/MethodHandle" ∧ yX4_disjunction.cls ≠ "java/lang/invoke/VarHandle" ∧ (parseMethodDescriptor yX4_disjunction.desc).map (fun d => d.parameters.length) = some 0 := by decide +kernel
set_option maxRecDepth 20000 in
theorem gw_X4_disjunctionA : wd_X4_disjunctionA.all goodWord = true := by decide +kernel
abbrev qc_X4_disjunctionA (D : va_G) (h : Nat) (po : Nat) (te : Nat) (op : Nat) (A : Nat → Prop) : Array Value → State → Outcome → State → Prop := va_Qi (fun (r : Int32) (uZ : Unit) => r = (-1)) (fun uZ tZ => kc_pos D A [(h, .inr (4, [.ref po, .ref te, .ref op, .int 0, .int 0, .int 0, .int 0, .int 0]))] [] tZ) A
set_option maxHeartbeats 4000000 in
set_option maxRecDepth 100000 in
theorem ct_X4_disjunctionA (l : Launch) (D : va_G) (h : Nat) (po : Nat) (te : Nat) (op : Nat) (sz : Nat)  : Met l yX4_disjunction wd_X4_disjunctionA ({ frames := 3, cells := 0, slots := 0, locals := 65 }) (va_Pc [.ref h] (kc_pre D [] [(h, .inr (4, [.ref po, .ref te, .ref op, .int 0, .int 0, .int 0, .int 0, .int (-1)]))] sz)) (qc_X4_disjunctionA D h po te op (va_A [(h, .inr (4, [.ref po, .ref te, .ref op, .int 0, .int 0, .int 0, .int 0, .int (-1)]))] sz)) 0 0 (va_A [(h, .inr (4, [.ref po, .ref te, .ref op, .int 0, .int 0, .int 0, .int 0, .int (-1)]))] sz) := by
  refine Met.ofW (cc := cX4_disjunction) (maxL := 3) (ret := (some .int)) (by decide) rfl ?_
  intro p e s m args below meth c s₁ B hml hv
  obtain ⟨rfl, hsz, hP, hK, hN, hD0⟩ := hv
  have hx := B.exec
  have hb := B.bytes
  have hr := B.returns
  have hts := atoms_spec (ws := wd_X4_disjunctionA) B.pre
  have hown : s.vm.findClass RX4 = some m.cls := findClass_of_methodNamed B.named
  have hlocks := B.notSynchronized
  subst hsz
  have hD := hD0.self (sz := s.heap.size)
  generalize hAe : va_A [(h, .inr (4, [.ref po, .ref te, .ref op, .int 0, .int 0, .int 0, .int 0, .int (-1)]))] s.heap.size = A at hD ⊢
  have hA : ∀ q : Nat, s.heap.size ≤ q → A q := fun q h => by rw [← hAe]; exact Or.inr h
  have hS : va_S A s.heap s.heap [] := va_S.rf
  have hl := lv_entry ([.ref h]) (n := 3) (Nat.le_of_ble_eq_true rfl)
  rw [lg_entry_eq]
  generalize (lg_sl ([.ref h]) ++ List.replicate (3 - (lg_sl ([.ref h])).length) Slot.unset).toArray = ls at hl ⊢
  have hl : lv_has ls 3 [(0, .ref h)] := hl
  refine lv_aload_n hx hb dX4_disjunction_0 rfl (lv_at hl 0 rfl) ?_
  refine kc_Vi (As := []) (rest := []) (wr := []) ⟨hx, hb, hml, hown, hts⟩ (ct_X4_conjunctionA l D h po te op _ ) (cwV 0 hts (kg_V (mo_X4_disjunctionA 0 rfl) (mo_X4_disjunctionA 1 rfl) (mo_X4_disjunctionA 2 rfl) (mo_X4_disjunctionA 3 rfl) (goodIn_sub mb_X4_disjunctionA_0 gw_X4_conjunctionA)) rfl rfl rfl ⟨rfl, hd_X4_conjunction⟩ ⟨Nat.le_of_ble_eq_true rfl, Nat.le_of_ble_eq_true rfl⟩) (RX4, TX4, 8) 4 0 rfl rfl rfl hK hN hP hD hS hA [0] [] [] rfl rfl (by decide) (by decide) (by decide) rfl rfl hl.1 rfl (Nat.le_of_ble_eq_true rfl) dX4_disjunction_1 ⟨Nat.le_of_ble_eq_true rfl, Nat.le_of_ble_eq_true rfl⟩ (fun r_1 u_2 H locs w_3 hP hD hK1 hS => ?_)
  have hP : va_P D vwCl [(h, .inr (4, [.ref po, .ref te, .ref op, .int 0, .int 0, .int 0, .int 0, .int 0]))] H := hP
  have hD : va_D A [(h, .inr (4, [.ref po, .ref te, .ref op, .int 0, .int 0, .int 0, .int 0, .int 0]))] := hD
  have w_3 : r_1 = (-1) := w_3
  subst w_3
  refine lv_istore_n (lv' := [(1, .int (-1)), (0, .ref h)]) hx hb dX4_disjunction_4 rfl hl (by decide) rfl (fun ls hl => ?_)
  refine lv_iconst (v := 0) hx hb dX4_disjunction_5 (by decide) ?_
  refine lv_istore_n (lv' := [(2, .int 0), (1, .int (-1)), (0, .ref h)]) hx hb dX4_disjunction_6 rfl hl (by decide) rfl (fun ls hl => ?_)
  refine lv_iload_n hx hb dX4_disjunction_7 rfl (lv_at hl 0 rfl) ?_
  refine lv_bipush (v := 100) hx hb dX4_disjunction_8 (by decide) ?_
  refine lv_icmp_ge (tgt := 41) hx hb dX4_disjunction_10 (by decide) (fun c_4 => ?_) (fun c_4 => ?_)
  · exact absurd c_4 (by decide)
  · refine lv_aload_n hx hb dX4_disjunction_13 rfl (lv_at hl 2 rfl) ?_
    refine lv_bipush (v := 124) hx hb dX4_disjunction_14 (by decide) ?_
    refine kc_Vi (As := [.int 124]) (rest := []) (wr := []) ⟨hx, hb, hml, hown, hts⟩ (ct_X4_skipB l D h po te op 124 _ (by decide)) (cwV 1 hts (kg_V (mo_X4_disjunctionA 4 rfl) (mo_X4_disjunctionA 5 rfl) (mo_X4_disjunctionA 6 rfl) (mo_X4_disjunctionA 3 rfl) (goodIn_sub mb_X4_disjunctionA_1 gw_X4_skipB)) rfl rfl rfl ⟨rfl, hd_X4_skip⟩ ⟨Nat.le_of_ble_eq_true rfl, Nat.le_of_ble_eq_true rfl⟩) (RX4, TX4, 8) 4 0 rfl rfl rfl hK hN hP hD hS hA [0] [] [] rfl rfl (by decide) (by decide) (by decide) rfl rfl hl.1 rfl (Nat.le_of_ble_eq_true rfl) dX4_disjunction_16 ⟨Nat.le_of_ble_eq_true rfl, Nat.le_of_ble_eq_true rfl⟩ (fun r_5 u_6 H locs w_7 hP hD hK1 hS => ?_)
    have hP : va_P D vwCl [(h, .inr (4, [.ref po, .ref te, .ref op, .int 0, .int 0, .int 0, .int 0, .int 0]))] H := hP
    have hD : va_D A [(h, .inr (4, [.ref po, .ref te, .ref op, .int 0, .int 0, .int 0, .int 0, .int 0]))] := hD
    have w_7 : r_5 = 0 := w_7
    subst w_7
    refine lv_if_eq (tgt := 41) hx hb dX4_disjunction_19 (by decide) (fun c_8 => ?_) (fun c_8 => ?_)
    · refine lv_iload_n hx hb dX4_disjunction_41 rfl (lv_at hl 1 rfl) ?_
      have hP9 := hP.sub (ws' := [(h, .inr (4, [.ref po, .ref te, .ref op, .int 0, .int 0, .int 0, .int 0, .int 0]))]) [0] rfl
      have hD9 := hD.sub (ws' := [(h, .inr (4, [.ref po, .ref te, .ref op, .int 0, .int 0, .int 0, .int 0, .int 0]))]) [0] (by decide) rfl
      have hK9 := hK.sub (tys' := []) [] rfl
      exact W.iret (v := (-1)) hx hb hr (fun tZ htZ hW => ⟨⟨(-1), (), rfl, rfl, by rw [htZ]; exact hP9, va_K.moved hW.alike hK9, hD9⟩, hS.F htZ⟩) hS.2.2 dX4_disjunction_42
    · exact absurd c_8 (by decide)
theorem dX4_await_0 : decode cX4_await 0 = .ok (.aload_n 0, 1) := by decide +kernel
theorem dX4_await_1 : decode cX4_await 1 = .ok (.getfield 9, 3) := by decide +kernel
theorem dX4_await_4 : decode cX4_await 4 = .ok (.aload_n 0, 1) := by decide +kernel
theorem dX4_await_5 : decode cX4_await 5 = .ok (.getfield 35, 3) := by decide +kernel
theorem dX4_await_8 : decode cX4_await 8 = .ok (.iload_n 1, 1) := by decide +kernel
theorem dX4_await_9 : decode cX4_await 9 = .ok (.invokestatic 66, 3) := by decide +kernel
theorem dX4_await_12 : decode cX4_await 12 = .ok (.aload_n 0, 1) := by decide +kernel
theorem dX4_await_13 : decode cX4_await 13 = .ok (.dup, 1) := by decide +kernel
theorem dX4_await_14 : decode cX4_await 14 = .ok (.getfield 35, 3) := by decide +kernel
theorem dX4_await_17 : decode cX4_await 17 = .ok (.iconst 1, 1) := by decide +kernel
theorem dX4_await_18 : decode cX4_await 18 = .ok (.iadd, 1) := by decide +kernel
theorem dX4_await_19 : decode cX4_await 19 = .ok (.putfield 35, 3) := by decide +kernel
theorem dX4_await_22 : decode cX4_await 22 = .ok (.return_, 1) := by decide +kernel
def wo_X4_awaitA : List Cond := [.fieldLink RX4 9 "DynamicLogicProver$Parser" "operands" "[I", .fieldLink RX4 35 "DynamicLogicProver$Parser" "waiting" "I", .initialized RX11, .static yX11_put]
def wd_X4_awaitA : List Cond := .code yX4_await cX4_await 2 none :: (wo_X4_awaitA ++ (wd_X11_put ++ (wsX40 ++ ([] : List Cond))))
theorem mo_X4_awaitA {w : Cond} (i : Nat) (h : wo_X4_awaitA[i]? = some w) : w ∈ wd_X4_awaitA := List.mem_cons_of_mem _ (List.mem_append_left _ (List.mem_of_getElem? h))
theorem mb_X4_awaitA_0 : ∀ w ∈ wd_X11_put, w ∈ wd_X4_awaitA := fun w h => List.mem_cons_of_mem _ (List.mem_append_right _ (List.mem_append_left _ h))
theorem mb_X4_awaitA_1 : ∀ w ∈ wsX40, w ∈ wd_X4_awaitA := fun w h => List.mem_cons_of_mem _ (List.mem_append_right _ (List.mem_append_right _ (List.mem_append_left _ h)))
theorem hd_X4_await : yX4_await.cls ≠ "java/lang/invoke/MethodHandle" ∧ yX4_await.cls ≠ "java/lang/invoke/VarHandle" ∧ (parseMethodDescriptor yX4_await.desc).map (fun d => d.parameters.length) = some 1 := by decide +kernel
set_option maxRecDepth 20000 in
theorem gw_X4_awaitA : wd_X4_awaitA.all goodWord = true := by decide +kernel
abbrev qc_X4_awaitA (D : va_G) (h : Nat) (po : Nat) (te : Nat) (op : Nat) (kop : ClassId) (f : Nat → Int32) (g : Int32) (A : Nat → Prop) : Array Value → State → Outcome → State → Prop := va_Qv (fun (uZ : (Nat → Int32)) => True) (fun uZ tZ => kc_pos D A [(h, .inr (4, [.ref po, .ref te, .ref op, .int 0, .int 0, .int 0, .int 1, .int 0])), (op, .inl (kop, 101, .inl uZ))] [] tZ) A
set_option maxHeartbeats 4000000 in
set_option maxRecDepth 100000 in
theorem ct_X4_awaitA (l : Launch) (D : va_G) (h : Nat) (po : Nat) (te : Nat) (op : Nat) (kop : ClassId) (f : Nat → Int32) (g : Int32) (sz : Nat)  : Met l yX4_await wd_X4_awaitA ({ frames := 1, cells := 0, slots := 0, locals := 22 }) (va_Pc [.ref h, .int g] (kc_pre D [(kop, .int)] [(h, .inr (4, [.ref po, .ref te, .ref op, .int 0, .int 0, .int 0, .int 0, .int 0])), (op, .inl (kop, 101, .inl f))] sz)) (qc_X4_awaitA D h po te op kop f g (va_A [(h, .inr (4, [.ref po, .ref te, .ref op, .int 0, .int 0, .int 0, .int 0, .int 0])), (op, .inl (kop, 101, .inl f))] sz)) 0 0 (va_A [(h, .inr (4, [.ref po, .ref te, .ref op, .int 0, .int 0, .int 0, .int 0, .int 0])), (op, .inl (kop, 101, .inl f))] sz) := by
  refine Met.ofW (cc := cX4_await) (maxL := 2) (ret := none) (by decide) rfl ?_
  intro p e s m args below meth c s₁ B hml hv
  obtain ⟨rfl, hsz, hP, hK, hN, hD0⟩ := hv
  have hx := B.exec
  have hb := B.bytes
  have hr := B.returns
  have hts := atoms_spec (ws := wd_X4_awaitA) B.pre
  have hown : s.vm.findClass RX4 = some m.cls := findClass_of_methodNamed B.named
  have hlocks := B.notSynchronized
  subst hsz
  have hD := hD0.self (sz := s.heap.size)
  generalize hAe : va_A [(h, .inr (4, [.ref po, .ref te, .ref op, .int 0, .int 0, .int 0, .int 0, .int 0])), (op, .inl (kop, 101, .inl f))] s.heap.size = A at hD ⊢
  have hA : ∀ q : Nat, s.heap.size ≤ q → A q := fun q h => by rw [← hAe]; exact Or.inr h
  have hS : va_S A s.heap s.heap [] := va_S.rf
  have hiX4 : ∀ w ∈ wsX40, w ∈ wd_X4_awaitA := mb_X4_awaitA_1
  have hl := lv_entry ([.ref h, .int g]) (n := 2) (Nat.le_of_ble_eq_true rfl)
  rw [lg_entry_eq]
  generalize (lg_sl ([.ref h, .int g]) ++ List.replicate (2 - (lg_sl ([.ref h, .int g])).length) Slot.unset).toArray = ls at hl ⊢
  have hl : lv_has ls 2 [(0, .ref h), (1, .int g)] := hl
  refine lv_aload_n hx hb dX4_await_0 rfl (lv_at hl 0 rfl) ?_
  refine va_get (D := D) (ci := 4) (v := .ref op) (C := RX4) (T := TX4) (N := 8) hx hb hts hiX4 hown hK hP 0 rfl rfl 2 (by decide) (hts (.fieldLink RX4 9 "DynamicLogicProver$Parser" "operands" "[I") (mo_X4_awaitA 0 rfl)) (fun _ h9 => h9) rfl dX4_await_1 ?_
  refine lv_aload_n hx hb dX4_await_4 rfl (lv_at hl 0 rfl) ?_
  refine va_get (D := D) (ci := 4) (v := .int 0) (C := RX4) (T := TX4) (N := 8) hx hb hts hiX4 hown hK hP 0 rfl rfl 6 (by decide) (hts (.fieldLink RX4 35 "DynamicLogicProver$Parser" "waiting" "I") (mo_X4_awaitA 1 rfl)) (fun _ h9 => h9) rfl dX4_await_5 ?_
  refine lv_iload_n hx hb dX4_await_8 rfl (lv_at hl 1 rfl) ?_
  refine kc_Nv (As := [.ref op, .int 0, .int g]) (rest := []) (wr := [(h, .inr (4, [.ref po, .ref te, .ref op, .int 0, .int 0, .int 0, .int 0, .int 0]))]) ⟨hx, hb, hml, hown, hts⟩ (ct_X11_put l D op kop 101 f 0 g _ (by decide)) ⟨va_cnB 3 hts (goodIn_sub mb_X4_awaitA_0 gw_X11_put) rfl rfl rfl (hN.1 (RX4, 66, yX11_put) (List.mem_of_getElem? (i := 16) rfl)) (hts (.initialized RX11) (mo_X4_awaitA 2 rfl)) hd_X11_put ⟨Nat.le_of_ble_eq_true rfl, Nat.le_of_ble_eq_true rfl⟩, (hts (.static yX11_put) (mo_X4_awaitA 3 rfl)), trivial⟩ hK hN hP hD hS hA [1] [0] [0] rfl rfl (by decide) (by decide) (by decide) rfl rfl hl.1 rfl (Nat.le_of_ble_eq_true rfl) dX4_await_9 ⟨Nat.le_of_ble_eq_true rfl, Nat.le_of_ble_eq_true rfl⟩ (fun u_2 H locs w_3 hP hD hK1 hS => ?_)
  obtain ⟨o_4, rfl⟩ : ∃ z, z = u_2 := ⟨_, rfl⟩
  have hP : va_P D vwCl [(h, .inr (4, [.ref po, .ref te, .ref op, .int 0, .int 0, .int 0, .int 0, .int 0])), (op, .inl (kop, 101, .inl o_4))] H := hP
  have hD : va_D A [(h, .inr (4, [.ref po, .ref te, .ref op, .int 0, .int 0, .int 0, .int 0, .int 0])), (op, .inl (kop, 101, .inl o_4))] := hD
  have w_3 : o_4 = put_v f 101 0 g := w_3
  refine lv_aload_n hx hb dX4_await_12 rfl (lv_at hl 0 rfl) ?_
  refine lv_dup hx hb dX4_await_13 rfl ?_
  refine va_get (D := D) (ci := 4) (v := .int 0) (C := RX4) (T := TX4) (N := 8) hx hb hts hiX4 hown hK hP 0 rfl rfl 6 (by decide) (hts (.fieldLink RX4 35 "DynamicLogicProver$Parser" "waiting" "I") (mo_X4_awaitA 1 rfl)) (fun _ h9 => h9) rfl dX4_await_14 ?_
  refine lv_iconst (v := 1) hx hb dX4_await_17 (by decide) ?_
  refine lv_iadd hx hb dX4_await_18 ?_
  refine lv_topi (fun x_5 ex_5 => ?_)
  obtain rfl : x_5 = 1 := ex_5.trans (by decide)
  refine va_put (D := D) (ci := 4) (v := .int 1) (ty := .int) (C := RX4) (T := TX4) (N := 8) hx hb hts hiX4 tyX4 tyX4_ok nmX4 hown hK hP hD hS 0 rfl rfl 6 (by decide) (hts (.fieldLink RX4 35 "DynamicLogicProver$Parser" "waiting" "I") (mo_X4_awaitA 1 rfl)) (fun _ h9 => h9) rfl (tyX4_ok 6 (by decide)) rfl rfl (Nat.le_of_ble_eq_true rfl) dX4_await_19 (fun H locs hP hD hS => ?_)
  have hP : va_P D vwCl [(h, .inr (4, [.ref po, .ref te, .ref op, .int 0, .int 0, .int 0, .int 1, .int 0])), (op, .inl (kop, 101, .inl o_4))] H := hP
  have hD : va_D A [(h, .inr (4, [.ref po, .ref te, .ref op, .int 0, .int 0, .int 0, .int 1, .int 0])), (op, .inl (kop, 101, .inl o_4))] := hD
  have hP9 := hP.sub (ws' := [(h, .inr (4, [.ref po, .ref te, .ref op, .int 0, .int 0, .int 0, .int 1, .int 0])), (op, .inl (kop, 101, .inl o_4))]) [0, 1] rfl
  have hD9 := hD.sub (ws' := [(h, .inr (4, [.ref po, .ref te, .ref op, .int 0, .int 0, .int 0, .int 1, .int 0])), (op, .inl (kop, 101, .inl o_4))]) [0, 1] (by decide) rfl
  have hK9 := hK.sub (tys' := []) [] rfl
  exact W.vret hx hb hr (fun tZ htZ hW => ⟨⟨o_4, rfl, trivial, by rw [htZ]; exact hP9, va_K.moved hW.alike hK9, hD9⟩, hS.F htZ⟩) hS.2.2 dX4_await_22
theorem dX4_formula_0 : decode cX4_formula 0 = .ok (.aload_n 0, 1) := by decide +kernel
theorem dX4_formula_1 : decode cX4_formula 1 = .ok (.getfield 35, 3) := by decide +kernel
theorem dX4_formula_4 : decode cX4_formula 4 = .ok (.istore_n 1, 1) := by decide +kernel
theorem dX4_formula_5 : decode cX4_formula 5 = .ok (.aload_n 0, 1) := by decide +kernel
theorem dX4_formula_6 : decode cX4_formula 6 = .ok (.aload_n 0, 1) := by decide +kernel
theorem dX4_formula_7 : decode cX4_formula 7 = .ok (.invokevirtual 49, 3) := by decide +kernel
theorem dX4_formula_10 : decode cX4_formula 10 = .ok (.invokevirtual 52, 3) := by decide +kernel
theorem dX4_formula_13 : decode cX4_formula 13 = .ok (.iconst 0, 1) := by decide +kernel
theorem dX4_formula_14 : decode cX4_formula 14 = .ok (.istore_n 2, 1) := by decide +kernel
theorem dX4_formula_15 : decode cX4_formula 15 = .ok (.iload_n 2, 1) := by decide +kernel
theorem dX4_formula_16 : decode cX4_formula 16 = .ok (.bipush 100, 2) := by decide +kernel
theorem dX4_formula_18 : decode cX4_formula 18 = .ok (.if_icmp .ge 26, 3) := by decide +kernel
theorem dX4_formula_21 : decode cX4_formula 21 = .ok (.aload_n 0, 1) := by decide +kernel
theorem dX4_formula_22 : decode cX4_formula 22 = .ok (.bipush 45, 2) := by decide +kernel
theorem dX4_formula_24 : decode cX4_formula 24 = .ok (.invokevirtual 56, 3) := by decide +kernel
theorem dX4_formula_27 : decode cX4_formula 27 = .ok (.ifCond .eq 17, 3) := by decide +kernel
theorem dX4_formula_30 : decode cX4_formula 30 = .ok (.aload_n 0, 1) := by decide +kernel
theorem dX4_formula_31 : decode cX4_formula 31 = .ok (.aload_n 0, 1) := by decide +kernel
theorem dX4_formula_32 : decode cX4_formula 32 = .ok (.invokevirtual 49, 3) := by decide +kernel
theorem dX4_formula_35 : decode cX4_formula 35 = .ok (.invokevirtual 52, 3) := by decide +kernel
theorem dX4_formula_38 : decode cX4_formula 38 = .ok (.iinc 2 1, 3) := by decide +kernel
theorem dX4_formula_41 : decode cX4_formula 41 = .ok (.goto (-26), 3) := by decide +kernel
theorem dX4_formula_44 : decode cX4_formula 44 = .ok (.aload_n 0, 1) := by decide +kernel
theorem dX4_formula_45 : decode cX4_formula 45 = .ok (.dup, 1) := by decide +kernel
theorem dX4_formula_46 : decode cX4_formula 46 = .ok (.getfield 35, 3) := by decide +kernel
theorem dX4_formula_49 : decode cX4_formula 49 = .ok (.iconst 1, 1) := by decide +kernel
theorem dX4_formula_50 : decode cX4_formula 50 = .ok (.isub, 1) := by decide +kernel
theorem dX4_formula_51 : decode cX4_formula 51 = .ok (.putfield 35, 3) := by decide +kernel
theorem dX4_formula_54 : decode cX4_formula 54 = .ok (.aload_n 0, 1) := by decide +kernel
theorem dX4_formula_55 : decode cX4_formula 55 = .ok (.getfield 9, 3) := by decide +kernel
theorem dX4_formula_58 : decode cX4_formula 58 = .ok (.aload_n 0, 1) := by decide +kernel
theorem dX4_formula_59 : decode cX4_formula 59 = .ok (.getfield 35, 3) := by decide +kernel
theorem dX4_formula_62 : decode cX4_formula 62 = .ok (.invokestatic 42, 3) := by decide +kernel
theorem dX4_formula_65 : decode cX4_formula 65 = .ok (.istore_n 2, 1) := by decide +kernel
theorem dX4_formula_66 : decode cX4_formula 66 = .ok (.iconst 0, 1) := by decide +kernel
theorem dX4_formula_67 : decode cX4_formula 67 = .ok (.istore_n 3, 1) := by decide +kernel
theorem dX4_formula_68 : decode cX4_formula 68 = .ok (.iload_n 3, 1) := by decide +kernel
theorem dX4_formula_69 : decode cX4_formula 69 = .ok (.bipush 100, 2) := by decide +kernel
theorem dX4_formula_71 : decode cX4_formula 71 = .ok (.if_icmp .ge 49, 3) := by decide +kernel
theorem dX4_formula_74 : decode cX4_formula 74 = .ok (.aload_n 0, 1) := by decide +kernel
theorem dX4_formula_75 : decode cX4_formula 75 = .ok (.getfield 35, 3) := by decide +kernel
theorem dX4_formula_78 : decode cX4_formula 78 = .ok (.iload_n 1, 1) := by decide +kernel
theorem dX4_formula_79 : decode cX4_formula 79 = .ok (.if_icmp .le 41, 3) := by decide +kernel
theorem dX4_formula_82 : decode cX4_formula 82 = .ok (.aload_n 0, 1) := by decide +kernel
theorem dX4_formula_83 : decode cX4_formula 83 = .ok (.dup, 1) := by decide +kernel
theorem dX4_formula_84 : decode cX4_formula 84 = .ok (.getfield 35, 3) := by decide +kernel
theorem dX4_formula_87 : decode cX4_formula 87 = .ok (.iconst 1, 1) := by decide +kernel
theorem dX4_formula_88 : decode cX4_formula 88 = .ok (.isub, 1) := by decide +kernel
theorem dX4_formula_89 : decode cX4_formula 89 = .ok (.putfield 35, 3) := by decide +kernel
theorem dX4_formula_92 : decode cX4_formula 92 = .ok (.aload_n 0, 1) := by decide +kernel
theorem dX4_formula_93 : decode cX4_formula 93 = .ok (.getfield 15, 3) := by decide +kernel
theorem dX4_formula_96 : decode cX4_formula 96 = .ok (.bipush 45, 2) := by decide +kernel
theorem dX4_formula_98 : decode cX4_formula 98 = .ok (.aload_n 0, 1) := by decide +kernel
theorem dX4_formula_99 : decode cX4_formula 99 = .ok (.getfield 9, 3) := by decide +kernel
theorem dX4_formula_102 : decode cX4_formula 102 = .ok (.aload_n 0, 1) := by decide +kernel
theorem dX4_formula_103 : decode cX4_formula 103 = .ok (.getfield 35, 3) := by decide +kernel
theorem dX4_formula_106 : decode cX4_formula 106 = .ok (.invokestatic 42, 3) := by decide +kernel
theorem dX4_formula_109 : decode cX4_formula 109 = .ok (.iload_n 2, 1) := by decide +kernel
theorem dX4_formula_110 : decode cX4_formula 110 = .ok (.invokevirtual 60, 3) := by decide +kernel
theorem dX4_formula_113 : decode cX4_formula 113 = .ok (.istore_n 2, 1) := by decide +kernel
theorem dX4_formula_114 : decode cX4_formula 114 = .ok (.iinc 3 1, 3) := by decide +kernel
theorem dX4_formula_117 : decode cX4_formula 117 = .ok (.goto (-49), 3) := by decide +kernel
theorem dX4_formula_120 : decode cX4_formula 120 = .ok (.iload_n 2, 1) := by decide +kernel
theorem dX4_formula_121 : decode cX4_formula 121 = .ok (.ireturn, 1) := by decide +kernel
def wo_X4_formulaA : List Cond := [.fieldLink RX4 35 "DynamicLogicProver$Parser" "waiting" "I", .methodLink RX4 49 yX4_disjunction, .instanceMethod yX4_disjunction, .selects RX4 yX4_disjunction yX4_disjunction, .initialized RX4, .methodLink RX4 52 yX4_await, .instanceMethod yX4_await, .selects RX4 yX4_await yX4_await, .methodLink RX4 56 yX4_skip, .instanceMethod yX4_skip, .selects RX4 yX4_skip yX4_skip, .fieldLink RX4 9 "DynamicLogicProver$Parser" "operands" "[I", .initialized RX11, .static yX11_at]
def wd_X4_formulaA : List Cond := .code yX4_formula cX4_formula 4 (some .int) :: (wo_X4_formulaA ++ (wd_X4_disjunctionA ++ (wd_X4_awaitA ++ (wd_X4_skipC ++ (wd_X11_at ++ (wsX40 ++ ([] : List Cond)))))))
theorem mo_X4_formulaA {w : Cond} (i : Nat) (h : wo_X4_formulaA[i]? = some w) : w ∈ wd_X4_formulaA := List.mem_cons_of_mem _ (List.mem_append_left _ (List.mem_of_getElem? h))
theorem mb_X4_formulaA_0 : ∀ w ∈ wd_X4_disjunctionA, w ∈ wd_X4_formulaA := fun w h => List.mem_cons_of_mem _ (List.mem_append_right _ (List.mem_append_left _ h))
theorem mb_X4_formulaA_1 : ∀ w ∈ wd_X4_awaitA, w ∈ wd_X4_formulaA := fun w h => List.mem_cons_of_mem _ (List.mem_append_right _ (List.mem_append_right _ (List.mem_append_left _ h)))
theorem mb_X4_formulaA_2 : ∀ w ∈ wd_X4_skipC, w ∈ wd_X4_formulaA := fun w h => List.mem_cons_of_mem _ (List.mem_append_right _ (List.mem_append_right _ (List.mem_append_right _ (List.mem_append_left _ h))))
theorem mb_X4_formulaA_3 : ∀ w ∈ wd_X11_at, w ∈ wd_X4_formulaA := fun w h => List.mem_cons_of_mem _ (List.mem_append_right _ (List.mem_append_right _ (List.mem_append_right _ (List.mem_append_right _ (List.mem_append_left _ h)))))
theorem mb_X4_formulaA_4 : ∀ w ∈ wsX40, w ∈ wd_X4_formulaA := fun w h => List.mem_cons_of_mem _ (List.mem_append_right _ (List.mem_append_right _ (List.mem_append_right _ (List.mem_append_right _ (List.mem_append_right _ (List.mem_append_left _ h))))))
theorem hd_X4_formula : yX4_formula.cls ≠ "java/lang/invoke/MethodHandle" ∧ yX4_formula.cls ≠ "java/lang/invoke/VarHandle" ∧ (parseMethodDescriptor yX4_formula.desc).map (fun d => d.parameters.length) = some 0 := by decide +kernel
set_option maxRecDepth 20000 in
theorem gw_X4_formulaA : wd_X4_formulaA.all goodWord = true := by decide +kernel
abbrev qc_X4_formulaA (D : va_G) (h : Nat) (po : Nat) (te : Nat) (op : Nat) (kop : ClassId) (f : Nat → Int32) (A : Nat → Prop) : Array Value → State → Outcome → State → Prop := va_Qi (fun (r : Int32) (uZ : (Nat → Int32)) => True) (fun uZ tZ => kc_pos D A [(h, .inr (4, [.ref po, .ref te, .ref op, .int 0, .int 0, .int 0, .int 0, .int 0])), (op, .inl (kop, 101, .inl uZ))] [] tZ) A
set_option maxHeartbeats 4000000 in
set_option maxRecDepth 100000 in
theorem ct_X4_formulaA (l : Launch) (D : va_G) (h : Nat) (po : Nat) (te : Nat) (op : Nat) (kop : ClassId) (f : Nat → Int32) (sz : Nat)  : Met l yX4_formula wd_X4_formulaA ({ frames := 4, cells := 0, slots := 0, locals := 87 }) (va_Pc [.ref h] (kc_pre D [(kop, .int)] [(h, .inr (4, [.ref po, .ref te, .ref op, .int 0, .int 0, .int 0, .int 0, .int (-1)])), (op, .inl (kop, 101, .inl f))] sz)) (qc_X4_formulaA D h po te op kop f (va_A [(h, .inr (4, [.ref po, .ref te, .ref op, .int 0, .int 0, .int 0, .int 0, .int (-1)])), (op, .inl (kop, 101, .inl f))] sz)) 0 0 (va_A [(h, .inr (4, [.ref po, .ref te, .ref op, .int 0, .int 0, .int 0, .int 0, .int (-1)])), (op, .inl (kop, 101, .inl f))] sz) := by
  refine Met.ofW (cc := cX4_formula) (maxL := 4) (ret := (some .int)) (by decide) rfl ?_
  intro p e s m args below meth c s₁ B hml hv
  obtain ⟨rfl, hsz, hP, hK, hN, hD0⟩ := hv
  have hx := B.exec
  have hb := B.bytes
  have hr := B.returns
  have hts := atoms_spec (ws := wd_X4_formulaA) B.pre
  have hown : s.vm.findClass RX4 = some m.cls := findClass_of_methodNamed B.named
  have hlocks := B.notSynchronized
  subst hsz
  have hD := hD0.self (sz := s.heap.size)
  generalize hAe : va_A [(h, .inr (4, [.ref po, .ref te, .ref op, .int 0, .int 0, .int 0, .int 0, .int (-1)])), (op, .inl (kop, 101, .inl f))] s.heap.size = A at hD ⊢
  have hA : ∀ q : Nat, s.heap.size ≤ q → A q := fun q h => by rw [← hAe]; exact Or.inr h
  have hS : va_S A s.heap s.heap [] := va_S.rf
  have hiX4 : ∀ w ∈ wsX40, w ∈ wd_X4_formulaA := mb_X4_formulaA_4
  have hl := lv_entry ([.ref h]) (n := 4) (Nat.le_of_ble_eq_true rfl)
  rw [lg_entry_eq]
  generalize (lg_sl ([.ref h]) ++ List.replicate (4 - (lg_sl ([.ref h])).length) Slot.unset).toArray = ls at hl ⊢
  have hl : lv_has ls 4 [(0, .ref h)] := hl
  refine lv_aload_n hx hb dX4_formula_0 rfl (lv_at hl 0 rfl) ?_
  refine va_get (D := D) (ci := 4) (v := .int 0) (C := RX4) (T := TX4) (N := 8) hx hb hts hiX4 hown hK hP 0 rfl rfl 6 (by decide) (hts (.fieldLink RX4 35 "DynamicLogicProver$Parser" "waiting" "I") (mo_X4_formulaA 0 rfl)) (fun _ h9 => h9) rfl dX4_formula_1 ?_
  refine lv_istore_n (lv' := [(1, .int 0), (0, .ref h)]) hx hb dX4_formula_4 rfl hl (by decide) rfl (fun ls hl => ?_)
  refine lv_aload_n hx hb dX4_formula_5 rfl (lv_at hl 1 rfl) ?_
  refine lv_aload_n hx hb dX4_formula_6 rfl (lv_at hl 1 rfl) ?_
  refine kc_Vi (As := []) (rest := [.ref h]) (wr := [(op, .inl (kop, 101, .inl f))]) ⟨hx, hb, hml, hown, hts⟩ (ct_X4_disjunctionA l D h po te op _ ) (cwV 0 hts (kg_V (mo_X4_formulaA 1 rfl) (mo_X4_formulaA 2 rfl) (mo_X4_formulaA 3 rfl) (mo_X4_formulaA 4 rfl) (goodIn_sub mb_X4_formulaA_0 gw_X4_disjunctionA)) rfl rfl rfl ⟨rfl, hd_X4_disjunction⟩ ⟨Nat.le_of_ble_eq_true rfl, Nat.le_of_ble_eq_true rfl⟩) (RX4, TX4, 8) 4 0 rfl rfl rfl hK hN hP hD hS hA [0] [1] [] rfl rfl (by decide) (by decide) (by decide) rfl rfl hl.1 rfl (Nat.le_of_ble_eq_true rfl) dX4_formula_7 ⟨Nat.le_of_ble_eq_true rfl, Nat.le_of_ble_eq_true rfl⟩ (fun r_1 u_2 H locs w_3 hP hD hK1 hS => ?_)
  have hP : va_P D vwCl [(op, .inl (kop, 101, .inl f)), (h, .inr (4, [.ref po, .ref te, .ref op, .int 0, .int 0, .int 0, .int 0, .int 0]))] H := hP
  have hD : va_D A [(op, .inl (kop, 101, .inl f)), (h, .inr (4, [.ref po, .ref te, .ref op, .int 0, .int 0, .int 0, .int 0, .int 0]))] := hD
  have w_3 : r_1 = (-1) := w_3
  subst w_3
  refine kc_Vv (As := [.int (-1)]) (rest := []) (wr := []) ⟨hx, hb, hml, hown, hts⟩ (ct_X4_awaitA l D h po te op kop f (-1) _ ) (cwV 1 hts (kg_V (mo_X4_formulaA 5 rfl) (mo_X4_formulaA 6 rfl) (mo_X4_formulaA 7 rfl) (mo_X4_formulaA 4 rfl) (goodIn_sub mb_X4_formulaA_1 gw_X4_awaitA)) rfl rfl rfl ⟨rfl, hd_X4_await⟩ ⟨Nat.le_of_ble_eq_true rfl, Nat.le_of_ble_eq_true rfl⟩) (RX4, TX4, 8) 4 1 rfl rfl rfl hK hN hP hD hS hA [1, 0] [] [0] rfl rfl (by decide) (by decide) (by decide) rfl rfl hl.1 rfl (Nat.le_of_ble_eq_true rfl) dX4_formula_10 ⟨Nat.le_of_ble_eq_true rfl, Nat.le_of_ble_eq_true rfl⟩ (fun u_5 H locs w_6 hP hD hK1 hS => ?_)
  obtain ⟨o_7, rfl⟩ : ∃ z, z = u_5 := ⟨_, rfl⟩
  have hP : va_P D vwCl [(h, .inr (4, [.ref po, .ref te, .ref op, .int 0, .int 0, .int 0, .int 1, .int 0])), (op, .inl (kop, 101, .inl o_7))] H := hP
  have hD : va_D A [(h, .inr (4, [.ref po, .ref te, .ref op, .int 0, .int 0, .int 0, .int 1, .int 0])), (op, .inl (kop, 101, .inl o_7))] := hD
  refine lv_iconst (v := 0) hx hb dX4_formula_13 (by decide) ?_
  refine lv_istore_n (lv' := [(2, .int 0), (1, .int 0), (0, .ref h)]) hx hb dX4_formula_14 rfl hl (by decide) rfl (fun ls hl => ?_)
  refine lv_iload_n hx hb dX4_formula_15 rfl (lv_at hl 0 rfl) ?_
  refine lv_bipush (v := 100) hx hb dX4_formula_16 (by decide) ?_
  refine lv_icmp_ge (tgt := 44) hx hb dX4_formula_18 (by decide) (fun c_8 => ?_) (fun c_8 => ?_)
  · exact absurd c_8 (by decide)
  · refine lv_aload_n hx hb dX4_formula_21 rfl (lv_at hl 2 rfl) ?_
    refine lv_bipush (v := 45) hx hb dX4_formula_22 (by decide) ?_
    refine kc_Vi (As := [.int 45]) (rest := []) (wr := [(op, .inl (kop, 101, .inl o_7))]) ⟨hx, hb, hml, hown, hts⟩ (ct_X4_skipC l D h po te op 45 _ (by decide)) (cwV 1 hts (kg_V (mo_X4_formulaA 8 rfl) (mo_X4_formulaA 9 rfl) (mo_X4_formulaA 10 rfl) (mo_X4_formulaA 4 rfl) (goodIn_sub mb_X4_formulaA_2 gw_X4_skipC)) rfl rfl rfl ⟨rfl, hd_X4_skip⟩ ⟨Nat.le_of_ble_eq_true rfl, Nat.le_of_ble_eq_true rfl⟩) (RX4, TX4, 8) 4 0 rfl rfl rfl hK hN hP hD hS hA [0] [1] [] rfl rfl (by decide) (by decide) (by decide) rfl rfl hl.1 rfl (Nat.le_of_ble_eq_true rfl) dX4_formula_24 ⟨Nat.le_of_ble_eq_true rfl, Nat.le_of_ble_eq_true rfl⟩ (fun r_9 u_10 H locs w_11 hP hD hK1 hS => ?_)
    have hP : va_P D vwCl [(op, .inl (kop, 101, .inl o_7)), (h, .inr (4, [.ref po, .ref te, .ref op, .int 0, .int 0, .int 0, .int 1, .int 0]))] H := hP
    have hD : va_D A [(op, .inl (kop, 101, .inl o_7)), (h, .inr (4, [.ref po, .ref te, .ref op, .int 0, .int 0, .int 0, .int 1, .int 0]))] := hD
    have w_11 : r_9 = 0 := w_11
    subst w_11
    refine lv_if_eq (tgt := 44) hx hb dX4_formula_27 (by decide) (fun c_12 => ?_) (fun c_12 => ?_)
    · refine lv_aload_n hx hb dX4_formula_44 rfl (lv_at hl 2 rfl) ?_
      refine lv_dup hx hb dX4_formula_45 rfl ?_
      refine va_get (D := D) (ci := 4) (v := .int 1) (C := RX4) (T := TX4) (N := 8) hx hb hts hiX4 hown hK hP 1 rfl rfl 6 (by decide) (hts (.fieldLink RX4 35 "DynamicLogicProver$Parser" "waiting" "I") (mo_X4_formulaA 0 rfl)) (fun _ h9 => h9) rfl dX4_formula_46 ?_
      refine lv_iconst (v := 1) hx hb dX4_formula_49 (by decide) ?_
      refine lv_isub hx hb dX4_formula_50 ?_
      refine lv_topi (fun x_13 ex_13 => ?_)
      obtain rfl : x_13 = 0 := ex_13.trans (by decide)
      refine va_put (D := D) (ci := 4) (v := .int 0) (ty := .int) (C := RX4) (T := TX4) (N := 8) hx hb hts hiX4 tyX4 tyX4_ok nmX4 hown hK hP hD hS 1 rfl rfl 6 (by decide) (hts (.fieldLink RX4 35 "DynamicLogicProver$Parser" "waiting" "I") (mo_X4_formulaA 0 rfl)) (fun _ h9 => h9) rfl (tyX4_ok 6 (by decide)) rfl rfl (Nat.le_of_ble_eq_true rfl) dX4_formula_51 (fun H locs hP hD hS => ?_)
      have hP : va_P D vwCl [(op, .inl (kop, 101, .inl o_7)), (h, .inr (4, [.ref po, .ref te, .ref op, .int 0, .int 0, .int 0, .int 0, .int 0]))] H := hP
      have hD : va_D A [(op, .inl (kop, 101, .inl o_7)), (h, .inr (4, [.ref po, .ref te, .ref op, .int 0, .int 0, .int 0, .int 0, .int 0]))] := hD
      refine lv_aload_n hx hb dX4_formula_54 rfl (lv_at hl 2 rfl) ?_
      refine va_get (D := D) (ci := 4) (v := .ref op) (C := RX4) (T := TX4) (N := 8) hx hb hts hiX4 hown hK hP 1 rfl rfl 2 (by decide) (hts (.fieldLink RX4 9 "DynamicLogicProver$Parser" "operands" "[I") (mo_X4_formulaA 11 rfl)) (fun _ h9 => h9) rfl dX4_formula_55 ?_
      refine lv_aload_n hx hb dX4_formula_58 rfl (lv_at hl 2 rfl) ?_
      refine va_get (D := D) (ci := 4) (v := .int 0) (C := RX4) (T := TX4) (N := 8) hx hb hts hiX4 hown hK hP 1 rfl rfl 6 (by decide) (hts (.fieldLink RX4 35 "DynamicLogicProver$Parser" "waiting" "I") (mo_X4_formulaA 0 rfl)) (fun _ h9 => h9) rfl dX4_formula_59 ?_
      refine kc_Ni (As := [.ref op, .int 0]) (rest := []) (wr := [(h, .inr (4, [.ref po, .ref te, .ref op, .int 0, .int 0, .int 0, .int 0, .int 0]))]) ⟨hx, hb, hml, hown, hts⟩ (ct_X11_at l D op kop 101 o_7 0 _ (by decide)) ⟨va_cnB 2 hts (goodIn_sub mb_X4_formulaA_3 gw_X11_at) rfl rfl rfl (hN.1 (RX4, 42, yX11_at) (List.mem_of_getElem? (i := 15) rfl)) (hts (.initialized RX11) (mo_X4_formulaA 12 rfl)) hd_X11_at ⟨Nat.le_of_ble_eq_true rfl, Nat.le_of_ble_eq_true rfl⟩, (hts (.static yX11_at) (mo_X4_formulaA 13 rfl)), trivial⟩ hK hN hP hD hS hA [0] [1] [0] rfl rfl (by decide) (by decide) (by decide) rfl rfl hl.1 rfl (Nat.le_of_ble_eq_true rfl) dX4_formula_62 ⟨Nat.le_of_ble_eq_true rfl, Nat.le_of_ble_eq_true rfl⟩ (fun r_14 u_15 H locs w_16 hP hD hK1 hS => ?_)
      have hP : va_P D vwCl [(h, .inr (4, [.ref po, .ref te, .ref op, .int 0, .int 0, .int 0, .int 0, .int 0])), (op, .inl (kop, 101, .inl o_7))] H := hP
      have hD : va_D A [(h, .inr (4, [.ref po, .ref te, .ref op, .int 0, .int 0, .int 0, .int 0, .int 0])), (op, .inl (kop, 101, .inl o_7))] := hD
      have w_16 : r_14 = at_v o_7 101 0 := w_16
      refine lv_istore_n (lv' := [(2, .int r_14), (1, .int 0), (0, .ref h)]) hx hb dX4_formula_65 rfl hl (by decide) rfl (fun ls hl => ?_)
      refine lv_iconst (v := 0) hx hb dX4_formula_66 (by decide) ?_
      refine lv_istore_n (lv' := [(3, .int 0), (2, .int r_14), (1, .int 0), (0, .ref h)]) hx hb dX4_formula_67 rfl hl (by decide) rfl (fun ls hl => ?_)
      refine lv_iload_n hx hb dX4_formula_68 rfl (lv_at hl 0 rfl) ?_
      refine lv_bipush (v := 100) hx hb dX4_formula_69 (by decide) ?_
      refine lv_icmp_ge (tgt := 120) hx hb dX4_formula_71 (by decide) (fun c_17 => ?_) (fun c_17 => ?_)
      · exact absurd c_17 (by decide)
      · refine lv_aload_n hx hb dX4_formula_74 rfl (lv_at hl 3 rfl) ?_
        refine va_get (D := D) (ci := 4) (v := .int 0) (C := RX4) (T := TX4) (N := 8) hx hb hts hiX4 hown hK hP 0 rfl rfl 6 (by decide) (hts (.fieldLink RX4 35 "DynamicLogicProver$Parser" "waiting" "I") (mo_X4_formulaA 0 rfl)) (fun _ h9 => h9) rfl dX4_formula_75 ?_
        refine lv_iload_n hx hb dX4_formula_78 rfl (lv_at hl 2 rfl) ?_
        refine lv_icmp_le (tgt := 120) hx hb dX4_formula_79 (by decide) (fun c_18 => ?_) (fun c_18 => ?_)
        · refine lv_iload_n hx hb dX4_formula_120 rfl (lv_at hl 1 rfl) ?_
          have hP9 := hP.sub (ws' := [(h, .inr (4, [.ref po, .ref te, .ref op, .int 0, .int 0, .int 0, .int 0, .int 0])), (op, .inl (kop, 101, .inl o_7))]) [0, 1] rfl
          have hD9 := hD.sub (ws' := [(h, .inr (4, [.ref po, .ref te, .ref op, .int 0, .int 0, .int 0, .int 0, .int 0])), (op, .inl (kop, 101, .inl o_7))]) [0, 1] (by decide) rfl
          have hK9 := hK.sub (tys' := []) [] rfl
          exact W.iret (v := r_14) hx hb hr (fun tZ htZ hW => ⟨⟨r_14, o_7, rfl, trivial, by rw [htZ]; exact hP9, va_K.moved hW.alike hK9, hD9⟩, hS.F htZ⟩) hS.2.2 dX4_formula_121
        · exact absurd c_18 (by decide)
    · exact absurd c_12 (by decide)
theorem dX4_parse_0 : decode cX4_parse 0 = .ok (.aload_n 0, 1) := by decide +kernel
theorem dX4_parse_1 : decode cX4_parse 1 = .ok (.iload_n 1, 1) := by decide +kernel
theorem dX4_parse_2 : decode cX4_parse 2 = .ok (.putfield 26, 3) := by decide +kernel
theorem dX4_parse_5 : decode cX4_parse 5 = .ok (.aload_n 0, 1) := by decide +kernel
theorem dX4_parse_6 : decode cX4_parse 6 = .ok (.iconst 0, 1) := by decide +kernel
theorem dX4_parse_7 : decode cX4_parse 7 = .ok (.putfield 29, 3) := by decide +kernel
theorem dX4_parse_10 : decode cX4_parse 10 = .ok (.aload_n 0, 1) := by decide +kernel
theorem dX4_parse_11 : decode cX4_parse 11 = .ok (.iconst 0, 1) := by decide +kernel
theorem dX4_parse_12 : decode cX4_parse 12 = .ok (.putfield 32, 3) := by decide +kernel
theorem dX4_parse_15 : decode cX4_parse 15 = .ok (.aload_n 0, 1) := by decide +kernel
theorem dX4_parse_16 : decode cX4_parse 16 = .ok (.iconst 0, 1) := by decide +kernel
theorem dX4_parse_17 : decode cX4_parse 17 = .ok (.putfield 35, 3) := by decide +kernel
theorem dX4_parse_20 : decode cX4_parse 20 = .ok (.aload_n 0, 1) := by decide +kernel
theorem dX4_parse_21 : decode cX4_parse 21 = .ok (.iconst (-1), 1) := by decide +kernel
theorem dX4_parse_22 : decode cX4_parse 22 = .ok (.putfield 22, 3) := by decide +kernel
theorem dX4_parse_25 : decode cX4_parse 25 = .ok (.aload_n 0, 1) := by decide +kernel
theorem dX4_parse_26 : decode cX4_parse 26 = .ok (.invokevirtual 38, 3) := by decide +kernel
theorem dX4_parse_29 : decode cX4_parse 29 = .ok (.istore_n 2, 1) := by decide +kernel
theorem dX4_parse_30 : decode cX4_parse 30 = .ok (.aload_n 0, 1) := by decide +kernel
theorem dX4_parse_31 : decode cX4_parse 31 = .ok (.getfield 22, 3) := by decide +kernel
theorem dX4_parse_34 : decode cX4_parse 34 = .ok (.iconst (-1), 1) := by decide +kernel
theorem dX4_parse_35 : decode cX4_parse 35 = .ok (.if_icmp .ne 22, 3) := by decide +kernel
theorem dX4_parse_38 : decode cX4_parse 38 = .ok (.aload_n 0, 1) := by decide +kernel
theorem dX4_parse_39 : decode cX4_parse 39 = .ok (.getfield 29, 3) := by decide +kernel
theorem dX4_parse_42 : decode cX4_parse 42 = .ok (.aload_n 0, 1) := by decide +kernel
theorem dX4_parse_43 : decode cX4_parse 43 = .ok (.getfield 26, 3) := by decide +kernel
theorem dX4_parse_46 : decode cX4_parse 46 = .ok (.if_icmp .ge 11, 3) := by decide +kernel
theorem dX4_parse_49 : decode cX4_parse 49 = .ok (.aload_n 0, 1) := by decide +kernel
theorem dX4_parse_50 : decode cX4_parse 50 = .ok (.aload_n 0, 1) := by decide +kernel
theorem dX4_parse_51 : decode cX4_parse 51 = .ok (.getfield 29, 3) := by decide +kernel
theorem dX4_parse_54 : decode cX4_parse 54 = .ok (.putfield 22, 3) := by decide +kernel
theorem dX4_parse_57 : decode cX4_parse 57 = .ok (.aload_n 0, 1) := by decide +kernel
theorem dX4_parse_58 : decode cX4_parse 58 = .ok (.getfield 22, 3) := by decide +kernel
theorem dX4_parse_61 : decode cX4_parse 61 = .ok (.iconst (-1), 1) := by decide +kernel
theorem dX4_parse_62 : decode cX4_parse 62 = .ok (.if_icmp .ne 7, 3) := by decide +kernel
theorem dX4_parse_65 : decode cX4_parse 65 = .ok (.iload_n 2, 1) := by decide +kernel
theorem dX4_parse_66 : decode cX4_parse 66 = .ok (.goto 4, 3) := by decide +kernel
theorem dX4_parse_69 : decode cX4_parse 69 = .ok (.iconst (-1), 1) := by decide +kernel
theorem dX4_parse_70 : decode cX4_parse 70 = .ok (.ireturn, 1) := by decide +kernel
def wo_X4_parseA : List Cond := [.fieldLink RX4 26 "DynamicLogicProver$Parser" "end" "I", .fieldLink RX4 29 "DynamicLogicProver$Parser" "place" "I", .fieldLink RX4 32 "DynamicLogicProver$Parser" "open" "I", .fieldLink RX4 35 "DynamicLogicProver$Parser" "waiting" "I", .fieldLink RX4 22 "DynamicLogicProver$Parser" "fault" "I", .methodLink RX4 38 yX4_formula, .instanceMethod yX4_formula, .selects RX4 yX4_formula yX4_formula, .initialized RX4]
def wd_X4_parseA : List Cond := .code yX4_parse cX4_parse 3 (some .int) :: (wo_X4_parseA ++ (wd_X4_formulaA ++ (wsX40 ++ ([] : List Cond))))
theorem mo_X4_parseA {w : Cond} (i : Nat) (h : wo_X4_parseA[i]? = some w) : w ∈ wd_X4_parseA := List.mem_cons_of_mem _ (List.mem_append_left _ (List.mem_of_getElem? h))
theorem mb_X4_parseA_0 : ∀ w ∈ wd_X4_formulaA, w ∈ wd_X4_parseA := fun w h => List.mem_cons_of_mem _ (List.mem_append_right _ (List.mem_append_left _ h))
theorem mb_X4_parseA_1 : ∀ w ∈ wsX40, w ∈ wd_X4_parseA := fun w h => List.mem_cons_of_mem _ (List.mem_append_right _ (List.mem_append_right _ (List.mem_append_left _ h)))
theorem hd_X4_parse : yX4_parse.cls ≠ "java/lang/invoke/MethodHandle" ∧ yX4_parse.cls ≠ "java/lang/invoke/VarHandle" ∧ (parseMethodDescriptor yX4_parse.desc).map (fun d => d.parameters.length) = some 1 := by decide +kernel
set_option maxRecDepth 20000 in
theorem gw_X4_parseA : wd_X4_parseA.all goodWord = true := by decide +kernel
abbrev qc_X4_parseA (D : va_G) (h : Nat) (po : Nat) (te : Nat) (op : Nat) (kop : ClassId) (f : Nat → Int32) (A : Nat → Prop) : Array Value → State → Outcome → State → Prop := va_Qi (fun (r : Int32) (uZ : (Nat → Int32)) => True) (fun uZ tZ => kc_pos D A [(h, .inr (4, [.ref po, .ref te, .ref op, .int 0, .int 0, .int 0, .int 0, .int 0])), (op, .inl (kop, 101, .inl uZ))] [] tZ) A
set_option maxHeartbeats 4000000 in
set_option maxRecDepth 100000 in
theorem ct_X4_parseA (l : Launch) (D : va_G) (h : Nat) (po : Nat) (te : Nat) (op : Nat) (kop : ClassId) (f : Nat → Int32) (sz : Nat)  : Met l yX4_parse wd_X4_parseA ({ frames := 5, cells := 0, slots := 0, locals := 110 }) (va_Pc [.ref h, .int 0] (kc_pre D [(kop, .int)] [(h, .inr (4, [.ref po, .ref te, .ref op, .int 0, .int 0, .int 0, .int 0, .int (-1)])), (op, .inl (kop, 101, .inl f))] sz)) (qc_X4_parseA D h po te op kop f (va_A [(h, .inr (4, [.ref po, .ref te, .ref op, .int 0, .int 0, .int 0, .int 0, .int (-1)])), (op, .inl (kop, 101, .inl f))] sz)) 0 0 (va_A [(h, .inr (4, [.ref po, .ref te, .ref op, .int 0, .int 0, .int 0, .int 0, .int (-1)])), (op, .inl (kop, 101, .inl f))] sz) := by
  refine Met.ofW (cc := cX4_parse) (maxL := 3) (ret := (some .int)) (by decide) rfl ?_
  intro p e s m args below meth c s₁ B hml hv
  obtain ⟨rfl, hsz, hP, hK, hN, hD0⟩ := hv
  have hx := B.exec
  have hb := B.bytes
  have hr := B.returns
  have hts := atoms_spec (ws := wd_X4_parseA) B.pre
  have hown : s.vm.findClass RX4 = some m.cls := findClass_of_methodNamed B.named
  have hlocks := B.notSynchronized
  subst hsz
  have hD := hD0.self (sz := s.heap.size)
  generalize hAe : va_A [(h, .inr (4, [.ref po, .ref te, .ref op, .int 0, .int 0, .int 0, .int 0, .int (-1)])), (op, .inl (kop, 101, .inl f))] s.heap.size = A at hD ⊢
  have hA : ∀ q : Nat, s.heap.size ≤ q → A q := fun q h => by rw [← hAe]; exact Or.inr h
  have hS : va_S A s.heap s.heap [] := va_S.rf
  have hiX4 : ∀ w ∈ wsX40, w ∈ wd_X4_parseA := mb_X4_parseA_1
  have hl := lv_entry ([.ref h, .int 0]) (n := 3) (Nat.le_of_ble_eq_true rfl)
  rw [lg_entry_eq]
  generalize (lg_sl ([.ref h, .int 0]) ++ List.replicate (3 - (lg_sl ([.ref h, .int 0])).length) Slot.unset).toArray = ls at hl ⊢
  have hl : lv_has ls 3 [(0, .ref h), (1, .int 0)] := hl
  refine lv_aload_n hx hb dX4_parse_0 rfl (lv_at hl 0 rfl) ?_
  refine lv_iload_n hx hb dX4_parse_1 rfl (lv_at hl 1 rfl) ?_
  refine va_put (D := D) (ci := 4) (v := .int 0) (ty := .int) (C := RX4) (T := TX4) (N := 8) hx hb hts hiX4 tyX4 tyX4_ok nmX4 hown hK hP hD hS 0 rfl rfl 3 (by decide) (hts (.fieldLink RX4 26 "DynamicLogicProver$Parser" "end" "I") (mo_X4_parseA 0 rfl)) (fun _ h9 => h9) rfl (tyX4_ok 3 (by decide)) rfl rfl (Nat.le_of_ble_eq_true rfl) dX4_parse_2 (fun H locs hP hD hS => ?_)
  have hP : va_P D vwCl [(h, .inr (4, [.ref po, .ref te, .ref op, .int 0, .int 0, .int 0, .int 0, .int (-1)])), (op, .inl (kop, 101, .inl f))] H := hP
  have hD : va_D A [(h, .inr (4, [.ref po, .ref te, .ref op, .int 0, .int 0, .int 0, .int 0, .int (-1)])), (op, .inl (kop, 101, .inl f))] := hD
  refine lv_aload_n hx hb dX4_parse_5 rfl (lv_at hl 0 rfl) ?_
  refine lv_iconst (v := 0) hx hb dX4_parse_6 (by decide) ?_
  refine va_put (D := D) (ci := 4) (v := .int 0) (ty := .int) (C := RX4) (T := TX4) (N := 8) hx hb hts hiX4 tyX4 tyX4_ok nmX4 hown hK hP hD hS 0 rfl rfl 4 (by decide) (hts (.fieldLink RX4 29 "DynamicLogicProver$Parser" "place" "I") (mo_X4_parseA 1 rfl)) (fun _ h9 => h9) rfl (tyX4_ok 4 (by decide)) rfl rfl (Nat.le_of_ble_eq_true rfl) dX4_parse_7 (fun H locs hP hD hS => ?_)
  have hP : va_P D vwCl [(h, .inr (4, [.ref po, .ref te, .ref op, .int 0, .int 0, .int 0, .int 0, .int (-1)])), (op, .inl (kop, 101, .inl f))] H := hP
  have hD : va_D A [(h, .inr (4, [.ref po, .ref te, .ref op, .int 0, .int 0, .int 0, .int 0, .int (-1)])), (op, .inl (kop, 101, .inl f))] := hD
  refine lv_aload_n hx hb dX4_parse_10 rfl (lv_at hl 0 rfl) ?_
  refine lv_iconst (v := 0) hx hb dX4_parse_11 (by decide) ?_
  refine va_put (D := D) (ci := 4) (v := .int 0) (ty := .int) (C := RX4) (T := TX4) (N := 8) hx hb hts hiX4 tyX4 tyX4_ok nmX4 hown hK hP hD hS 0 rfl rfl 5 (by decide) (hts (.fieldLink RX4 32 "DynamicLogicProver$Parser" "open" "I") (mo_X4_parseA 2 rfl)) (fun _ h9 => h9) rfl (tyX4_ok 5 (by decide)) rfl rfl (Nat.le_of_ble_eq_true rfl) dX4_parse_12 (fun H locs hP hD hS => ?_)
  have hP : va_P D vwCl [(h, .inr (4, [.ref po, .ref te, .ref op, .int 0, .int 0, .int 0, .int 0, .int (-1)])), (op, .inl (kop, 101, .inl f))] H := hP
  have hD : va_D A [(h, .inr (4, [.ref po, .ref te, .ref op, .int 0, .int 0, .int 0, .int 0, .int (-1)])), (op, .inl (kop, 101, .inl f))] := hD
  refine lv_aload_n hx hb dX4_parse_15 rfl (lv_at hl 0 rfl) ?_
  refine lv_iconst (v := 0) hx hb dX4_parse_16 (by decide) ?_
  refine va_put (D := D) (ci := 4) (v := .int 0) (ty := .int) (C := RX4) (T := TX4) (N := 8) hx hb hts hiX4 tyX4 tyX4_ok nmX4 hown hK hP hD hS 0 rfl rfl 6 (by decide) (hts (.fieldLink RX4 35 "DynamicLogicProver$Parser" "waiting" "I") (mo_X4_parseA 3 rfl)) (fun _ h9 => h9) rfl (tyX4_ok 6 (by decide)) rfl rfl (Nat.le_of_ble_eq_true rfl) dX4_parse_17 (fun H locs hP hD hS => ?_)
  have hP : va_P D vwCl [(h, .inr (4, [.ref po, .ref te, .ref op, .int 0, .int 0, .int 0, .int 0, .int (-1)])), (op, .inl (kop, 101, .inl f))] H := hP
  have hD : va_D A [(h, .inr (4, [.ref po, .ref te, .ref op, .int 0, .int 0, .int 0, .int 0, .int (-1)])), (op, .inl (kop, 101, .inl f))] := hD
  refine lv_aload_n hx hb dX4_parse_20 rfl (lv_at hl 0 rfl) ?_
  refine lv_iconst (v := (-1)) hx hb dX4_parse_21 (by decide) ?_
  refine va_put (D := D) (ci := 4) (v := .int (-1)) (ty := .int) (C := RX4) (T := TX4) (N := 8) hx hb hts hiX4 tyX4 tyX4_ok nmX4 hown hK hP hD hS 0 rfl rfl 7 (by decide) (hts (.fieldLink RX4 22 "DynamicLogicProver$Parser" "fault" "I") (mo_X4_parseA 4 rfl)) (fun _ h9 => h9) rfl (tyX4_ok 7 (by decide)) rfl rfl (Nat.le_of_ble_eq_true rfl) dX4_parse_22 (fun H locs hP hD hS => ?_)
  have hP : va_P D vwCl [(h, .inr (4, [.ref po, .ref te, .ref op, .int 0, .int 0, .int 0, .int 0, .int (-1)])), (op, .inl (kop, 101, .inl f))] H := hP
  have hD : va_D A [(h, .inr (4, [.ref po, .ref te, .ref op, .int 0, .int 0, .int 0, .int 0, .int (-1)])), (op, .inl (kop, 101, .inl f))] := hD
  refine lv_aload_n hx hb dX4_parse_25 rfl (lv_at hl 0 rfl) ?_
  refine kc_Vi (As := []) (rest := []) (wr := []) ⟨hx, hb, hml, hown, hts⟩ (ct_X4_formulaA l D h po te op kop f _ ) (cwV 0 hts (kg_V (mo_X4_parseA 5 rfl) (mo_X4_parseA 6 rfl) (mo_X4_parseA 7 rfl) (mo_X4_parseA 8 rfl) (goodIn_sub mb_X4_parseA_0 gw_X4_formulaA)) rfl rfl rfl ⟨rfl, hd_X4_formula⟩ ⟨Nat.le_of_ble_eq_true rfl, Nat.le_of_ble_eq_true rfl⟩) (RX4, TX4, 8) 4 0 rfl rfl rfl hK hN hP hD hS hA [0, 1] [] [0] rfl rfl (by decide) (by decide) (by decide) rfl rfl hl.1 rfl (Nat.le_of_ble_eq_true rfl) dX4_parse_26 ⟨Nat.le_of_ble_eq_true rfl, Nat.le_of_ble_eq_true rfl⟩ (fun r_1 u_2 H locs w_3 hP hD hK1 hS => ?_)
  obtain ⟨o_4, rfl⟩ : ∃ z, z = u_2 := ⟨_, rfl⟩
  have hP : va_P D vwCl [(h, .inr (4, [.ref po, .ref te, .ref op, .int 0, .int 0, .int 0, .int 0, .int 0])), (op, .inl (kop, 101, .inl o_4))] H := hP
  have hD : va_D A [(h, .inr (4, [.ref po, .ref te, .ref op, .int 0, .int 0, .int 0, .int 0, .int 0])), (op, .inl (kop, 101, .inl o_4))] := hD
  refine lv_istore_n (lv' := [(2, .int r_1), (0, .ref h), (1, .int 0)]) hx hb dX4_parse_29 rfl hl (by decide) rfl (fun ls hl => ?_)
  refine lv_aload_n hx hb dX4_parse_30 rfl (lv_at hl 1 rfl) ?_
  refine va_get (D := D) (ci := 4) (v := .int 0) (C := RX4) (T := TX4) (N := 8) hx hb hts hiX4 hown hK hP 0 rfl rfl 7 (by decide) (hts (.fieldLink RX4 22 "DynamicLogicProver$Parser" "fault" "I") (mo_X4_parseA 4 rfl)) (fun _ h9 => h9) rfl dX4_parse_31 ?_
  refine lv_iconst (v := (-1)) hx hb dX4_parse_34 (by decide) ?_
  refine lv_icmp_ne (tgt := 57) hx hb dX4_parse_35 (by decide) (fun c_5 => ?_) (fun c_5 => ?_)
  · refine lv_aload_n hx hb dX4_parse_57 rfl (lv_at hl 1 rfl) ?_
    refine va_get (D := D) (ci := 4) (v := .int 0) (C := RX4) (T := TX4) (N := 8) hx hb hts hiX4 hown hK hP 0 rfl rfl 7 (by decide) (hts (.fieldLink RX4 22 "DynamicLogicProver$Parser" "fault" "I") (mo_X4_parseA 4 rfl)) (fun _ h9 => h9) rfl dX4_parse_58 ?_
    refine lv_iconst (v := (-1)) hx hb dX4_parse_61 (by decide) ?_
    refine lv_icmp_ne (tgt := 69) hx hb dX4_parse_62 (by decide) (fun c_6 => ?_) (fun c_6 => ?_)
    · refine lv_iconst (v := (-1)) hx hb dX4_parse_69 (by decide) ?_
      have hP9 := hP.sub (ws' := [(h, .inr (4, [.ref po, .ref te, .ref op, .int 0, .int 0, .int 0, .int 0, .int 0])), (op, .inl (kop, 101, .inl o_4))]) [0, 1] rfl
      have hD9 := hD.sub (ws' := [(h, .inr (4, [.ref po, .ref te, .ref op, .int 0, .int 0, .int 0, .int 0, .int 0])), (op, .inl (kop, 101, .inl o_4))]) [0, 1] (by decide) rfl
      have hK9 := hK.sub (tys' := []) [] rfl
      exact W.iret (v := (-1)) hx hb hr (fun tZ htZ hW => ⟨⟨(-1), o_4, rfl, trivial, by rw [htZ]; exact hP9, va_K.moved hW.alike hK9, hD9⟩, hS.F htZ⟩) hS.2.2 dX4_parse_70
    · exact absurd c_6 (by decide)
  · exact absurd c_5 (by decide)
theorem dX11_init_0 : decode cX11_init 0 = .ok (.aload_n 0, 1) := by decide +kernel
theorem dX11_init_1 : decode cX11_init 1 = .ok (.invokespecial 3, 3) := by decide +kernel
theorem dX11_init_4 : decode cX11_init 4 = .ok (.aload_n 0, 1) := by decide +kernel
theorem dX11_init_5 : decode cX11_init 5 = .ok (.new 9, 3) := by decide +kernel
theorem dX11_init_8 : decode cX11_init 8 = .ok (.dup, 1) := by decide +kernel
theorem dX11_init_9 : decode cX11_init 9 = .ok (.invokespecial 11, 3) := by decide +kernel
theorem dX11_init_12 : decode cX11_init 12 = .ok (.putfield 12, 3) := by decide +kernel
theorem dX11_init_15 : decode cX11_init 15 = .ok (.aload_n 0, 1) := by decide +kernel
theorem dX11_init_16 : decode cX11_init 16 = .ok (.new 9, 3) := by decide +kernel
theorem dX11_init_19 : decode cX11_init 19 = .ok (.dup, 1) := by decide +kernel
theorem dX11_init_20 : decode cX11_init 20 = .ok (.invokespecial 11, 3) := by decide +kernel
theorem dX11_init_23 : decode cX11_init 23 = .ok (.putfield 18, 3) := by decide +kernel
theorem dX11_init_26 : decode cX11_init 26 = .ok (.aload_n 0, 1) := by decide +kernel
theorem dX11_init_27 : decode cX11_init 27 = .ok (.new 9, 3) := by decide +kernel
theorem dX11_init_30 : decode cX11_init 30 = .ok (.dup, 1) := by decide +kernel
theorem dX11_init_31 : decode cX11_init 31 = .ok (.invokespecial 11, 3) := by decide +kernel
theorem dX11_init_34 : decode cX11_init 34 = .ok (.putfield 21, 3) := by decide +kernel
theorem dX11_init_37 : decode cX11_init 37 = .ok (.aload_n 0, 1) := by decide +kernel
theorem dX11_init_38 : decode cX11_init 38 = .ok (.new 24, 3) := by decide +kernel
theorem dX11_init_41 : decode cX11_init 41 = .ok (.dup, 1) := by decide +kernel
theorem dX11_init_42 : decode cX11_init 42 = .ok (.invokespecial 26, 3) := by decide +kernel
theorem dX11_init_45 : decode cX11_init 45 = .ok (.putfield 27, 3) := by decide +kernel
theorem dX11_init_48 : decode cX11_init 48 = .ok (.aload_n 0, 1) := by decide +kernel
theorem dX11_init_49 : decode cX11_init 49 = .ok (.new 24, 3) := by decide +kernel
theorem dX11_init_52 : decode cX11_init 52 = .ok (.dup, 1) := by decide +kernel
theorem dX11_init_53 : decode cX11_init 53 = .ok (.invokespecial 26, 3) := by decide +kernel
theorem dX11_init_56 : decode cX11_init 56 = .ok (.putfield 31, 3) := by decide +kernel
theorem dX11_init_59 : decode cX11_init 59 = .ok (.aload_n 0, 1) := by decide +kernel
theorem dX11_init_60 : decode cX11_init 60 = .ok (.new 34, 3) := by decide +kernel
theorem dX11_init_63 : decode cX11_init 63 = .ok (.dup, 1) := by decide +kernel
theorem dX11_init_64 : decode cX11_init 64 = .ok (.invokespecial 36, 3) := by decide +kernel
theorem dX11_init_67 : decode cX11_init 67 = .ok (.putfield 37, 3) := by decide +kernel
theorem dX11_init_70 : decode cX11_init 70 = .ok (.aload_n 0, 1) := by decide +kernel
theorem dX11_init_71 : decode cX11_init 71 = .ok (.new 41, 3) := by decide +kernel
theorem dX11_init_74 : decode cX11_init 74 = .ok (.dup, 1) := by decide +kernel
theorem dX11_init_75 : decode cX11_init 75 = .ok (.invokespecial 43, 3) := by decide +kernel
theorem dX11_init_78 : decode cX11_init 78 = .ok (.putfield 44, 3) := by decide +kernel
theorem dX11_init_81 : decode cX11_init 81 = .ok (.aload_n 0, 1) := by decide +kernel
theorem dX11_init_82 : decode cX11_init 82 = .ok (.bipush 100, 2) := by decide +kernel
theorem dX11_init_84 : decode cX11_init 84 = .ok (.newarray .int, 2) := by decide +kernel
theorem dX11_init_86 : decode cX11_init 86 = .ok (.putfield 48, 3) := by decide +kernel
theorem dX11_init_89 : decode cX11_init 89 = .ok (.aload_n 0, 1) := by decide +kernel
theorem dX11_init_90 : decode cX11_init 90 = .ok (.new 52, 3) := by decide +kernel
theorem dX11_init_93 : decode cX11_init 93 = .ok (.dup, 1) := by decide +kernel
theorem dX11_init_94 : decode cX11_init 94 = .ok (.aload_n 0, 1) := by decide +kernel
theorem dX11_init_95 : decode cX11_init 95 = .ok (.getfield 44, 3) := by decide +kernel
theorem dX11_init_98 : decode cX11_init 98 = .ok (.aload_n 0, 1) := by decide +kernel
theorem dX11_init_99 : decode cX11_init 99 = .ok (.getfield 48, 3) := by decide +kernel
theorem dX11_init_102 : decode cX11_init 102 = .ok (.invokespecial 54, 3) := by decide +kernel
theorem dX11_init_105 : decode cX11_init 105 = .ok (.putfield 57, 3) := by decide +kernel
theorem dX11_init_108 : decode cX11_init 108 = .ok (.aload_n 0, 1) := by decide +kernel
theorem dX11_init_109 : decode cX11_init 109 = .ok (.new 61, 3) := by decide +kernel
theorem dX11_init_112 : decode cX11_init 112 = .ok (.dup, 1) := by decide +kernel
theorem dX11_init_113 : decode cX11_init 113 = .ok (.aload_n 0, 1) := by decide +kernel
theorem dX11_init_114 : decode cX11_init 114 = .ok (.getfield 44, 3) := by decide +kernel
theorem dX11_init_117 : decode cX11_init 117 = .ok (.invokespecial 63, 3) := by decide +kernel
theorem dX11_init_120 : decode cX11_init 120 = .ok (.putfield 66, 3) := by decide +kernel
theorem dX11_init_123 : decode cX11_init 123 = .ok (.aload_n 0, 1) := by decide +kernel
theorem dX11_init_124 : decode cX11_init 124 = .ok (.new 70, 3) := by decide +kernel
theorem dX11_init_127 : decode cX11_init 127 = .ok (.dup, 1) := by decide +kernel
theorem dX11_init_128 : decode cX11_init 128 = .ok (.aload_n 0, 1) := by decide +kernel
theorem dX11_init_129 : decode cX11_init 129 = .ok (.getfield 44, 3) := by decide +kernel
theorem dX11_init_132 : decode cX11_init 132 = .ok (.invokespecial 72, 3) := by decide +kernel
theorem dX11_init_135 : decode cX11_init 135 = .ok (.putfield 73, 3) := by decide +kernel
theorem dX11_init_138 : decode cX11_init 138 = .ok (.aload_n 0, 1) := by decide +kernel
theorem dX11_init_139 : decode cX11_init 139 = .ok (.new 77, 3) := by decide +kernel
theorem dX11_init_142 : decode cX11_init 142 = .ok (.dup, 1) := by decide +kernel
theorem dX11_init_143 : decode cX11_init 143 = .ok (.aload_n 0, 1) := by decide +kernel
theorem dX11_init_144 : decode cX11_init 144 = .ok (.getfield 44, 3) := by decide +kernel
theorem dX11_init_147 : decode cX11_init 147 = .ok (.invokespecial 79, 3) := by decide +kernel
theorem dX11_init_150 : decode cX11_init 150 = .ok (.putfield 80, 3) := by decide +kernel
theorem dX11_init_153 : decode cX11_init 153 = .ok (.aload_n 0, 1) := by decide +kernel
theorem dX11_init_154 : decode cX11_init 154 = .ok (.new 84, 3) := by decide +kernel
theorem dX11_init_157 : decode cX11_init 157 = .ok (.dup, 1) := by decide +kernel
theorem dX11_init_158 : decode cX11_init 158 = .ok (.invokespecial 86, 3) := by decide +kernel
theorem dX11_init_161 : decode cX11_init 161 = .ok (.putfield 87, 3) := by decide +kernel
theorem dX11_init_164 : decode cX11_init 164 = .ok (.aload_n 0, 1) := by decide +kernel
theorem dX11_init_165 : decode cX11_init 165 = .ok (.new 91, 3) := by decide +kernel
theorem dX11_init_168 : decode cX11_init 168 = .ok (.dup, 1) := by decide +kernel
theorem dX11_init_169 : decode cX11_init 169 = .ok (.aload_n 0, 1) := by decide +kernel
theorem dX11_init_170 : decode cX11_init 170 = .ok (.getfield 44, 3) := by decide +kernel
theorem dX11_init_173 : decode cX11_init 173 = .ok (.aload_n 0, 1) := by decide +kernel
theorem dX11_init_174 : decode cX11_init 174 = .ok (.getfield 80, 3) := by decide +kernel
theorem dX11_init_177 : decode cX11_init 177 = .ok (.aload_n 0, 1) := by decide +kernel
theorem dX11_init_178 : decode cX11_init 178 = .ok (.getfield 73, 3) := by decide +kernel
theorem dX11_init_181 : decode cX11_init 181 = .ok (.aload_n 0, 1) := by decide +kernel
theorem dX11_init_182 : decode cX11_init 182 = .ok (.getfield 12, 3) := by decide +kernel
theorem dX11_init_185 : decode cX11_init 185 = .ok (.invokespecial 93, 3) := by decide +kernel
theorem dX11_init_188 : decode cX11_init 188 = .ok (.putfield 96, 3) := by decide +kernel
theorem dX11_init_191 : decode cX11_init 191 = .ok (.aload_n 0, 1) := by decide +kernel
theorem dX11_init_192 : decode cX11_init 192 = .ok (.new 100, 3) := by decide +kernel
theorem dX11_init_195 : decode cX11_init 195 = .ok (.dup, 1) := by decide +kernel
theorem dX11_init_196 : decode cX11_init 196 = .ok (.aload_n 0, 1) := by decide +kernel
theorem dX11_init_197 : decode cX11_init 197 = .ok (.getfield 80, 3) := by decide +kernel
theorem dX11_init_200 : decode cX11_init 200 = .ok (.invokespecial 102, 3) := by decide +kernel
theorem dX11_init_203 : decode cX11_init 203 = .ok (.putfield 105, 3) := by decide +kernel
theorem dX11_init_206 : decode cX11_init 206 = .ok (.aload_n 0, 1) := by decide +kernel
theorem dX11_init_207 : decode cX11_init 207 = .ok (.iconst 0, 1) := by decide +kernel
theorem dX11_init_208 : decode cX11_init 208 = .ok (.putfield 109, 3) := by decide +kernel
theorem dX11_init_211 : decode cX11_init 211 = .ok (.aload_n 0, 1) := by decide +kernel
theorem dX11_init_212 : decode cX11_init 212 = .ok (.iconst 0, 1) := by decide +kernel
theorem dX11_init_213 : decode cX11_init 213 = .ok (.putfield 113, 3) := by decide +kernel
theorem dX11_init_216 : decode cX11_init 216 = .ok (.return_, 1) := by decide +kernel
def wo_X11_init : List Cond := [.methodLink RX11 3 objectInit, .instanceMethod objectInit, .code objectInit ⟨#[0xb1]⟩ 1 none, .classLink RX11 9 RX3, .instantiable RX3 3, .initialized RX3, .methodLink RX11 11 yX3_init, .instanceMethod yX3_init, .fieldLink RX11 12 "DynamicLogicProver" "model" "LDynamicLogicProver$Model;", .fieldLink RX11 18 "DynamicLogicProver" "savedModel" "LDynamicLogicProver$Model;", .fieldLink RX11 21 "DynamicLogicProver" "scratch" "LDynamicLogicProver$Model;", .classLink RX11 24 RX9, .instantiable RX9 4, .initialized RX9, .methodLink RX11 26 yX9_init, .instanceMethod yX9_init, .fieldLink RX11 27 "DynamicLogicProver" "formulas" "LDynamicLogicProver$Shelf;", .fieldLink RX11 31 "DynamicLogicProver" "savedFormulas" "LDynamicLogicProver$Shelf;", .classLink RX11 34 RX0, .instantiable RX0 3, .initialized RX0, .methodLink RX11 36 yX0_init, .instanceMethod yX0_init, .fieldLink RX11 37 "DynamicLogicProver" "buffers" "LDynamicLogicProver$Buffers;", .classLink RX11 41 RX6, .instantiable RX6 12, .initialized RX6, .methodLink RX11 43 yX6_init, .instanceMethod yX6_init, .fieldLink RX11 44 "DynamicLogicProver" "pool" "LDynamicLogicProver$Pool;", .arrayClass .int, .fieldLink RX11 48 "DynamicLogicProver" "text" "[I", .classLink RX11 52 RX4, .instantiable RX4 8, .initialized RX4, .methodLink RX11 54 yX4_init, .instanceMethod yX4_init, .fieldLink RX11 57 "DynamicLogicProver" "parser" "LDynamicLogicProver$Parser;", .classLink RX11 61 RX7, .instantiable RX7 3, .initialized RX7, .methodLink RX11 63 yX7_init, .instanceMethod yX7_init, .fieldLink RX11 66 "DynamicLogicProver" "rewriter" "LDynamicLogicProver$Rewriter;", .classLink RX11 70 RX10, .instantiable RX10 5, .initialized RX10, .methodLink RX11 72 yX10_init, .instanceMethod yX10_init, .fieldLink RX11 73 "DynamicLogicProver" "truth" "LDynamicLogicProver$Truth;", .classLink RX11 77 RX1, .instantiable RX1 6, .initialized RX1, .methodLink RX11 79 yX1_init, .instanceMethod yX1_init, .fieldLink RX11 80 "DynamicLogicProver" "closure" "LDynamicLogicProver$Closure;", .classLink RX11 84 RX5, .instantiable RX5 5, .initialized RX5, .methodLink RX11 86 yX5_init, .instanceMethod yX5_init, .fieldLink RX11 87 "DynamicLogicProver" "partition" "LDynamicLogicProver$Partition;", .classLink RX11 91 RX8, .instantiable RX8 15, .initialized RX8, .methodLink RX11 93 yX8_init, .instanceMethod yX8_init, .fieldLink RX11 96 "DynamicLogicProver" "runs" "LDynamicLogicProver$Runs;", .classLink RX11 100 RX2, .instantiable RX2 13, .initialized RX2, .methodLink RX11 102 yX2_init, .instanceMethod yX2_init, .fieldLink RX11 105 "DynamicLogicProver" "decision" "LDynamicLogicProver$Decision;", .fieldLink RX11 109 "DynamicLogicProver" "textUsed" "I", .fieldLink RX11 113 "DynamicLogicProver" "saved" "Z"]
def wd_X11_init : List Cond := .code yX11_init cX11_init 1 none :: (wo_X11_init ++ (wd_X3_init ++ (wd_X9_init ++ (wd_X0_init ++ (wd_X6_init ++ (wd_X4_init ++ (wd_X7_init ++ (wd_X10_init ++ (wd_X1_init ++ (wd_X5_init ++ (wd_X8_init ++ (wd_X2_init ++ (wsX00 ++ (wsX10 ++ (wsX100 ++ (wsX110 ++ (wsX20 ++ (wsX30 ++ (wsX40 ++ (wsX50 ++ (wsX60 ++ (wsX70 ++ (wsX80 ++ (wsX90 ++ ([] : List Cond)))))))))))))))))))))))))
theorem mo_X11_init {w : Cond} (i : Nat) (h : wo_X11_init[i]? = some w) : w ∈ wd_X11_init := List.mem_cons_of_mem _ (List.mem_append_left _ (List.mem_of_getElem? h))
theorem mb_X11_init_0 : ∀ w ∈ wd_X3_init, w ∈ wd_X11_init := fun w h => List.mem_cons_of_mem _ (List.mem_append_right _ (List.mem_append_left _ h))
theorem mb_X11_init_1 : ∀ w ∈ wd_X9_init, w ∈ wd_X11_init := fun w h => List.mem_cons_of_mem _ (List.mem_append_right _ (List.mem_append_right _ (List.mem_append_left _ h)))
theorem mb_X11_init_2 : ∀ w ∈ wd_X0_init, w ∈ wd_X11_init := fun w h => List.mem_cons_of_mem _ (List.mem_append_right _ (List.mem_append_right _ (List.mem_append_right _ (List.mem_append_left _ h))))
theorem mb_X11_init_3 : ∀ w ∈ wd_X6_init, w ∈ wd_X11_init := fun w h => List.mem_cons_of_mem _ (List.mem_append_right _ (List.mem_append_right _ (List.mem_append_right _ (List.mem_append_right _ (List.mem_append_left _ h)))))
theorem mb_X11_init_4 : ∀ w ∈ wd_X4_init, w ∈ wd_X11_init := fun w h => List.mem_cons_of_mem _ (List.mem_append_right _ (List.mem_append_right _ (List.mem_append_right _ (List.mem_append_right _ (List.mem_append_right _ (List.mem_append_left _ h))))))
theorem mb_X11_init_5 : ∀ w ∈ wd_X7_init, w ∈ wd_X11_init := fun w h => List.mem_cons_of_mem _ (List.mem_append_right _ (List.mem_append_right _ (List.mem_append_right _ (List.mem_append_right _ (List.mem_append_right _ (List.mem_append_right _ (List.mem_append_left _ h)))))))
theorem mb_X11_init_6 : ∀ w ∈ wd_X10_init, w ∈ wd_X11_init := fun w h => List.mem_cons_of_mem _ (List.mem_append_right _ (List.mem_append_right _ (List.mem_append_right _ (List.mem_append_right _ (List.mem_append_right _ (List.mem_append_right _ (List.mem_append_right _ (List.mem_append_left _ h))))))))
theorem mb_X11_init_7 : ∀ w ∈ wd_X1_init, w ∈ wd_X11_init := fun w h => List.mem_cons_of_mem _ (List.mem_append_right _ (List.mem_append_right _ (List.mem_append_right _ (List.mem_append_right _ (List.mem_append_right _ (List.mem_append_right _ (List.mem_append_right _ (List.mem_append_right _ (List.mem_append_left _ h)))))))))
theorem mb_X11_init_8 : ∀ w ∈ wd_X5_init, w ∈ wd_X11_init := fun w h => List.mem_cons_of_mem _ (List.mem_append_right _ (List.mem_append_right _ (List.mem_append_right _ (List.mem_append_right _ (List.mem_append_right _ (List.mem_append_right _ (List.mem_append_right _ (List.mem_append_right _ (List.mem_append_right _ (List.mem_append_left _ h))))))))))
theorem mb_X11_init_9 : ∀ w ∈ wd_X8_init, w ∈ wd_X11_init := fun w h => List.mem_cons_of_mem _ (List.mem_append_right _ (List.mem_append_right _ (List.mem_append_right _ (List.mem_append_right _ (List.mem_append_right _ (List.mem_append_right _ (List.mem_append_right _ (List.mem_append_right _ (List.mem_append_right _ (List.mem_append_right _ (List.mem_append_left _ h)))))))))))
theorem mb_X11_init_10 : ∀ w ∈ wd_X2_init, w ∈ wd_X11_init := fun w h => List.mem_cons_of_mem _ (List.mem_append_right _ (List.mem_append_right _ (List.mem_append_right _ (List.mem_append_right _ (List.mem_append_right _ (List.mem_append_right _ (List.mem_append_right _ (List.mem_append_right _ (List.mem_append_right _ (List.mem_append_right _ (List.mem_append_right _ (List.mem_append_left _ h))))))))))))
theorem mb_X11_init_11 : ∀ w ∈ wsX00, w ∈ wd_X11_init := fun w h => List.mem_cons_of_mem _ (List.mem_append_right _ (List.mem_append_right _ (List.mem_append_right _ (List.mem_append_right _ (List.mem_append_right _ (List.mem_append_right _ (List.mem_append_right _ (List.mem_append_right _ (List.mem_append_right _ (List.mem_append_right _ (List.mem_append_right _ (List.mem_append_right _ (List.mem_append_left _ h)))))))))))))
theorem mb_X11_init_12 : ∀ w ∈ wsX10, w ∈ wd_X11_init := fun w h => List.mem_cons_of_mem _ (List.mem_append_right _ (List.mem_append_right _ (List.mem_append_right _ (List.mem_append_right _ (List.mem_append_right _ (List.mem_append_right _ (List.mem_append_right _ (List.mem_append_right _ (List.mem_append_right _ (List.mem_append_right _ (List.mem_append_right _ (List.mem_append_right _ (List.mem_append_right _ (List.mem_append_left _ h))))))))))))))
theorem mb_X11_init_13 : ∀ w ∈ wsX100, w ∈ wd_X11_init := fun w h => List.mem_cons_of_mem _ (List.mem_append_right _ (List.mem_append_right _ (List.mem_append_right _ (List.mem_append_right _ (List.mem_append_right _ (List.mem_append_right _ (List.mem_append_right _ (List.mem_append_right _ (List.mem_append_right _ (List.mem_append_right _ (List.mem_append_right _ (List.mem_append_right _ (List.mem_append_right _ (List.mem_append_right _ (List.mem_append_left _ h)))))))))))))))
theorem mb_X11_init_14 : ∀ w ∈ wsX110, w ∈ wd_X11_init := fun w h => List.mem_cons_of_mem _ (List.mem_append_right _ (List.mem_append_right _ (List.mem_append_right _ (List.mem_append_right _ (List.mem_append_right _ (List.mem_append_right _ (List.mem_append_right _ (List.mem_append_right _ (List.mem_append_right _ (List.mem_append_right _ (List.mem_append_right _ (List.mem_append_right _ (List.mem_append_right _ (List.mem_append_right _ (List.mem_append_right _ (List.mem_append_left _ h))))))))))))))))
theorem mb_X11_init_15 : ∀ w ∈ wsX20, w ∈ wd_X11_init := fun w h => List.mem_cons_of_mem _ (List.mem_append_right _ (List.mem_append_right _ (List.mem_append_right _ (List.mem_append_right _ (List.mem_append_right _ (List.mem_append_right _ (List.mem_append_right _ (List.mem_append_right _ (List.mem_append_right _ (List.mem_append_right _ (List.mem_append_right _ (List.mem_append_right _ (List.mem_append_right _ (List.mem_append_right _ (List.mem_append_right _ (List.mem_append_right _ (List.mem_append_left _ h)))))))))))))))))
theorem mb_X11_init_16 : ∀ w ∈ wsX30, w ∈ wd_X11_init := fun w h => List.mem_cons_of_mem _ (List.mem_append_right _ (List.mem_append_right _ (List.mem_append_right _ (List.mem_append_right _ (List.mem_append_right _ (List.mem_append_right _ (List.mem_append_right _ (List.mem_append_right _ (List.mem_append_right _ (List.mem_append_right _ (List.mem_append_right _ (List.mem_append_right _ (List.mem_append_right _ (List.mem_append_right _ (List.mem_append_right _ (List.mem_append_right _ (List.mem_append_right _ (List.mem_append_left _ h))))))))))))))))))
theorem mb_X11_init_17 : ∀ w ∈ wsX40, w ∈ wd_X11_init := fun w h => List.mem_cons_of_mem _ (List.mem_append_right _ (List.mem_append_right _ (List.mem_append_right _ (List.mem_append_right _ (List.mem_append_right _ (List.mem_append_right _ (List.mem_append_right _ (List.mem_append_right _ (List.mem_append_right _ (List.mem_append_right _ (List.mem_append_right _ (List.mem_append_right _ (List.mem_append_right _ (List.mem_append_right _ (List.mem_append_right _ (List.mem_append_right _ (List.mem_append_right _ (List.mem_append_right _ (List.mem_append_left _ h)))))))))))))))))))
theorem mb_X11_init_18 : ∀ w ∈ wsX50, w ∈ wd_X11_init := fun w h => List.mem_cons_of_mem _ (List.mem_append_right _ (List.mem_append_right _ (List.mem_append_right _ (List.mem_append_right _ (List.mem_append_right _ (List.mem_append_right _ (List.mem_append_right _ (List.mem_append_right _ (List.mem_append_right _ (List.mem_append_right _ (List.mem_append_right _ (List.mem_append_right _ (List.mem_append_right _ (List.mem_append_right _ (List.mem_append_right _ (List.mem_append_right _ (List.mem_append_right _ (List.mem_append_right _ (List.mem_append_right _ (List.mem_append_left _ h))))))))))))))))))))
theorem mb_X11_init_19 : ∀ w ∈ wsX60, w ∈ wd_X11_init := fun w h => List.mem_cons_of_mem _ (List.mem_append_right _ (List.mem_append_right _ (List.mem_append_right _ (List.mem_append_right _ (List.mem_append_right _ (List.mem_append_right _ (List.mem_append_right _ (List.mem_append_right _ (List.mem_append_right _ (List.mem_append_right _ (List.mem_append_right _ (List.mem_append_right _ (List.mem_append_right _ (List.mem_append_right _ (List.mem_append_right _ (List.mem_append_right _ (List.mem_append_right _ (List.mem_append_right _ (List.mem_append_right _ (List.mem_append_right _ (List.mem_append_left _ h)))))))))))))))))))))
theorem mb_X11_init_20 : ∀ w ∈ wsX70, w ∈ wd_X11_init := fun w h => List.mem_cons_of_mem _ (List.mem_append_right _ (List.mem_append_right _ (List.mem_append_right _ (List.mem_append_right _ (List.mem_append_right _ (List.mem_append_right _ (List.mem_append_right _ (List.mem_append_right _ (List.mem_append_right _ (List.mem_append_right _ (List.mem_append_right _ (List.mem_append_right _ (List.mem_append_right _ (List.mem_append_right _ (List.mem_append_right _ (List.mem_append_right _ (List.mem_append_right _ (List.mem_append_right _ (List.mem_append_right _ (List.mem_append_right _ (List.mem_append_right _ (List.mem_append_left _ h))))))))))))))))))))))
theorem mb_X11_init_21 : ∀ w ∈ wsX80, w ∈ wd_X11_init := fun w h => List.mem_cons_of_mem _ (List.mem_append_right _ (List.mem_append_right _ (List.mem_append_right _ (List.mem_append_right _ (List.mem_append_right _ (List.mem_append_right _ (List.mem_append_right _ (List.mem_append_right _ (List.mem_append_right _ (List.mem_append_right _ (List.mem_append_right _ (List.mem_append_right _ (List.mem_append_right _ (List.mem_append_right _ (List.mem_append_right _ (List.mem_append_right _ (List.mem_append_right _ (List.mem_append_right _ (List.mem_append_right _ (List.mem_append_right _ (List.mem_append_right _ (List.mem_append_right _ (List.mem_append_left _ h)))))))))))))))))))))))
theorem mb_X11_init_22 : ∀ w ∈ wsX90, w ∈ wd_X11_init := fun w h => List.mem_cons_of_mem _ (List.mem_append_right _ (List.mem_append_right _ (List.mem_append_right _ (List.mem_append_right _ (List.mem_append_right _ (List.mem_append_right _ (List.mem_append_right _ (List.mem_append_right _ (List.mem_append_right _ (List.mem_append_right _ (List.mem_append_right _ (List.mem_append_right _ (List.mem_append_right _ (List.mem_append_right _ (List.mem_append_right _ (List.mem_append_right _ (List.mem_append_right _ (List.mem_append_right _ (List.mem_append_right _ (List.mem_append_right _ (List.mem_append_right _ (List.mem_append_right _ (List.mem_append_right _ (List.mem_append_left _ h))))))))))))))))))))))))
theorem hd_X11_init : yX11_init.cls ≠ "java/lang/invoke/MethodHandle" ∧ yX11_init.cls ≠ "java/lang/invoke/VarHandle" ∧ (parseMethodDescriptor yX11_init.desc).map (fun d => d.parameters.length) = some 0 := by decide +kernel
set_option maxRecDepth 20000 in
theorem gw_X11_init : wd_X11_init.all goodWord = true := by decide +kernel
abbrev qc_X11_init (D : va_G) (x : Nat) (A : Nat → Prop) : Array Value → State → Outcome → State → Prop := va_Qv (fun (uZ : (Nat) × (Nat) × (Nat) × (Nat) × (Nat) × (Nat) × (Nat) × (Nat) × (Nat) × (Nat) × (Nat) × (Nat) × (Nat) × (Nat) × (Nat) × (Nat) × (Nat) × (Nat) × (Nat) × (Nat) × (Nat) × (Nat) × (Nat) × (Nat) × (Nat) × (Nat) × (Nat) × (Nat) × (Nat) × (Nat) × (Nat) × (Nat) × (Nat) × (Nat) × (Nat) × (Nat) × (Nat) × (Nat) × (Nat) × (Nat) × (Nat) × (Nat) × (Nat) × (ClassId) × (ClassId) × (ClassId) × (ClassId) × (ClassId) × (ClassId) × (ClassId) × (ClassId) × (ClassId) × (ClassId) × (ClassId) × (ClassId) × (ClassId) × (ClassId) × (ClassId) × (ClassId) × (ClassId) × (Nat → Int32) × (Nat → Int32)) => ∀ k, k < 6 → uZ.2.2.2.2.2.2.2.2.2.2.2.2.2.2.2.2.2.2.2.2.2.2.2.2.2.2.2.2.2.2.2.2.2.2.2.2.2.2.2.2.2.2.2.2.2.2.2.2.2.2.2.2.2.2.2.2.2.2.2.2.1 k = -1) (fun uZ tZ => kc_pos D A [(x, .inr (11, [.ref uZ.1, .ref uZ.2.1, .ref uZ.2.2.1, .ref uZ.2.2.2.1, .ref uZ.2.2.2.2.1, .ref uZ.2.2.2.2.2.1, .ref uZ.2.2.2.2.2.2.1, .ref uZ.2.2.2.2.2.2.2.1, .ref uZ.2.2.2.2.2.2.2.2.1, .ref uZ.2.2.2.2.2.2.2.2.2.1, .ref uZ.2.2.2.2.2.2.2.2.2.2.1, .ref uZ.2.2.2.2.2.2.2.2.2.2.2.1, .ref uZ.2.2.2.2.2.2.2.2.2.2.2.2.1, .ref uZ.2.2.2.2.2.2.2.2.2.2.2.2.2.1, .ref uZ.2.2.2.2.2.2.2.2.2.2.2.2.2.2.1, .int 0, .int 0])), (uZ.1, .inr (3, [.ref uZ.2.2.2.2.2.2.2.2.2.2.2.2.2.2.2.1, .ref uZ.2.2.2.2.2.2.2.2.2.2.2.2.2.2.2.2.1, .int 1])), (uZ.2.2.2.2.2.2.2.2.2.2.2.2.2.2.2.1, .inl (uZ.2.2.2.2.2.2.2.2.2.2.2.2.2.2.2.2.2.2.2.2.2.2.2.2.2.2.2.2.2.2.2.2.2.2.2.2.2.2.2.2.2.2.2.1, 4, .inl (fun _ => 0))), (uZ.2.2.2.2.2.2.2.2.2.2.2.2.2.2.2.2.1, .inl (uZ.2.2.2.2.2.2.2.2.2.2.2.2.2.2.2.2.2.2.2.2.2.2.2.2.2.2.2.2.2.2.2.2.2.2.2.2.2.2.2.2.2.2.2.2.1, 18, .inl (fun _ => 0))), (uZ.2.1, .inr (3, [.ref uZ.2.2.2.2.2.2.2.2.2.2.2.2.2.2.2.2.2.1, .ref uZ.2.2.2.2.2.2.2.2.2.2.2.2.2.2.2.2.2.2.1, .int 1])), (uZ.2.2.2.2.2.2.2.2.2.2.2.2.2.2.2.2.2.1, .inl (uZ.2.2.2.2.2.2.2.2.2.2.2.2.2.2.2.2.2.2.2.2.2.2.2.2.2.2.2.2.2.2.2.2.2.2.2.2.2.2.2.2.2.2.2.2.2.1, 4, .inl (fun _ => 0))), (uZ.2.2.2.2.2.2.2.2.2.2.2.2.2.2.2.2.2.2.1, .inl (uZ.2.2.2.2.2.2.2.2.2.2.2.2.2.2.2.2.2.2.2.2.2.2.2.2.2.2.2.2.2.2.2.2.2.2.2.2.2.2.2.2.2.2.2.2.2.2.1, 18, .inl (fun _ => 0))), (uZ.2.2.2.1, .inr (9, [.ref uZ.2.2.2.2.2.2.2.2.2.2.2.2.2.2.2.2.2.2.2.1, .ref uZ.2.2.2.2.2.2.2.2.2.2.2.2.2.2.2.2.2.2.2.2.1, .ref uZ.2.2.2.2.2.2.2.2.2.2.2.2.2.2.2.2.2.2.2.2.2.1, .int 0])), (uZ.2.2.2.2.2.2.2.2.2.2.2.2.2.2.2.2.2.2.2.1, .inl (uZ.2.2.2.2.2.2.2.2.2.2.2.2.2.2.2.2.2.2.2.2.2.2.2.2.2.2.2.2.2.2.2.2.2.2.2.2.2.2.2.2.2.2.2.2.2.2.2.1, 960, .inl (fun _ => 0))), (uZ.2.2.2.2.2.2.2.2.2.2.2.2.2.2.2.2.2.2.2.2.1, .inl (uZ.2.2.2.2.2.2.2.2.2.2.2.2.2.2.2.2.2.2.2.2.2.2.2.2.2.2.2.2.2.2.2.2.2.2.2.2.2.2.2.2.2.2.2.2.2.2.2.2.1, 12, .inl (fun _ => 0))), (uZ.2.2.2.2.1, .inr (9, [.ref uZ.2.2.2.2.2.2.2.2.2.2.2.2.2.2.2.2.2.2.2.2.2.2.1, .ref uZ.2.2.2.2.2.2.2.2.2.2.2.2.2.2.2.2.2.2.2.2.2.2.2.1, .ref uZ.2.2.2.2.2.2.2.2.2.2.2.2.2.2.2.2.2.2.2.2.2.2.2.2.1, .int 0])), (uZ.2.2.2.2.2.2.2.2.2.2.2.2.2.2.2.2.2.2.2.2.2.2.1, .inl (uZ.2.2.2.2.2.2.2.2.2.2.2.2.2.2.2.2.2.2.2.2.2.2.2.2.2.2.2.2.2.2.2.2.2.2.2.2.2.2.2.2.2.2.2.2.2.2.2.2.2.1, 960, .inl (fun _ => 0))), (uZ.2.2.2.2.2.2.2.2.2.2.2.2.2.2.2.2.2.2.2.2.2.2.2.1, .inl (uZ.2.2.2.2.2.2.2.2.2.2.2.2.2.2.2.2.2.2.2.2.2.2.2.2.2.2.2.2.2.2.2.2.2.2.2.2.2.2.2.2.2.2.2.2.2.2.2.2.2.2.1, 12, .inl (fun _ => 0))), (uZ.2.2.2.2.2.1, .inr (0, [.ref uZ.2.2.2.2.2.2.2.2.2.2.2.2.2.2.2.2.2.2.2.2.2.2.2.2.2.1, .ref uZ.2.2.2.2.2.2.2.2.2.2.2.2.2.2.2.2.2.2.2.2.2.2.2.2.2.2.1, .ref uZ.2.2.2.2.2.2.2.2.2.2.2.2.2.2.2.2.2.2.2.2.2.2.2.2.2.2.2.1])), (uZ.2.2.2.2.2.2.2.2.2.2.2.2.2.2.2.2.2.2.2.2.2.2.2.2.2.1, .inl (uZ.2.2.2.2.2.2.2.2.2.2.2.2.2.2.2.2.2.2.2.2.2.2.2.2.2.2.2.2.2.2.2.2.2.2.2.2.2.2.2.2.2.2.2.2.2.2.2.2.2.2.2.1, 6, .inl uZ.2.2.2.2.2.2.2.2.2.2.2.2.2.2.2.2.2.2.2.2.2.2.2.2.2.2.2.2.2.2.2.2.2.2.2.2.2.2.2.2.2.2.2.2.2.2.2.2.2.2.2.2.2.2.2.2.2.2.2.2.1)), (uZ.2.2.2.2.2.2.2.2.2.2.2.2.2.2.2.2.2.2.2.2.2.2.2.2.2.2.1, .inl (uZ.2.2.2.2.2.2.2.2.2.2.2.2.2.2.2.2.2.2.2.2.2.2.2.2.2.2.2.2.2.2.2.2.2.2.2.2.2.2.2.2.2.2.2.2.2.2.2.2.2.2.2.2.1, 6, .inl (fun _ => 0))), (uZ.2.2.2.2.2.2.2.2.2.2.2.2.2.2.2.2.2.2.2.2.2.2.2.2.2.2.2.1, .inl (uZ.2.2.2.2.2.2.2.2.2.2.2.2.2.2.2.2.2.2.2.2.2.2.2.2.2.2.2.2.2.2.2.2.2.2.2.2.2.2.2.2.2.2.2.2.2.2.2.2.2.2.2.2.2.1, 360, .inr (.inl (fun _ => 0)))), (uZ.2.2.2.2.2.2.1, .inr (6, [.ref uZ.2.2.2.2.2.2.2.2.2.2.2.2.2.2.2.2.2.2.2.2.2.2.2.2.2.2.2.2.1, .ref uZ.2.2.2.2.2.2.2.2.2.2.2.2.2.2.2.2.2.2.2.2.2.2.2.2.2.2.2.2.2.1, .ref uZ.2.2.2.2.2.2.2.2.2.2.2.2.2.2.2.2.2.2.2.2.2.2.2.2.2.2.2.2.2.2.1, .ref uZ.2.2.2.2.2.2.2.2.2.2.2.2.2.2.2.2.2.2.2.2.2.2.2.2.2.2.2.2.2.2.2.1, .ref uZ.2.2.2.2.2.2.2.2.2.2.2.2.2.2.2.2.2.2.2.2.2.2.2.2.2.2.2.2.2.2.2.2.1, .ref uZ.2.2.2.2.2.2.2.2.2.2.2.2.2.2.2.2.2.2.2.2.2.2.2.2.2.2.2.2.2.2.2.2.2.1, .ref uZ.2.2.2.2.2.2.2.2.2.2.2.2.2.2.2.2.2.2.2.2.2.2.2.2.2.2.2.2.2.2.2.2.2.2.1, .ref uZ.2.2.2.2.2.2.2.2.2.2.2.2.2.2.2.2.2.2.2.2.2.2.2.2.2.2.2.2.2.2.2.2.2.2.2.1, .ref uZ.2.2.2.2.2.2.2.2.2.2.2.2.2.2.2.2.2.2.2.2.2.2.2.2.2.2.2.2.2.2.2.2.2.2.2.2.1, .ref uZ.2.2.2.2.2.2.2.2.2.2.2.2.2.2.2.2.2.2.2.2.2.2.2.2.2.2.2.2.2.2.2.2.2.2.2.2.2.1, .ref uZ.2.2.2.2.2.2.2.2.2.2.2.2.2.2.2.2.2.2.2.2.2.2.2.2.2.2.2.2.2.2.2.2.2.2.2.2.2.2.1, .int 0])), (uZ.2.2.2.2.2.2.2.2.2.2.2.2.2.2.2.2.2.2.2.2.2.2.2.2.2.2.2.2.2.2.2.2.2.2.2.1, .inl (uZ.2.2.2.2.2.2.2.2.2.2.2.2.2.2.2.2.2.2.2.2.2.2.2.2.2.2.2.2.2.2.2.2.2.2.2.2.2.2.2.2.2.2.2.2.2.2.2.2.2.2.2.2.2.2.1, 256, .inl uZ.2.2.2.2.2.2.2.2.2.2.2.2.2.2.2.2.2.2.2.2.2.2.2.2.2.2.2.2.2.2.2.2.2.2.2.2.2.2.2.2.2.2.2.2.2.2.2.2.2.2.2.2.2.2.2.2.2.2.2.2.2)), (uZ.2.2.2.2.2.2.2.1, .inl (uZ.2.2.2.2.2.2.2.2.2.2.2.2.2.2.2.2.2.2.2.2.2.2.2.2.2.2.2.2.2.2.2.2.2.2.2.2.2.2.2.2.2.2.2.2.2.2.2.2.2.2.2.2.2.2.2.1, 100, .inl (fun _ => 0))), (uZ.2.2.2.2.2.2.2.2.1, .inr (4, [.ref uZ.2.2.2.2.2.2.1, .ref uZ.2.2.2.2.2.2.2.1, .ref uZ.2.2.2.2.2.2.2.2.2.2.2.2.2.2.2.2.2.2.2.2.2.2.2.2.2.2.2.2.2.2.2.2.2.2.2.2.2.2.2.1, .int 0, .int 0, .int 0, .int 0, .int (-1)])), (uZ.2.2.2.2.2.2.2.2.2.2.2.2.2.2.2.2.2.2.2.2.2.2.2.2.2.2.2.2.2.2.2.2.2.2.2.2.2.2.2.1, .inl (uZ.2.2.2.2.2.2.2.2.2.2.2.2.2.2.2.2.2.2.2.2.2.2.2.2.2.2.2.2.2.2.2.2.2.2.2.2.2.2.2.2.2.2.2.2.2.2.2.2.2.2.2.2.2.2.2.2.1, 101, .inl (fun _ => 0))), (uZ.2.2.2.2.2.2.2.2.2.2.2.2.1, .inr (5, [.ref uZ.2.2.2.2.2.2.2.2.2.2.2.2.2.2.2.2.2.2.2.2.2.2.2.2.2.2.2.2.2.2.2.2.2.2.2.2.2.2.2.2.1, .ref uZ.2.2.2.2.2.2.2.2.2.2.2.2.2.2.2.2.2.2.2.2.2.2.2.2.2.2.2.2.2.2.2.2.2.2.2.2.2.2.2.2.2.1, .ref uZ.2.2.2.2.2.2.2.2.2.2.2.2.2.2.2.2.2.2.2.2.2.2.2.2.2.2.2.2.2.2.2.2.2.2.2.2.2.2.2.2.2.2.1, .int 1, .int 1])), (uZ.2.2.2.2.2.2.2.2.2.2.2.2.2.2.2.2.2.2.2.2.2.2.2.2.2.2.2.2.2.2.2.2.2.2.2.2.2.2.2.2.1, .inl (uZ.2.2.2.2.2.2.2.2.2.2.2.2.2.2.2.2.2.2.2.2.2.2.2.2.2.2.2.2.2.2.2.2.2.2.2.2.2.2.2.2.2.2.2.2.2.2.2.2.2.2.2.2.2.2.2.2.2.1, 6, .inl (fun _ => 0))), (uZ.2.2.2.2.2.2.2.2.2.2.2.2.2.2.2.2.2.2.2.2.2.2.2.2.2.2.2.2.2.2.2.2.2.2.2.2.2.2.2.2.2.1, .inl (uZ.2.2.2.2.2.2.2.2.2.2.2.2.2.2.2.2.2.2.2.2.2.2.2.2.2.2.2.2.2.2.2.2.2.2.2.2.2.2.2.2.2.2.2.2.2.2.2.2.2.2.2.2.2.2.2.2.2.2.1, 6, .inl (fun _ => 0))), (uZ.2.2.2.2.2.2.2.2.2.2.2.2.2.2.2.2.2.2.2.2.2.2.2.2.2.2.2.2.2.2.2.2.2.2.2.2.2.2.2.2.2.2.1, .inl (uZ.2.2.2.2.2.2.2.2.2.2.2.2.2.2.2.2.2.2.2.2.2.2.2.2.2.2.2.2.2.2.2.2.2.2.2.2.2.2.2.2.2.2.2.2.2.2.2.2.2.2.2.2.2.2.2.2.2.2.2.1, 6, .inl (fun _ => 0)))] [(uZ.2.2.2.2.2.2.2.2.2.2.2.2.2.2.2.2.2.2.2.2.2.2.2.2.2.2.2.2.2.2.2.2.2.2.2.2.2.2.2.2.2.2.2.1, .int), (uZ.2.2.2.2.2.2.2.2.2.2.2.2.2.2.2.2.2.2.2.2.2.2.2.2.2.2.2.2.2.2.2.2.2.2.2.2.2.2.2.2.2.2.2.2.1, .int), (uZ.2.2.2.2.2.2.2.2.2.2.2.2.2.2.2.2.2.2.2.2.2.2.2.2.2.2.2.2.2.2.2.2.2.2.2.2.2.2.2.2.2.2.2.2.2.1, .int), (uZ.2.2.2.2.2.2.2.2.2.2.2.2.2.2.2.2.2.2.2.2.2.2.2.2.2.2.2.2.2.2.2.2.2.2.2.2.2.2.2.2.2.2.2.2.2.2.1, .int), (uZ.2.2.2.2.2.2.2.2.2.2.2.2.2.2.2.2.2.2.2.2.2.2.2.2.2.2.2.2.2.2.2.2.2.2.2.2.2.2.2.2.2.2.2.2.2.2.2.1, .int), (uZ.2.2.2.2.2.2.2.2.2.2.2.2.2.2.2.2.2.2.2.2.2.2.2.2.2.2.2.2.2.2.2.2.2.2.2.2.2.2.2.2.2.2.2.2.2.2.2.2.1, .int), (uZ.2.2.2.2.2.2.2.2.2.2.2.2.2.2.2.2.2.2.2.2.2.2.2.2.2.2.2.2.2.2.2.2.2.2.2.2.2.2.2.2.2.2.2.2.2.2.2.2.2.1, .int), (uZ.2.2.2.2.2.2.2.2.2.2.2.2.2.2.2.2.2.2.2.2.2.2.2.2.2.2.2.2.2.2.2.2.2.2.2.2.2.2.2.2.2.2.2.2.2.2.2.2.2.2.1, .int), (uZ.2.2.2.2.2.2.2.2.2.2.2.2.2.2.2.2.2.2.2.2.2.2.2.2.2.2.2.2.2.2.2.2.2.2.2.2.2.2.2.2.2.2.2.2.2.2.2.2.2.2.2.1, .int), (uZ.2.2.2.2.2.2.2.2.2.2.2.2.2.2.2.2.2.2.2.2.2.2.2.2.2.2.2.2.2.2.2.2.2.2.2.2.2.2.2.2.2.2.2.2.2.2.2.2.2.2.2.2.1, .int), (uZ.2.2.2.2.2.2.2.2.2.2.2.2.2.2.2.2.2.2.2.2.2.2.2.2.2.2.2.2.2.2.2.2.2.2.2.2.2.2.2.2.2.2.2.2.2.2.2.2.2.2.2.2.2.1, .long), (uZ.2.2.2.2.2.2.2.2.2.2.2.2.2.2.2.2.2.2.2.2.2.2.2.2.2.2.2.2.2.2.2.2.2.2.2.2.2.2.2.2.2.2.2.2.2.2.2.2.2.2.2.2.2.2.1, .int), (uZ.2.2.2.2.2.2.2.2.2.2.2.2.2.2.2.2.2.2.2.2.2.2.2.2.2.2.2.2.2.2.2.2.2.2.2.2.2.2.2.2.2.2.2.2.2.2.2.2.2.2.2.2.2.2.2.1, .int), (uZ.2.2.2.2.2.2.2.2.2.2.2.2.2.2.2.2.2.2.2.2.2.2.2.2.2.2.2.2.2.2.2.2.2.2.2.2.2.2.2.2.2.2.2.2.2.2.2.2.2.2.2.2.2.2.2.2.1, .int), (uZ.2.2.2.2.2.2.2.2.2.2.2.2.2.2.2.2.2.2.2.2.2.2.2.2.2.2.2.2.2.2.2.2.2.2.2.2.2.2.2.2.2.2.2.2.2.2.2.2.2.2.2.2.2.2.2.2.2.1, .int), (uZ.2.2.2.2.2.2.2.2.2.2.2.2.2.2.2.2.2.2.2.2.2.2.2.2.2.2.2.2.2.2.2.2.2.2.2.2.2.2.2.2.2.2.2.2.2.2.2.2.2.2.2.2.2.2.2.2.2.2.1, .int), (uZ.2.2.2.2.2.2.2.2.2.2.2.2.2.2.2.2.2.2.2.2.2.2.2.2.2.2.2.2.2.2.2.2.2.2.2.2.2.2.2.2.2.2.2.2.2.2.2.2.2.2.2.2.2.2.2.2.2.2.2.1, .int)] tZ) A
set_option maxHeartbeats 4000000 in
set_option maxRecDepth 100000 in
theorem ct_X11_init (l : Launch) (D : va_G) (x : Nat) (sz : Nat)  : Met l yX11_init wd_X11_init ({ frames := 2, cells := 71, slots := 48586, locals := 43 }) (va_Pc [.ref x] (kc_pre D [] [(x, .inr (11, [.null, .null, .null, .null, .null, .null, .null, .null, .null, .null, .null, .null, .null, .null, .null, .int 0, .int 0]))] sz)) (qc_X11_init D x (va_A [(x, .inr (11, [.null, .null, .null, .null, .null, .null, .null, .null, .null, .null, .null, .null, .null, .null, .null, .int 0, .int 0]))] sz)) 71 48586 (va_A [(x, .inr (11, [.null, .null, .null, .null, .null, .null, .null, .null, .null, .null, .null, .null, .null, .null, .null, .int 0, .int 0]))] sz) := by
  refine Met.ofW (cc := cX11_init) (maxL := 1) (ret := none) (by decide) rfl ?_
  intro p e s m args below meth c s₁ B hml hv
  obtain ⟨rfl, hsz, hP, hK, hN, hD0⟩ := hv
  have hx := B.exec
  have hb := B.bytes
  have hr := B.returns
  have hts := atoms_spec (ws := wd_X11_init) B.pre
  have hown : s.vm.findClass RX11 = some m.cls := findClass_of_methodNamed B.named
  have hlocks := B.notSynchronized
  have hin : meth.name = "<init>" := (name_of_methodNamed B.named B.method).1
  subst hsz
  have hD := hD0.self (sz := s.heap.size)
  generalize hAe : va_A [(x, .inr (11, [.null, .null, .null, .null, .null, .null, .null, .null, .null, .null, .null, .null, .null, .null, .null, .int 0, .int 0]))] s.heap.size = A at hD ⊢
  have hA : ∀ q : Nat, s.heap.size ≤ q → A q := fun q h => by rw [← hAe]; exact Or.inr h
  have hS : va_S A s.heap s.heap [] := va_S.rf
  have hiX0 : ∀ w ∈ wsX00, w ∈ wd_X11_init := mb_X11_init_11
  have hiX1 : ∀ w ∈ wsX10, w ∈ wd_X11_init := mb_X11_init_12
  have hiX10 : ∀ w ∈ wsX100, w ∈ wd_X11_init := mb_X11_init_13
  have hiX11 : ∀ w ∈ wsX110, w ∈ wd_X11_init := mb_X11_init_14
  have hiX2 : ∀ w ∈ wsX20, w ∈ wd_X11_init := mb_X11_init_15
  have hiX3 : ∀ w ∈ wsX30, w ∈ wd_X11_init := mb_X11_init_16
  have hiX4 : ∀ w ∈ wsX40, w ∈ wd_X11_init := mb_X11_init_17
  have hiX5 : ∀ w ∈ wsX50, w ∈ wd_X11_init := mb_X11_init_18
  have hiX6 : ∀ w ∈ wsX60, w ∈ wd_X11_init := mb_X11_init_19
  have hiX7 : ∀ w ∈ wsX70, w ∈ wd_X11_init := mb_X11_init_20
  have hiX8 : ∀ w ∈ wsX80, w ∈ wd_X11_init := mb_X11_init_21
  have hiX9 : ∀ w ∈ wsX90, w ∈ wd_X11_init := mb_X11_init_22
  have hl := lv_entry ([.ref x]) (n := 1) (Nat.le_of_ble_eq_true rfl)
  rw [lg_entry_eq]
  generalize (lg_sl ([.ref x]) ++ List.replicate (1 - (lg_sl ([.ref x])).length) Slot.unset).toArray = ls at hl ⊢
  have hl : lv_has ls 1 [(0, .ref x)] := hl
  refine lv_aload_n hx hb dX11_init_0 rfl (lv_at hl 0 rfl) ?_
  refine W.objInit hx hb hown (hts (.methodLink RX11 3 objectInit) (mo_X11_init 0 rfl)) (hts (.instanceMethod objectInit) (mo_X11_init 1 rfl)) (hts (.code objectInit ⟨#[0xb1]⟩ 1 none) (mo_X11_init 2 rfl)) rfl (by rw [hml]; exact hl.1) rfl dX11_init_1 (Nat.le_of_ble_eq_true rfl) (Nat.le_of_ble_eq_true rfl) ?_
  refine W.eq (g2 := F0 m 4 ls []) rfl ?_
  refine lv_aload_n hx hb dX11_init_4 rfl (lv_at hl 0 rfl) ?_
  refine va_new (ci := 3) (fs := [.null, .null, .int 0]) (C := RX3) (T := TX3) (N := 3) hx hb hts hiX3 tyX3 tyX3_ok hown (hts (.classLink RX11 9 RX3) (mo_X11_init 3 rfl)) (hts (.instantiable RX3 3) (mo_X11_init 4 rfl)) (hts (.initialized RX3) (mo_X11_init 5 rfl)) hK hP hD hS hA rfl (fun j hj => by rcases (show j = 0 ∨ j = 1 ∨ j = 2 by omega) with rfl | rfl | rfl <;> rfl) (Nat.le_of_ble_eq_true rfl) (Nat.le_of_ble_eq_true rfl) dX11_init_5 (fun q_1 H hP hD hS => ?_)
  have hP : va_P D vwCl [(x, .inr (11, [.null, .null, .null, .null, .null, .null, .null, .null, .null, .null, .null, .null, .null, .null, .null, .int 0, .int 0])), (q_1, .inr (3, [.null, .null, .int 0]))] H := hP
  have hD : va_D A [(x, .inr (11, [.null, .null, .null, .null, .null, .null, .null, .null, .null, .null, .null, .null, .null, .null, .null, .int 0, .int 0])), (q_1, .inr (3, [.null, .null, .int 0]))] := hD
  refine W.widen (k := 1) (n := 3) (by decide) (Nat.le_of_ble_eq_true rfl) ?_
  refine lv_dup hx hb dX11_init_8 rfl ?_
  refine kc_Iv (As := []) (rest := [.ref q_1, .ref x]) (wr := [(x, .inr (11, [.null, .null, .null, .null, .null, .null, .null, .null, .null, .null, .null, .null, .null, .null, .null, .int 0, .int 0]))]) ⟨hx, hb, hml, hown, hts⟩ (ct_X3_init l D q_1 _ ) (cwI 0 hts (goodIn_sub mb_X11_init_0 gw_X3_init) rfl rfl rfl (hts (.initialized RX3) (mo_X11_init 5 rfl)) (hts (.methodLink RX11 11 yX3_init) (mo_X11_init 6 rfl)) (hts (.instanceMethod yX3_init) (mo_X11_init 7 rfl)) rfl hd_X3_init ⟨Nat.le_of_ble_eq_true rfl, Nat.le_of_ble_eq_true rfl⟩) hK hN hP hD hS hA [1] [0] [] rfl rfl (by decide) (by decide) (by decide) rfl rfl hl.1 rfl (Nat.le_of_ble_eq_true rfl) dX11_init_9 ⟨Nat.le_of_ble_eq_true rfl, Nat.le_of_ble_eq_true rfl⟩ (fun u_3 H locs w_4 hP hD hK1 hS => ?_)
  obtain ⟨o_5, o_6, o_7, o_8⟩ := u_3
  have hK : va_K D vwCl [(o_7, .int), (o_8, .int)] s := hK.app hK1
  have hP : va_P D vwCl [(x, .inr (11, [.null, .null, .null, .null, .null, .null, .null, .null, .null, .null, .null, .null, .null, .null, .null, .int 0, .int 0])), (q_1, .inr (3, [.ref o_5, .ref o_6, .int 1])), (o_5, .inl (o_7, 4, .inl (fun _ => 0))), (o_6, .inl (o_8, 18, .inl (fun _ => 0)))] H := hP
  have hD : va_D A [(x, .inr (11, [.null, .null, .null, .null, .null, .null, .null, .null, .null, .null, .null, .null, .null, .null, .null, .int 0, .int 0])), (q_1, .inr (3, [.ref o_5, .ref o_6, .int 1])), (o_5, .inl (o_7, 4, .inl (fun _ => 0))), (o_6, .inl (o_8, 18, .inl (fun _ => 0)))] := hD
  refine W.widen (k := 3) (n := 25) (by decide) (Nat.le_of_ble_eq_true rfl) ?_
  refine va_putF (D := D) (ci := 11) (v := .ref q_1) (ty := .object "DynamicLogicProver$Model") (C := RX11) (T := TX11) (N := 17) hx hb hts hiX11 tyX11 tyX11_ok nmX11 hown hK hP hD hS 0 rfl rfl 0 (by decide) (hts (.fieldLink RX11 12 "DynamicLogicProver" "model" "LDynamicLogicProver$Model;") (mo_X11_init 8 rfl)) (fun _ h9 => h9) rfl hin rfl (tyX11_ok 0 (by decide)) rfl rfl (Nat.le_of_ble_eq_true rfl) dX11_init_12 (fun H locs hP hD hS => ?_)
  have hP : va_P D vwCl [(x, .inr (11, [.ref q_1, .null, .null, .null, .null, .null, .null, .null, .null, .null, .null, .null, .null, .null, .null, .int 0, .int 0])), (q_1, .inr (3, [.ref o_5, .ref o_6, .int 1])), (o_5, .inl (o_7, 4, .inl (fun _ => 0))), (o_6, .inl (o_8, 18, .inl (fun _ => 0)))] H := hP
  have hD : va_D A [(x, .inr (11, [.ref q_1, .null, .null, .null, .null, .null, .null, .null, .null, .null, .null, .null, .null, .null, .null, .int 0, .int 0])), (q_1, .inr (3, [.ref o_5, .ref o_6, .int 1])), (o_5, .inl (o_7, 4, .inl (fun _ => 0))), (o_6, .inl (o_8, 18, .inl (fun _ => 0)))] := hD
  refine lv_aload_n hx hb dX11_init_15 rfl (lv_at hl 0 rfl) ?_
  refine va_new (ci := 3) (fs := [.null, .null, .int 0]) (C := RX3) (T := TX3) (N := 3) hx hb hts hiX3 tyX3 tyX3_ok hown (hts (.classLink RX11 9 RX3) (mo_X11_init 3 rfl)) (hts (.instantiable RX3 3) (mo_X11_init 4 rfl)) (hts (.initialized RX3) (mo_X11_init 5 rfl)) hK hP hD hS hA rfl (fun j hj => by rcases (show j = 0 ∨ j = 1 ∨ j = 2 by omega) with rfl | rfl | rfl <;> rfl) (Nat.le_of_ble_eq_true rfl) (Nat.le_of_ble_eq_true rfl) dX11_init_16 (fun q_9 H hP hD hS => ?_)
  have hP : va_P D vwCl [(x, .inr (11, [.ref q_1, .null, .null, .null, .null, .null, .null, .null, .null, .null, .null, .null, .null, .null, .null, .int 0, .int 0])), (q_1, .inr (3, [.ref o_5, .ref o_6, .int 1])), (o_5, .inl (o_7, 4, .inl (fun _ => 0))), (o_6, .inl (o_8, 18, .inl (fun _ => 0))), (q_9, .inr (3, [.null, .null, .int 0]))] H := hP
  have hD : va_D A [(x, .inr (11, [.ref q_1, .null, .null, .null, .null, .null, .null, .null, .null, .null, .null, .null, .null, .null, .null, .int 0, .int 0])), (q_1, .inr (3, [.ref o_5, .ref o_6, .int 1])), (o_5, .inl (o_7, 4, .inl (fun _ => 0))), (o_6, .inl (o_8, 18, .inl (fun _ => 0))), (q_9, .inr (3, [.null, .null, .int 0]))] := hD
  refine W.widen (k := 4) (n := 28) (by decide) (Nat.le_of_ble_eq_true rfl) ?_
  refine lv_dup hx hb dX11_init_19 rfl ?_
  refine kc_Iv (As := []) (rest := [.ref q_9, .ref x]) (wr := [(x, .inr (11, [.ref q_1, .null, .null, .null, .null, .null, .null, .null, .null, .null, .null, .null, .null, .null, .null, .int 0, .int 0])), (q_1, .inr (3, [.ref o_5, .ref o_6, .int 1])), (o_5, .inl (o_7, 4, .inl (fun _ => 0))), (o_6, .inl (o_8, 18, .inl (fun _ => 0)))]) ⟨hx, hb, hml, hown, hts⟩ (ct_X3_init l D q_9 _ ) (cwI 0 hts (goodIn_sub mb_X11_init_0 gw_X3_init) rfl rfl rfl (hts (.initialized RX3) (mo_X11_init 5 rfl)) (hts (.methodLink RX11 11 yX3_init) (mo_X11_init 6 rfl)) (hts (.instanceMethod yX3_init) (mo_X11_init 7 rfl)) rfl hd_X3_init ⟨Nat.le_of_ble_eq_true rfl, Nat.le_of_ble_eq_true rfl⟩) hK hN hP hD hS hA [4] [0, 1, 2, 3] [] rfl rfl (by decide) (by decide) (by decide) rfl rfl hl.1 rfl (Nat.le_of_ble_eq_true rfl) dX11_init_20 ⟨Nat.le_of_ble_eq_true rfl, Nat.le_of_ble_eq_true rfl⟩ (fun u_11 H locs w_12 hP hD hK1 hS => ?_)
  obtain ⟨o_13, o_14, o_15, o_16⟩ := u_11
  have hK : va_K D vwCl [(o_7, .int), (o_8, .int), (o_15, .int), (o_16, .int)] s := hK.app hK1
  have hP : va_P D vwCl [(x, .inr (11, [.ref q_1, .null, .null, .null, .null, .null, .null, .null, .null, .null, .null, .null, .null, .null, .null, .int 0, .int 0])), (q_1, .inr (3, [.ref o_5, .ref o_6, .int 1])), (o_5, .inl (o_7, 4, .inl (fun _ => 0))), (o_6, .inl (o_8, 18, .inl (fun _ => 0))), (q_9, .inr (3, [.ref o_13, .ref o_14, .int 1])), (o_13, .inl (o_15, 4, .inl (fun _ => 0))), (o_14, .inl (o_16, 18, .inl (fun _ => 0)))] H := hP
  have hD : va_D A [(x, .inr (11, [.ref q_1, .null, .null, .null, .null, .null, .null, .null, .null, .null, .null, .null, .null, .null, .null, .int 0, .int 0])), (q_1, .inr (3, [.ref o_5, .ref o_6, .int 1])), (o_5, .inl (o_7, 4, .inl (fun _ => 0))), (o_6, .inl (o_8, 18, .inl (fun _ => 0))), (q_9, .inr (3, [.ref o_13, .ref o_14, .int 1])), (o_13, .inl (o_15, 4, .inl (fun _ => 0))), (o_14, .inl (o_16, 18, .inl (fun _ => 0)))] := hD
  refine W.widen (k := 6) (n := 50) (by decide) (Nat.le_of_ble_eq_true rfl) ?_
  refine va_putF (D := D) (ci := 11) (v := .ref q_9) (ty := .object "DynamicLogicProver$Model") (C := RX11) (T := TX11) (N := 17) hx hb hts hiX11 tyX11 tyX11_ok nmX11 hown hK hP hD hS 0 rfl rfl 1 (by decide) (hts (.fieldLink RX11 18 "DynamicLogicProver" "savedModel" "LDynamicLogicProver$Model;") (mo_X11_init 9 rfl)) (fun _ h9 => h9) rfl hin rfl (tyX11_ok 1 (by decide)) rfl rfl (Nat.le_of_ble_eq_true rfl) dX11_init_23 (fun H locs hP hD hS => ?_)
  have hP : va_P D vwCl [(x, .inr (11, [.ref q_1, .ref q_9, .null, .null, .null, .null, .null, .null, .null, .null, .null, .null, .null, .null, .null, .int 0, .int 0])), (q_1, .inr (3, [.ref o_5, .ref o_6, .int 1])), (o_5, .inl (o_7, 4, .inl (fun _ => 0))), (o_6, .inl (o_8, 18, .inl (fun _ => 0))), (q_9, .inr (3, [.ref o_13, .ref o_14, .int 1])), (o_13, .inl (o_15, 4, .inl (fun _ => 0))), (o_14, .inl (o_16, 18, .inl (fun _ => 0)))] H := hP
  have hD : va_D A [(x, .inr (11, [.ref q_1, .ref q_9, .null, .null, .null, .null, .null, .null, .null, .null, .null, .null, .null, .null, .null, .int 0, .int 0])), (q_1, .inr (3, [.ref o_5, .ref o_6, .int 1])), (o_5, .inl (o_7, 4, .inl (fun _ => 0))), (o_6, .inl (o_8, 18, .inl (fun _ => 0))), (q_9, .inr (3, [.ref o_13, .ref o_14, .int 1])), (o_13, .inl (o_15, 4, .inl (fun _ => 0))), (o_14, .inl (o_16, 18, .inl (fun _ => 0)))] := hD
  refine lv_aload_n hx hb dX11_init_26 rfl (lv_at hl 0 rfl) ?_
  refine va_new (ci := 3) (fs := [.null, .null, .int 0]) (C := RX3) (T := TX3) (N := 3) hx hb hts hiX3 tyX3 tyX3_ok hown (hts (.classLink RX11 9 RX3) (mo_X11_init 3 rfl)) (hts (.instantiable RX3 3) (mo_X11_init 4 rfl)) (hts (.initialized RX3) (mo_X11_init 5 rfl)) hK hP hD hS hA rfl (fun j hj => by rcases (show j = 0 ∨ j = 1 ∨ j = 2 by omega) with rfl | rfl | rfl <;> rfl) (Nat.le_of_ble_eq_true rfl) (Nat.le_of_ble_eq_true rfl) dX11_init_27 (fun q_17 H hP hD hS => ?_)
  have hP : va_P D vwCl [(x, .inr (11, [.ref q_1, .ref q_9, .null, .null, .null, .null, .null, .null, .null, .null, .null, .null, .null, .null, .null, .int 0, .int 0])), (q_1, .inr (3, [.ref o_5, .ref o_6, .int 1])), (o_5, .inl (o_7, 4, .inl (fun _ => 0))), (o_6, .inl (o_8, 18, .inl (fun _ => 0))), (q_9, .inr (3, [.ref o_13, .ref o_14, .int 1])), (o_13, .inl (o_15, 4, .inl (fun _ => 0))), (o_14, .inl (o_16, 18, .inl (fun _ => 0))), (q_17, .inr (3, [.null, .null, .int 0]))] H := hP
  have hD : va_D A [(x, .inr (11, [.ref q_1, .ref q_9, .null, .null, .null, .null, .null, .null, .null, .null, .null, .null, .null, .null, .null, .int 0, .int 0])), (q_1, .inr (3, [.ref o_5, .ref o_6, .int 1])), (o_5, .inl (o_7, 4, .inl (fun _ => 0))), (o_6, .inl (o_8, 18, .inl (fun _ => 0))), (q_9, .inr (3, [.ref o_13, .ref o_14, .int 1])), (o_13, .inl (o_15, 4, .inl (fun _ => 0))), (o_14, .inl (o_16, 18, .inl (fun _ => 0))), (q_17, .inr (3, [.null, .null, .int 0]))] := hD
  refine W.widen (k := 7) (n := 53) (by decide) (Nat.le_of_ble_eq_true rfl) ?_
  refine lv_dup hx hb dX11_init_30 rfl ?_
  refine kc_Iv (As := []) (rest := [.ref q_17, .ref x]) (wr := [(x, .inr (11, [.ref q_1, .ref q_9, .null, .null, .null, .null, .null, .null, .null, .null, .null, .null, .null, .null, .null, .int 0, .int 0])), (q_1, .inr (3, [.ref o_5, .ref o_6, .int 1])), (o_5, .inl (o_7, 4, .inl (fun _ => 0))), (o_6, .inl (o_8, 18, .inl (fun _ => 0))), (q_9, .inr (3, [.ref o_13, .ref o_14, .int 1])), (o_13, .inl (o_15, 4, .inl (fun _ => 0))), (o_14, .inl (o_16, 18, .inl (fun _ => 0)))]) ⟨hx, hb, hml, hown, hts⟩ (ct_X3_init l D q_17 _ ) (cwI 0 hts (goodIn_sub mb_X11_init_0 gw_X3_init) rfl rfl rfl (hts (.initialized RX3) (mo_X11_init 5 rfl)) (hts (.methodLink RX11 11 yX3_init) (mo_X11_init 6 rfl)) (hts (.instanceMethod yX3_init) (mo_X11_init 7 rfl)) rfl hd_X3_init ⟨Nat.le_of_ble_eq_true rfl, Nat.le_of_ble_eq_true rfl⟩) hK hN hP hD hS hA [7] [0, 1, 2, 3, 4, 5, 6] [] rfl rfl (by decide) (by decide) (by decide) rfl rfl hl.1 rfl (Nat.le_of_ble_eq_true rfl) dX11_init_31 ⟨Nat.le_of_ble_eq_true rfl, Nat.le_of_ble_eq_true rfl⟩ (fun u_19 H locs w_20 hP hD hK1 hS => ?_)
  obtain ⟨o_21, o_22, o_23, o_24⟩ := u_19
  have hK : va_K D vwCl [(o_7, .int), (o_8, .int), (o_15, .int), (o_16, .int), (o_23, .int), (o_24, .int)] s := hK.app hK1
  have hP : va_P D vwCl [(x, .inr (11, [.ref q_1, .ref q_9, .null, .null, .null, .null, .null, .null, .null, .null, .null, .null, .null, .null, .null, .int 0, .int 0])), (q_1, .inr (3, [.ref o_5, .ref o_6, .int 1])), (o_5, .inl (o_7, 4, .inl (fun _ => 0))), (o_6, .inl (o_8, 18, .inl (fun _ => 0))), (q_9, .inr (3, [.ref o_13, .ref o_14, .int 1])), (o_13, .inl (o_15, 4, .inl (fun _ => 0))), (o_14, .inl (o_16, 18, .inl (fun _ => 0))), (q_17, .inr (3, [.ref o_21, .ref o_22, .int 1])), (o_21, .inl (o_23, 4, .inl (fun _ => 0))), (o_22, .inl (o_24, 18, .inl (fun _ => 0)))] H := hP
  have hD : va_D A [(x, .inr (11, [.ref q_1, .ref q_9, .null, .null, .null, .null, .null, .null, .null, .null, .null, .null, .null, .null, .null, .int 0, .int 0])), (q_1, .inr (3, [.ref o_5, .ref o_6, .int 1])), (o_5, .inl (o_7, 4, .inl (fun _ => 0))), (o_6, .inl (o_8, 18, .inl (fun _ => 0))), (q_9, .inr (3, [.ref o_13, .ref o_14, .int 1])), (o_13, .inl (o_15, 4, .inl (fun _ => 0))), (o_14, .inl (o_16, 18, .inl (fun _ => 0))), (q_17, .inr (3, [.ref o_21, .ref o_22, .int 1])), (o_21, .inl (o_23, 4, .inl (fun _ => 0))), (o_22, .inl (o_24, 18, .inl (fun _ => 0)))] := hD
  refine W.widen (k := 9) (n := 75) (by decide) (Nat.le_of_ble_eq_true rfl) ?_
  refine va_putF (D := D) (ci := 11) (v := .ref q_17) (ty := .object "DynamicLogicProver$Model") (C := RX11) (T := TX11) (N := 17) hx hb hts hiX11 tyX11 tyX11_ok nmX11 hown hK hP hD hS 0 rfl rfl 2 (by decide) (hts (.fieldLink RX11 21 "DynamicLogicProver" "scratch" "LDynamicLogicProver$Model;") (mo_X11_init 10 rfl)) (fun _ h9 => h9) rfl hin rfl (tyX11_ok 2 (by decide)) rfl rfl (Nat.le_of_ble_eq_true rfl) dX11_init_34 (fun H locs hP hD hS => ?_)
  have hP : va_P D vwCl [(x, .inr (11, [.ref q_1, .ref q_9, .ref q_17, .null, .null, .null, .null, .null, .null, .null, .null, .null, .null, .null, .null, .int 0, .int 0])), (q_1, .inr (3, [.ref o_5, .ref o_6, .int 1])), (o_5, .inl (o_7, 4, .inl (fun _ => 0))), (o_6, .inl (o_8, 18, .inl (fun _ => 0))), (q_9, .inr (3, [.ref o_13, .ref o_14, .int 1])), (o_13, .inl (o_15, 4, .inl (fun _ => 0))), (o_14, .inl (o_16, 18, .inl (fun _ => 0))), (q_17, .inr (3, [.ref o_21, .ref o_22, .int 1])), (o_21, .inl (o_23, 4, .inl (fun _ => 0))), (o_22, .inl (o_24, 18, .inl (fun _ => 0)))] H := hP
  have hD : va_D A [(x, .inr (11, [.ref q_1, .ref q_9, .ref q_17, .null, .null, .null, .null, .null, .null, .null, .null, .null, .null, .null, .null, .int 0, .int 0])), (q_1, .inr (3, [.ref o_5, .ref o_6, .int 1])), (o_5, .inl (o_7, 4, .inl (fun _ => 0))), (o_6, .inl (o_8, 18, .inl (fun _ => 0))), (q_9, .inr (3, [.ref o_13, .ref o_14, .int 1])), (o_13, .inl (o_15, 4, .inl (fun _ => 0))), (o_14, .inl (o_16, 18, .inl (fun _ => 0))), (q_17, .inr (3, [.ref o_21, .ref o_22, .int 1])), (o_21, .inl (o_23, 4, .inl (fun _ => 0))), (o_22, .inl (o_24, 18, .inl (fun _ => 0)))] := hD
  refine lv_aload_n hx hb dX11_init_37 rfl (lv_at hl 0 rfl) ?_
  refine va_new (ci := 9) (fs := [.null, .null, .null, .int 0]) (C := RX9) (T := TX9) (N := 4) hx hb hts hiX9 tyX9 tyX9_ok hown (hts (.classLink RX11 24 RX9) (mo_X11_init 11 rfl)) (hts (.instantiable RX9 4) (mo_X11_init 12 rfl)) (hts (.initialized RX9) (mo_X11_init 13 rfl)) hK hP hD hS hA rfl (fun j hj => by rcases (show j = 0 ∨ j = 1 ∨ j = 2 ∨ j = 3 by omega) with rfl | rfl | rfl | rfl <;> rfl) (Nat.le_of_ble_eq_true rfl) (Nat.le_of_ble_eq_true rfl) dX11_init_38 (fun q_25 H hP hD hS => ?_)
  have hP : va_P D vwCl [(x, .inr (11, [.ref q_1, .ref q_9, .ref q_17, .null, .null, .null, .null, .null, .null, .null, .null, .null, .null, .null, .null, .int 0, .int 0])), (q_1, .inr (3, [.ref o_5, .ref o_6, .int 1])), (o_5, .inl (o_7, 4, .inl (fun _ => 0))), (o_6, .inl (o_8, 18, .inl (fun _ => 0))), (q_9, .inr (3, [.ref o_13, .ref o_14, .int 1])), (o_13, .inl (o_15, 4, .inl (fun _ => 0))), (o_14, .inl (o_16, 18, .inl (fun _ => 0))), (q_17, .inr (3, [.ref o_21, .ref o_22, .int 1])), (o_21, .inl (o_23, 4, .inl (fun _ => 0))), (o_22, .inl (o_24, 18, .inl (fun _ => 0))), (q_25, .inr (9, [.null, .null, .null, .int 0]))] H := hP
  have hD : va_D A [(x, .inr (11, [.ref q_1, .ref q_9, .ref q_17, .null, .null, .null, .null, .null, .null, .null, .null, .null, .null, .null, .null, .int 0, .int 0])), (q_1, .inr (3, [.ref o_5, .ref o_6, .int 1])), (o_5, .inl (o_7, 4, .inl (fun _ => 0))), (o_6, .inl (o_8, 18, .inl (fun _ => 0))), (q_9, .inr (3, [.ref o_13, .ref o_14, .int 1])), (o_13, .inl (o_15, 4, .inl (fun _ => 0))), (o_14, .inl (o_16, 18, .inl (fun _ => 0))), (q_17, .inr (3, [.ref o_21, .ref o_22, .int 1])), (o_21, .inl (o_23, 4, .inl (fun _ => 0))), (o_22, .inl (o_24, 18, .inl (fun _ => 0))), (q_25, .inr (9, [.null, .null, .null, .int 0]))] := hD
  refine W.widen (k := 10) (n := 79) (by decide) (Nat.le_of_ble_eq_true rfl) ?_
  refine lv_dup hx hb dX11_init_41 rfl ?_
  refine kc_Iv (As := []) (rest := [.ref q_25, .ref x]) (wr := [(x, .inr (11, [.ref q_1, .ref q_9, .ref q_17, .null, .null, .null, .null, .null, .null, .null, .null, .null, .null, .null, .null, .int 0, .int 0])), (q_1, .inr (3, [.ref o_5, .ref o_6, .int 1])), (o_5, .inl (o_7, 4, .inl (fun _ => 0))), (o_6, .inl (o_8, 18, .inl (fun _ => 0))), (q_9, .inr (3, [.ref o_13, .ref o_14, .int 1])), (o_13, .inl (o_15, 4, .inl (fun _ => 0))), (o_14, .inl (o_16, 18, .inl (fun _ => 0))), (q_17, .inr (3, [.ref o_21, .ref o_22, .int 1])), (o_21, .inl (o_23, 4, .inl (fun _ => 0))), (o_22, .inl (o_24, 18, .inl (fun _ => 0)))]) ⟨hx, hb, hml, hown, hts⟩ (ct_X9_init l D q_25 _ ) (cwI 0 hts (goodIn_sub mb_X11_init_1 gw_X9_init) rfl rfl rfl (hts (.initialized RX9) (mo_X11_init 13 rfl)) (hts (.methodLink RX11 26 yX9_init) (mo_X11_init 14 rfl)) (hts (.instanceMethod yX9_init) (mo_X11_init 15 rfl)) rfl hd_X9_init ⟨Nat.le_of_ble_eq_true rfl, Nat.le_of_ble_eq_true rfl⟩) hK hN hP hD hS hA [10] [0, 1, 2, 3, 4, 5, 6, 7, 8, 9] [] rfl rfl (by decide) (by decide) (by decide) rfl rfl hl.1 rfl (Nat.le_of_ble_eq_true rfl) dX11_init_42 ⟨Nat.le_of_ble_eq_true rfl, Nat.le_of_ble_eq_true rfl⟩ (fun u_27 H locs w_28 hP hD hK1 hS => ?_)
  obtain ⟨o_29, o_30, o_31, o_32, o_33⟩ := u_27
  have hK : va_K D vwCl [(o_7, .int), (o_8, .int), (o_15, .int), (o_16, .int), (o_23, .int), (o_24, .int), (o_32, .int), (o_33, .int)] s := hK.app hK1
  have hP : va_P D vwCl [(x, .inr (11, [.ref q_1, .ref q_9, .ref q_17, .null, .null, .null, .null, .null, .null, .null, .null, .null, .null, .null, .null, .int 0, .int 0])), (q_1, .inr (3, [.ref o_5, .ref o_6, .int 1])), (o_5, .inl (o_7, 4, .inl (fun _ => 0))), (o_6, .inl (o_8, 18, .inl (fun _ => 0))), (q_9, .inr (3, [.ref o_13, .ref o_14, .int 1])), (o_13, .inl (o_15, 4, .inl (fun _ => 0))), (o_14, .inl (o_16, 18, .inl (fun _ => 0))), (q_17, .inr (3, [.ref o_21, .ref o_22, .int 1])), (o_21, .inl (o_23, 4, .inl (fun _ => 0))), (o_22, .inl (o_24, 18, .inl (fun _ => 0))), (q_25, .inr (9, [.ref o_29, .ref o_30, .ref o_31, .int 0])), (o_29, .inl (o_32, 960, .inl (fun _ => 0))), (o_30, .inl (o_33, 12, .inl (fun _ => 0)))] H := hP
  have hD : va_D A [(x, .inr (11, [.ref q_1, .ref q_9, .ref q_17, .null, .null, .null, .null, .null, .null, .null, .null, .null, .null, .null, .null, .int 0, .int 0])), (q_1, .inr (3, [.ref o_5, .ref o_6, .int 1])), (o_5, .inl (o_7, 4, .inl (fun _ => 0))), (o_6, .inl (o_8, 18, .inl (fun _ => 0))), (q_9, .inr (3, [.ref o_13, .ref o_14, .int 1])), (o_13, .inl (o_15, 4, .inl (fun _ => 0))), (o_14, .inl (o_16, 18, .inl (fun _ => 0))), (q_17, .inr (3, [.ref o_21, .ref o_22, .int 1])), (o_21, .inl (o_23, 4, .inl (fun _ => 0))), (o_22, .inl (o_24, 18, .inl (fun _ => 0))), (q_25, .inr (9, [.ref o_29, .ref o_30, .ref o_31, .int 0])), (o_29, .inl (o_32, 960, .inl (fun _ => 0))), (o_30, .inl (o_33, 12, .inl (fun _ => 0)))] := hD
  refine W.widen (k := 13) (n := 1133) (by decide) (Nat.le_of_ble_eq_true rfl) ?_
  refine va_putF (D := D) (ci := 11) (v := .ref q_25) (ty := .object "DynamicLogicProver$Shelf") (C := RX11) (T := TX11) (N := 17) hx hb hts hiX11 tyX11 tyX11_ok nmX11 hown hK hP hD hS 0 rfl rfl 3 (by decide) (hts (.fieldLink RX11 27 "DynamicLogicProver" "formulas" "LDynamicLogicProver$Shelf;") (mo_X11_init 16 rfl)) (fun _ h9 => h9) rfl hin rfl (tyX11_ok 3 (by decide)) rfl rfl (Nat.le_of_ble_eq_true rfl) dX11_init_45 (fun H locs hP hD hS => ?_)
  have hP : va_P D vwCl [(x, .inr (11, [.ref q_1, .ref q_9, .ref q_17, .ref q_25, .null, .null, .null, .null, .null, .null, .null, .null, .null, .null, .null, .int 0, .int 0])), (q_1, .inr (3, [.ref o_5, .ref o_6, .int 1])), (o_5, .inl (o_7, 4, .inl (fun _ => 0))), (o_6, .inl (o_8, 18, .inl (fun _ => 0))), (q_9, .inr (3, [.ref o_13, .ref o_14, .int 1])), (o_13, .inl (o_15, 4, .inl (fun _ => 0))), (o_14, .inl (o_16, 18, .inl (fun _ => 0))), (q_17, .inr (3, [.ref o_21, .ref o_22, .int 1])), (o_21, .inl (o_23, 4, .inl (fun _ => 0))), (o_22, .inl (o_24, 18, .inl (fun _ => 0))), (q_25, .inr (9, [.ref o_29, .ref o_30, .ref o_31, .int 0])), (o_29, .inl (o_32, 960, .inl (fun _ => 0))), (o_30, .inl (o_33, 12, .inl (fun _ => 0)))] H := hP
  have hD : va_D A [(x, .inr (11, [.ref q_1, .ref q_9, .ref q_17, .ref q_25, .null, .null, .null, .null, .null, .null, .null, .null, .null, .null, .null, .int 0, .int 0])), (q_1, .inr (3, [.ref o_5, .ref o_6, .int 1])), (o_5, .inl (o_7, 4, .inl (fun _ => 0))), (o_6, .inl (o_8, 18, .inl (fun _ => 0))), (q_9, .inr (3, [.ref o_13, .ref o_14, .int 1])), (o_13, .inl (o_15, 4, .inl (fun _ => 0))), (o_14, .inl (o_16, 18, .inl (fun _ => 0))), (q_17, .inr (3, [.ref o_21, .ref o_22, .int 1])), (o_21, .inl (o_23, 4, .inl (fun _ => 0))), (o_22, .inl (o_24, 18, .inl (fun _ => 0))), (q_25, .inr (9, [.ref o_29, .ref o_30, .ref o_31, .int 0])), (o_29, .inl (o_32, 960, .inl (fun _ => 0))), (o_30, .inl (o_33, 12, .inl (fun _ => 0)))] := hD
  refine lv_aload_n hx hb dX11_init_48 rfl (lv_at hl 0 rfl) ?_
  refine va_new (ci := 9) (fs := [.null, .null, .null, .int 0]) (C := RX9) (T := TX9) (N := 4) hx hb hts hiX9 tyX9 tyX9_ok hown (hts (.classLink RX11 24 RX9) (mo_X11_init 11 rfl)) (hts (.instantiable RX9 4) (mo_X11_init 12 rfl)) (hts (.initialized RX9) (mo_X11_init 13 rfl)) hK hP hD hS hA rfl (fun j hj => by rcases (show j = 0 ∨ j = 1 ∨ j = 2 ∨ j = 3 by omega) with rfl | rfl | rfl | rfl <;> rfl) (Nat.le_of_ble_eq_true rfl) (Nat.le_of_ble_eq_true rfl) dX11_init_49 (fun q_34 H hP hD hS => ?_)
  have hP : va_P D vwCl [(x, .inr (11, [.ref q_1, .ref q_9, .ref q_17, .ref q_25, .null, .null, .null, .null, .null, .null, .null, .null, .null, .null, .null, .int 0, .int 0])), (q_1, .inr (3, [.ref o_5, .ref o_6, .int 1])), (o_5, .inl (o_7, 4, .inl (fun _ => 0))), (o_6, .inl (o_8, 18, .inl (fun _ => 0))), (q_9, .inr (3, [.ref o_13, .ref o_14, .int 1])), (o_13, .inl (o_15, 4, .inl (fun _ => 0))), (o_14, .inl (o_16, 18, .inl (fun _ => 0))), (q_17, .inr (3, [.ref o_21, .ref o_22, .int 1])), (o_21, .inl (o_23, 4, .inl (fun _ => 0))), (o_22, .inl (o_24, 18, .inl (fun _ => 0))), (q_25, .inr (9, [.ref o_29, .ref o_30, .ref o_31, .int 0])), (o_29, .inl (o_32, 960, .inl (fun _ => 0))), (o_30, .inl (o_33, 12, .inl (fun _ => 0))), (q_34, .inr (9, [.null, .null, .null, .int 0]))] H := hP
  have hD : va_D A [(x, .inr (11, [.ref q_1, .ref q_9, .ref q_17, .ref q_25, .null, .null, .null, .null, .null, .null, .null, .null, .null, .null, .null, .int 0, .int 0])), (q_1, .inr (3, [.ref o_5, .ref o_6, .int 1])), (o_5, .inl (o_7, 4, .inl (fun _ => 0))), (o_6, .inl (o_8, 18, .inl (fun _ => 0))), (q_9, .inr (3, [.ref o_13, .ref o_14, .int 1])), (o_13, .inl (o_15, 4, .inl (fun _ => 0))), (o_14, .inl (o_16, 18, .inl (fun _ => 0))), (q_17, .inr (3, [.ref o_21, .ref o_22, .int 1])), (o_21, .inl (o_23, 4, .inl (fun _ => 0))), (o_22, .inl (o_24, 18, .inl (fun _ => 0))), (q_25, .inr (9, [.ref o_29, .ref o_30, .ref o_31, .int 0])), (o_29, .inl (o_32, 960, .inl (fun _ => 0))), (o_30, .inl (o_33, 12, .inl (fun _ => 0))), (q_34, .inr (9, [.null, .null, .null, .int 0]))] := hD
  refine W.widen (k := 14) (n := 1137) (by decide) (Nat.le_of_ble_eq_true rfl) ?_
  refine lv_dup hx hb dX11_init_52 rfl ?_
  refine kc_Iv (As := []) (rest := [.ref q_34, .ref x]) (wr := [(x, .inr (11, [.ref q_1, .ref q_9, .ref q_17, .ref q_25, .null, .null, .null, .null, .null, .null, .null, .null, .null, .null, .null, .int 0, .int 0])), (q_1, .inr (3, [.ref o_5, .ref o_6, .int 1])), (o_5, .inl (o_7, 4, .inl (fun _ => 0))), (o_6, .inl (o_8, 18, .inl (fun _ => 0))), (q_9, .inr (3, [.ref o_13, .ref o_14, .int 1])), (o_13, .inl (o_15, 4, .inl (fun _ => 0))), (o_14, .inl (o_16, 18, .inl (fun _ => 0))), (q_17, .inr (3, [.ref o_21, .ref o_22, .int 1])), (o_21, .inl (o_23, 4, .inl (fun _ => 0))), (o_22, .inl (o_24, 18, .inl (fun _ => 0))), (q_25, .inr (9, [.ref o_29, .ref o_30, .ref o_31, .int 0])), (o_29, .inl (o_32, 960, .inl (fun _ => 0))), (o_30, .inl (o_33, 12, .inl (fun _ => 0)))]) ⟨hx, hb, hml, hown, hts⟩ (ct_X9_init l D q_34 _ ) (cwI 0 hts (goodIn_sub mb_X11_init_1 gw_X9_init) rfl rfl rfl (hts (.initialized RX9) (mo_X11_init 13 rfl)) (hts (.methodLink RX11 26 yX9_init) (mo_X11_init 14 rfl)) (hts (.instanceMethod yX9_init) (mo_X11_init 15 rfl)) rfl hd_X9_init ⟨Nat.le_of_ble_eq_true rfl, Nat.le_of_ble_eq_true rfl⟩) hK hN hP hD hS hA [13] [0, 1, 2, 3, 4, 5, 6, 7, 8, 9, 10, 11, 12] [] rfl rfl (by decide) (by decide) (by decide) rfl rfl hl.1 rfl (Nat.le_of_ble_eq_true rfl) dX11_init_53 ⟨Nat.le_of_ble_eq_true rfl, Nat.le_of_ble_eq_true rfl⟩ (fun u_36 H locs w_37 hP hD hK1 hS => ?_)
  obtain ⟨o_38, o_39, o_40, o_41, o_42⟩ := u_36
  have hK : va_K D vwCl [(o_7, .int), (o_8, .int), (o_15, .int), (o_16, .int), (o_23, .int), (o_24, .int), (o_32, .int), (o_33, .int), (o_41, .int), (o_42, .int)] s := hK.app hK1
  have hP : va_P D vwCl [(x, .inr (11, [.ref q_1, .ref q_9, .ref q_17, .ref q_25, .null, .null, .null, .null, .null, .null, .null, .null, .null, .null, .null, .int 0, .int 0])), (q_1, .inr (3, [.ref o_5, .ref o_6, .int 1])), (o_5, .inl (o_7, 4, .inl (fun _ => 0))), (o_6, .inl (o_8, 18, .inl (fun _ => 0))), (q_9, .inr (3, [.ref o_13, .ref o_14, .int 1])), (o_13, .inl (o_15, 4, .inl (fun _ => 0))), (o_14, .inl (o_16, 18, .inl (fun _ => 0))), (q_17, .inr (3, [.ref o_21, .ref o_22, .int 1])), (o_21, .inl (o_23, 4, .inl (fun _ => 0))), (o_22, .inl (o_24, 18, .inl (fun _ => 0))), (q_25, .inr (9, [.ref o_29, .ref o_30, .ref o_31, .int 0])), (o_29, .inl (o_32, 960, .inl (fun _ => 0))), (o_30, .inl (o_33, 12, .inl (fun _ => 0))), (q_34, .inr (9, [.ref o_38, .ref o_39, .ref o_40, .int 0])), (o_38, .inl (o_41, 960, .inl (fun _ => 0))), (o_39, .inl (o_42, 12, .inl (fun _ => 0)))] H := hP
  have hD : va_D A [(x, .inr (11, [.ref q_1, .ref q_9, .ref q_17, .ref q_25, .null, .null, .null, .null, .null, .null, .null, .null, .null, .null, .null, .int 0, .int 0])), (q_1, .inr (3, [.ref o_5, .ref o_6, .int 1])), (o_5, .inl (o_7, 4, .inl (fun _ => 0))), (o_6, .inl (o_8, 18, .inl (fun _ => 0))), (q_9, .inr (3, [.ref o_13, .ref o_14, .int 1])), (o_13, .inl (o_15, 4, .inl (fun _ => 0))), (o_14, .inl (o_16, 18, .inl (fun _ => 0))), (q_17, .inr (3, [.ref o_21, .ref o_22, .int 1])), (o_21, .inl (o_23, 4, .inl (fun _ => 0))), (o_22, .inl (o_24, 18, .inl (fun _ => 0))), (q_25, .inr (9, [.ref o_29, .ref o_30, .ref o_31, .int 0])), (o_29, .inl (o_32, 960, .inl (fun _ => 0))), (o_30, .inl (o_33, 12, .inl (fun _ => 0))), (q_34, .inr (9, [.ref o_38, .ref o_39, .ref o_40, .int 0])), (o_38, .inl (o_41, 960, .inl (fun _ => 0))), (o_39, .inl (o_42, 12, .inl (fun _ => 0)))] := hD
  refine W.widen (k := 17) (n := 2191) (by decide) (Nat.le_of_ble_eq_true rfl) ?_
  refine va_putF (D := D) (ci := 11) (v := .ref q_34) (ty := .object "DynamicLogicProver$Shelf") (C := RX11) (T := TX11) (N := 17) hx hb hts hiX11 tyX11 tyX11_ok nmX11 hown hK hP hD hS 0 rfl rfl 4 (by decide) (hts (.fieldLink RX11 31 "DynamicLogicProver" "savedFormulas" "LDynamicLogicProver$Shelf;") (mo_X11_init 17 rfl)) (fun _ h9 => h9) rfl hin rfl (tyX11_ok 4 (by decide)) rfl rfl (Nat.le_of_ble_eq_true rfl) dX11_init_56 (fun H locs hP hD hS => ?_)
  have hP : va_P D vwCl [(x, .inr (11, [.ref q_1, .ref q_9, .ref q_17, .ref q_25, .ref q_34, .null, .null, .null, .null, .null, .null, .null, .null, .null, .null, .int 0, .int 0])), (q_1, .inr (3, [.ref o_5, .ref o_6, .int 1])), (o_5, .inl (o_7, 4, .inl (fun _ => 0))), (o_6, .inl (o_8, 18, .inl (fun _ => 0))), (q_9, .inr (3, [.ref o_13, .ref o_14, .int 1])), (o_13, .inl (o_15, 4, .inl (fun _ => 0))), (o_14, .inl (o_16, 18, .inl (fun _ => 0))), (q_17, .inr (3, [.ref o_21, .ref o_22, .int 1])), (o_21, .inl (o_23, 4, .inl (fun _ => 0))), (o_22, .inl (o_24, 18, .inl (fun _ => 0))), (q_25, .inr (9, [.ref o_29, .ref o_30, .ref o_31, .int 0])), (o_29, .inl (o_32, 960, .inl (fun _ => 0))), (o_30, .inl (o_33, 12, .inl (fun _ => 0))), (q_34, .inr (9, [.ref o_38, .ref o_39, .ref o_40, .int 0])), (o_38, .inl (o_41, 960, .inl (fun _ => 0))), (o_39, .inl (o_42, 12, .inl (fun _ => 0)))] H := hP
  have hD : va_D A [(x, .inr (11, [.ref q_1, .ref q_9, .ref q_17, .ref q_25, .ref q_34, .null, .null, .null, .null, .null, .null, .null, .null, .null, .null, .int 0, .int 0])), (q_1, .inr (3, [.ref o_5, .ref o_6, .int 1])), (o_5, .inl (o_7, 4, .inl (fun _ => 0))), (o_6, .inl (o_8, 18, .inl (fun _ => 0))), (q_9, .inr (3, [.ref o_13, .ref o_14, .int 1])), (o_13, .inl (o_15, 4, .inl (fun _ => 0))), (o_14, .inl (o_16, 18, .inl (fun _ => 0))), (q_17, .inr (3, [.ref o_21, .ref o_22, .int 1])), (o_21, .inl (o_23, 4, .inl (fun _ => 0))), (o_22, .inl (o_24, 18, .inl (fun _ => 0))), (q_25, .inr (9, [.ref o_29, .ref o_30, .ref o_31, .int 0])), (o_29, .inl (o_32, 960, .inl (fun _ => 0))), (o_30, .inl (o_33, 12, .inl (fun _ => 0))), (q_34, .inr (9, [.ref o_38, .ref o_39, .ref o_40, .int 0])), (o_38, .inl (o_41, 960, .inl (fun _ => 0))), (o_39, .inl (o_42, 12, .inl (fun _ => 0)))] := hD
  refine lv_aload_n hx hb dX11_init_59 rfl (lv_at hl 0 rfl) ?_
  refine va_new (ci := 0) (fs := [.null, .null, .null]) (C := RX0) (T := TX0) (N := 3) hx hb hts hiX0 tyX0 tyX0_ok hown (hts (.classLink RX11 34 RX0) (mo_X11_init 18 rfl)) (hts (.instantiable RX0 3) (mo_X11_init 19 rfl)) (hts (.initialized RX0) (mo_X11_init 20 rfl)) hK hP hD hS hA rfl (fun j hj => by rcases (show j = 0 ∨ j = 1 ∨ j = 2 by omega) with rfl | rfl | rfl <;> rfl) (Nat.le_of_ble_eq_true rfl) (Nat.le_of_ble_eq_true rfl) dX11_init_60 (fun q_43 H hP hD hS => ?_)
  have hP : va_P D vwCl [(x, .inr (11, [.ref q_1, .ref q_9, .ref q_17, .ref q_25, .ref q_34, .null, .null, .null, .null, .null, .null, .null, .null, .null, .null, .int 0, .int 0])), (q_1, .inr (3, [.ref o_5, .ref o_6, .int 1])), (o_5, .inl (o_7, 4, .inl (fun _ => 0))), (o_6, .inl (o_8, 18, .inl (fun _ => 0))), (q_9, .inr (3, [.ref o_13, .ref o_14, .int 1])), (o_13, .inl (o_15, 4, .inl (fun _ => 0))), (o_14, .inl (o_16, 18, .inl (fun _ => 0))), (q_17, .inr (3, [.ref o_21, .ref o_22, .int 1])), (o_21, .inl (o_23, 4, .inl (fun _ => 0))), (o_22, .inl (o_24, 18, .inl (fun _ => 0))), (q_25, .inr (9, [.ref o_29, .ref o_30, .ref o_31, .int 0])), (o_29, .inl (o_32, 960, .inl (fun _ => 0))), (o_30, .inl (o_33, 12, .inl (fun _ => 0))), (q_34, .inr (9, [.ref o_38, .ref o_39, .ref o_40, .int 0])), (o_38, .inl (o_41, 960, .inl (fun _ => 0))), (o_39, .inl (o_42, 12, .inl (fun _ => 0))), (q_43, .inr (0, [.null, .null, .null]))] H := hP
  have hD : va_D A [(x, .inr (11, [.ref q_1, .ref q_9, .ref q_17, .ref q_25, .ref q_34, .null, .null, .null, .null, .null, .null, .null, .null, .null, .null, .int 0, .int 0])), (q_1, .inr (3, [.ref o_5, .ref o_6, .int 1])), (o_5, .inl (o_7, 4, .inl (fun _ => 0))), (o_6, .inl (o_8, 18, .inl (fun _ => 0))), (q_9, .inr (3, [.ref o_13, .ref o_14, .int 1])), (o_13, .inl (o_15, 4, .inl (fun _ => 0))), (o_14, .inl (o_16, 18, .inl (fun _ => 0))), (q_17, .inr (3, [.ref o_21, .ref o_22, .int 1])), (o_21, .inl (o_23, 4, .inl (fun _ => 0))), (o_22, .inl (o_24, 18, .inl (fun _ => 0))), (q_25, .inr (9, [.ref o_29, .ref o_30, .ref o_31, .int 0])), (o_29, .inl (o_32, 960, .inl (fun _ => 0))), (o_30, .inl (o_33, 12, .inl (fun _ => 0))), (q_34, .inr (9, [.ref o_38, .ref o_39, .ref o_40, .int 0])), (o_38, .inl (o_41, 960, .inl (fun _ => 0))), (o_39, .inl (o_42, 12, .inl (fun _ => 0))), (q_43, .inr (0, [.null, .null, .null]))] := hD
  refine W.widen (k := 18) (n := 2194) (by decide) (Nat.le_of_ble_eq_true rfl) ?_
  refine lv_dup hx hb dX11_init_63 rfl ?_
  refine kc_Iv (As := []) (rest := [.ref q_43, .ref x]) (wr := [(x, .inr (11, [.ref q_1, .ref q_9, .ref q_17, .ref q_25, .ref q_34, .null, .null, .null, .null, .null, .null, .null, .null, .null, .null, .int 0, .int 0])), (q_1, .inr (3, [.ref o_5, .ref o_6, .int 1])), (o_5, .inl (o_7, 4, .inl (fun _ => 0))), (o_6, .inl (o_8, 18, .inl (fun _ => 0))), (q_9, .inr (3, [.ref o_13, .ref o_14, .int 1])), (o_13, .inl (o_15, 4, .inl (fun _ => 0))), (o_14, .inl (o_16, 18, .inl (fun _ => 0))), (q_17, .inr (3, [.ref o_21, .ref o_22, .int 1])), (o_21, .inl (o_23, 4, .inl (fun _ => 0))), (o_22, .inl (o_24, 18, .inl (fun _ => 0))), (q_25, .inr (9, [.ref o_29, .ref o_30, .ref o_31, .int 0])), (o_29, .inl (o_32, 960, .inl (fun _ => 0))), (o_30, .inl (o_33, 12, .inl (fun _ => 0))), (q_34, .inr (9, [.ref o_38, .ref o_39, .ref o_40, .int 0])), (o_38, .inl (o_41, 960, .inl (fun _ => 0))), (o_39, .inl (o_42, 12, .inl (fun _ => 0)))]) ⟨hx, hb, hml, hown, hts⟩ (ct_X0_init l D q_43 _ ) (cwI 0 hts (goodIn_sub mb_X11_init_2 gw_X0_init) rfl rfl rfl (hts (.initialized RX0) (mo_X11_init 20 rfl)) (hts (.methodLink RX11 36 yX0_init) (mo_X11_init 21 rfl)) (hts (.instanceMethod yX0_init) (mo_X11_init 22 rfl)) rfl hd_X0_init ⟨Nat.le_of_ble_eq_true rfl, Nat.le_of_ble_eq_true rfl⟩) hK hN hP hD hS hA [16] [0, 1, 2, 3, 4, 5, 6, 7, 8, 9, 10, 11, 12, 13, 14, 15] [] rfl rfl (by decide) (by decide) (by decide) rfl rfl hl.1 rfl (Nat.le_of_ble_eq_true rfl) dX11_init_64 ⟨Nat.le_of_ble_eq_true rfl, Nat.le_of_ble_eq_true rfl⟩ (fun u_45 H locs w_46 hP hD hK1 hS => ?_)
  obtain ⟨o_47, o_48, o_49, o_50, o_51, o_52, o_53⟩ := u_45
  have hK : va_K D vwCl [(o_7, .int), (o_8, .int), (o_15, .int), (o_16, .int), (o_23, .int), (o_24, .int), (o_32, .int), (o_33, .int), (o_41, .int), (o_42, .int), (o_50, .int), (o_51, .int), (o_52, .long)] s := hK.app hK1
  have hP : va_P D vwCl [(x, .inr (11, [.ref q_1, .ref q_9, .ref q_17, .ref q_25, .ref q_34, .null, .null, .null, .null, .null, .null, .null, .null, .null, .null, .int 0, .int 0])), (q_1, .inr (3, [.ref o_5, .ref o_6, .int 1])), (o_5, .inl (o_7, 4, .inl (fun _ => 0))), (o_6, .inl (o_8, 18, .inl (fun _ => 0))), (q_9, .inr (3, [.ref o_13, .ref o_14, .int 1])), (o_13, .inl (o_15, 4, .inl (fun _ => 0))), (o_14, .inl (o_16, 18, .inl (fun _ => 0))), (q_17, .inr (3, [.ref o_21, .ref o_22, .int 1])), (o_21, .inl (o_23, 4, .inl (fun _ => 0))), (o_22, .inl (o_24, 18, .inl (fun _ => 0))), (q_25, .inr (9, [.ref o_29, .ref o_30, .ref o_31, .int 0])), (o_29, .inl (o_32, 960, .inl (fun _ => 0))), (o_30, .inl (o_33, 12, .inl (fun _ => 0))), (q_34, .inr (9, [.ref o_38, .ref o_39, .ref o_40, .int 0])), (o_38, .inl (o_41, 960, .inl (fun _ => 0))), (o_39, .inl (o_42, 12, .inl (fun _ => 0))), (q_43, .inr (0, [.ref o_47, .ref o_48, .ref o_49])), (o_47, .inl (o_50, 6, .inl o_53)), (o_48, .inl (o_51, 6, .inl (fun _ => 0))), (o_49, .inl (o_52, 360, .inr (.inl (fun _ => 0))))] H := hP
  have hD : va_D A [(x, .inr (11, [.ref q_1, .ref q_9, .ref q_17, .ref q_25, .ref q_34, .null, .null, .null, .null, .null, .null, .null, .null, .null, .null, .int 0, .int 0])), (q_1, .inr (3, [.ref o_5, .ref o_6, .int 1])), (o_5, .inl (o_7, 4, .inl (fun _ => 0))), (o_6, .inl (o_8, 18, .inl (fun _ => 0))), (q_9, .inr (3, [.ref o_13, .ref o_14, .int 1])), (o_13, .inl (o_15, 4, .inl (fun _ => 0))), (o_14, .inl (o_16, 18, .inl (fun _ => 0))), (q_17, .inr (3, [.ref o_21, .ref o_22, .int 1])), (o_21, .inl (o_23, 4, .inl (fun _ => 0))), (o_22, .inl (o_24, 18, .inl (fun _ => 0))), (q_25, .inr (9, [.ref o_29, .ref o_30, .ref o_31, .int 0])), (o_29, .inl (o_32, 960, .inl (fun _ => 0))), (o_30, .inl (o_33, 12, .inl (fun _ => 0))), (q_34, .inr (9, [.ref o_38, .ref o_39, .ref o_40, .int 0])), (o_38, .inl (o_41, 960, .inl (fun _ => 0))), (o_39, .inl (o_42, 12, .inl (fun _ => 0))), (q_43, .inr (0, [.ref o_47, .ref o_48, .ref o_49])), (o_47, .inl (o_50, 6, .inl o_53)), (o_48, .inl (o_51, 6, .inl (fun _ => 0))), (o_49, .inl (o_52, 360, .inr (.inl (fun _ => 0))))] := hD
  refine W.widen (k := 21) (n := 2566) (by decide) (Nat.le_of_ble_eq_true rfl) ?_
  have w_46 : ∀ k, k < 6 → o_53 k = -1 := w_46
  refine va_putF (D := D) (ci := 11) (v := .ref q_43) (ty := .object "DynamicLogicProver$Buffers") (C := RX11) (T := TX11) (N := 17) hx hb hts hiX11 tyX11 tyX11_ok nmX11 hown hK hP hD hS 0 rfl rfl 5 (by decide) (hts (.fieldLink RX11 37 "DynamicLogicProver" "buffers" "LDynamicLogicProver$Buffers;") (mo_X11_init 23 rfl)) (fun _ h9 => h9) rfl hin rfl (tyX11_ok 5 (by decide)) rfl rfl (Nat.le_of_ble_eq_true rfl) dX11_init_67 (fun H locs hP hD hS => ?_)
  have hP : va_P D vwCl [(x, .inr (11, [.ref q_1, .ref q_9, .ref q_17, .ref q_25, .ref q_34, .ref q_43, .null, .null, .null, .null, .null, .null, .null, .null, .null, .int 0, .int 0])), (q_1, .inr (3, [.ref o_5, .ref o_6, .int 1])), (o_5, .inl (o_7, 4, .inl (fun _ => 0))), (o_6, .inl (o_8, 18, .inl (fun _ => 0))), (q_9, .inr (3, [.ref o_13, .ref o_14, .int 1])), (o_13, .inl (o_15, 4, .inl (fun _ => 0))), (o_14, .inl (o_16, 18, .inl (fun _ => 0))), (q_17, .inr (3, [.ref o_21, .ref o_22, .int 1])), (o_21, .inl (o_23, 4, .inl (fun _ => 0))), (o_22, .inl (o_24, 18, .inl (fun _ => 0))), (q_25, .inr (9, [.ref o_29, .ref o_30, .ref o_31, .int 0])), (o_29, .inl (o_32, 960, .inl (fun _ => 0))), (o_30, .inl (o_33, 12, .inl (fun _ => 0))), (q_34, .inr (9, [.ref o_38, .ref o_39, .ref o_40, .int 0])), (o_38, .inl (o_41, 960, .inl (fun _ => 0))), (o_39, .inl (o_42, 12, .inl (fun _ => 0))), (q_43, .inr (0, [.ref o_47, .ref o_48, .ref o_49])), (o_47, .inl (o_50, 6, .inl o_53)), (o_48, .inl (o_51, 6, .inl (fun _ => 0))), (o_49, .inl (o_52, 360, .inr (.inl (fun _ => 0))))] H := hP
  have hD : va_D A [(x, .inr (11, [.ref q_1, .ref q_9, .ref q_17, .ref q_25, .ref q_34, .ref q_43, .null, .null, .null, .null, .null, .null, .null, .null, .null, .int 0, .int 0])), (q_1, .inr (3, [.ref o_5, .ref o_6, .int 1])), (o_5, .inl (o_7, 4, .inl (fun _ => 0))), (o_6, .inl (o_8, 18, .inl (fun _ => 0))), (q_9, .inr (3, [.ref o_13, .ref o_14, .int 1])), (o_13, .inl (o_15, 4, .inl (fun _ => 0))), (o_14, .inl (o_16, 18, .inl (fun _ => 0))), (q_17, .inr (3, [.ref o_21, .ref o_22, .int 1])), (o_21, .inl (o_23, 4, .inl (fun _ => 0))), (o_22, .inl (o_24, 18, .inl (fun _ => 0))), (q_25, .inr (9, [.ref o_29, .ref o_30, .ref o_31, .int 0])), (o_29, .inl (o_32, 960, .inl (fun _ => 0))), (o_30, .inl (o_33, 12, .inl (fun _ => 0))), (q_34, .inr (9, [.ref o_38, .ref o_39, .ref o_40, .int 0])), (o_38, .inl (o_41, 960, .inl (fun _ => 0))), (o_39, .inl (o_42, 12, .inl (fun _ => 0))), (q_43, .inr (0, [.ref o_47, .ref o_48, .ref o_49])), (o_47, .inl (o_50, 6, .inl o_53)), (o_48, .inl (o_51, 6, .inl (fun _ => 0))), (o_49, .inl (o_52, 360, .inr (.inl (fun _ => 0))))] := hD
  refine lv_aload_n hx hb dX11_init_70 rfl (lv_at hl 0 rfl) ?_
  refine va_new (ci := 6) (fs := [.null, .null, .null, .null, .null, .null, .null, .null, .null, .null, .null, .int 0]) (C := RX6) (T := TX6) (N := 12) hx hb hts hiX6 tyX6 tyX6_ok hown (hts (.classLink RX11 41 RX6) (mo_X11_init 24 rfl)) (hts (.instantiable RX6 12) (mo_X11_init 25 rfl)) (hts (.initialized RX6) (mo_X11_init 26 rfl)) hK hP hD hS hA rfl (fun j hj => by rcases (show j = 0 ∨ j = 1 ∨ j = 2 ∨ j = 3 ∨ j = 4 ∨ j = 5 ∨ j = 6 ∨ j = 7 ∨ j = 8 ∨ j = 9 ∨ j = 10 ∨ j = 11 by omega) with rfl | rfl | rfl | rfl | rfl | rfl | rfl | rfl | rfl | rfl | rfl | rfl <;> rfl) (Nat.le_of_ble_eq_true rfl) (Nat.le_of_ble_eq_true rfl) dX11_init_71 (fun q_54 H hP hD hS => ?_)
  have hP : va_P D vwCl [(x, .inr (11, [.ref q_1, .ref q_9, .ref q_17, .ref q_25, .ref q_34, .ref q_43, .null, .null, .null, .null, .null, .null, .null, .null, .null, .int 0, .int 0])), (q_1, .inr (3, [.ref o_5, .ref o_6, .int 1])), (o_5, .inl (o_7, 4, .inl (fun _ => 0))), (o_6, .inl (o_8, 18, .inl (fun _ => 0))), (q_9, .inr (3, [.ref o_13, .ref o_14, .int 1])), (o_13, .inl (o_15, 4, .inl (fun _ => 0))), (o_14, .inl (o_16, 18, .inl (fun _ => 0))), (q_17, .inr (3, [.ref o_21, .ref o_22, .int 1])), (o_21, .inl (o_23, 4, .inl (fun _ => 0))), (o_22, .inl (o_24, 18, .inl (fun _ => 0))), (q_25, .inr (9, [.ref o_29, .ref o_30, .ref o_31, .int 0])), (o_29, .inl (o_32, 960, .inl (fun _ => 0))), (o_30, .inl (o_33, 12, .inl (fun _ => 0))), (q_34, .inr (9, [.ref o_38, .ref o_39, .ref o_40, .int 0])), (o_38, .inl (o_41, 960, .inl (fun _ => 0))), (o_39, .inl (o_42, 12, .inl (fun _ => 0))), (q_43, .inr (0, [.ref o_47, .ref o_48, .ref o_49])), (o_47, .inl (o_50, 6, .inl o_53)), (o_48, .inl (o_51, 6, .inl (fun _ => 0))), (o_49, .inl (o_52, 360, .inr (.inl (fun _ => 0)))), (q_54, .inr (6, [.null, .null, .null, .null, .null, .null, .null, .null, .null, .null, .null, .int 0]))] H := hP
  have hD : va_D A [(x, .inr (11, [.ref q_1, .ref q_9, .ref q_17, .ref q_25, .ref q_34, .ref q_43, .null, .null, .null, .null, .null, .null, .null, .null, .null, .int 0, .int 0])), (q_1, .inr (3, [.ref o_5, .ref o_6, .int 1])), (o_5, .inl (o_7, 4, .inl (fun _ => 0))), (o_6, .inl (o_8, 18, .inl (fun _ => 0))), (q_9, .inr (3, [.ref o_13, .ref o_14, .int 1])), (o_13, .inl (o_15, 4, .inl (fun _ => 0))), (o_14, .inl (o_16, 18, .inl (fun _ => 0))), (q_17, .inr (3, [.ref o_21, .ref o_22, .int 1])), (o_21, .inl (o_23, 4, .inl (fun _ => 0))), (o_22, .inl (o_24, 18, .inl (fun _ => 0))), (q_25, .inr (9, [.ref o_29, .ref o_30, .ref o_31, .int 0])), (o_29, .inl (o_32, 960, .inl (fun _ => 0))), (o_30, .inl (o_33, 12, .inl (fun _ => 0))), (q_34, .inr (9, [.ref o_38, .ref o_39, .ref o_40, .int 0])), (o_38, .inl (o_41, 960, .inl (fun _ => 0))), (o_39, .inl (o_42, 12, .inl (fun _ => 0))), (q_43, .inr (0, [.ref o_47, .ref o_48, .ref o_49])), (o_47, .inl (o_50, 6, .inl o_53)), (o_48, .inl (o_51, 6, .inl (fun _ => 0))), (o_49, .inl (o_52, 360, .inr (.inl (fun _ => 0)))), (q_54, .inr (6, [.null, .null, .null, .null, .null, .null, .null, .null, .null, .null, .null, .int 0]))] := hD
  refine W.widen (k := 22) (n := 2578) (by decide) (Nat.le_of_ble_eq_true rfl) ?_
  refine lv_dup hx hb dX11_init_74 rfl ?_
  refine kc_Iv (As := []) (rest := [.ref q_54, .ref x]) (wr := [(x, .inr (11, [.ref q_1, .ref q_9, .ref q_17, .ref q_25, .ref q_34, .ref q_43, .null, .null, .null, .null, .null, .null, .null, .null, .null, .int 0, .int 0])), (q_1, .inr (3, [.ref o_5, .ref o_6, .int 1])), (o_5, .inl (o_7, 4, .inl (fun _ => 0))), (o_6, .inl (o_8, 18, .inl (fun _ => 0))), (q_9, .inr (3, [.ref o_13, .ref o_14, .int 1])), (o_13, .inl (o_15, 4, .inl (fun _ => 0))), (o_14, .inl (o_16, 18, .inl (fun _ => 0))), (q_17, .inr (3, [.ref o_21, .ref o_22, .int 1])), (o_21, .inl (o_23, 4, .inl (fun _ => 0))), (o_22, .inl (o_24, 18, .inl (fun _ => 0))), (q_25, .inr (9, [.ref o_29, .ref o_30, .ref o_31, .int 0])), (o_29, .inl (o_32, 960, .inl (fun _ => 0))), (o_30, .inl (o_33, 12, .inl (fun _ => 0))), (q_34, .inr (9, [.ref o_38, .ref o_39, .ref o_40, .int 0])), (o_38, .inl (o_41, 960, .inl (fun _ => 0))), (o_39, .inl (o_42, 12, .inl (fun _ => 0))), (q_43, .inr (0, [.ref o_47, .ref o_48, .ref o_49])), (o_47, .inl (o_50, 6, .inl o_53)), (o_48, .inl (o_51, 6, .inl (fun _ => 0))), (o_49, .inl (o_52, 360, .inr (.inl (fun _ => 0))))]) ⟨hx, hb, hml, hown, hts⟩ (ct_X6_init l D q_54 _ ) (cwI 0 hts (goodIn_sub mb_X11_init_3 gw_X6_init) rfl rfl rfl (hts (.initialized RX6) (mo_X11_init 26 rfl)) (hts (.methodLink RX11 43 yX6_init) (mo_X11_init 27 rfl)) (hts (.instanceMethod yX6_init) (mo_X11_init 28 rfl)) rfl hd_X6_init ⟨Nat.le_of_ble_eq_true rfl, Nat.le_of_ble_eq_true rfl⟩) hK hN hP hD hS hA [20] [0, 1, 2, 3, 4, 5, 6, 7, 8, 9, 10, 11, 12, 13, 14, 15, 16, 17, 18, 19] [] rfl rfl (by decide) (by decide) (by decide) rfl rfl hl.1 rfl (Nat.le_of_ble_eq_true rfl) dX11_init_75 ⟨Nat.le_of_ble_eq_true rfl, Nat.le_of_ble_eq_true rfl⟩ (fun u_56 H locs w_57 hP hD hK1 hS => ?_)
  obtain ⟨o_58, o_59, o_60, o_61, o_62, o_63, o_64, o_65, o_66, o_67, o_68, o_69, o_70⟩ := u_56
  have hK : va_K D vwCl [(o_7, .int), (o_8, .int), (o_15, .int), (o_16, .int), (o_23, .int), (o_24, .int), (o_32, .int), (o_33, .int), (o_41, .int), (o_42, .int), (o_50, .int), (o_51, .int), (o_52, .long), (o_69, .int)] s := hK.app hK1
  have hP : va_P D vwCl [(x, .inr (11, [.ref q_1, .ref q_9, .ref q_17, .ref q_25, .ref q_34, .ref q_43, .null, .null, .null, .null, .null, .null, .null, .null, .null, .int 0, .int 0])), (q_1, .inr (3, [.ref o_5, .ref o_6, .int 1])), (o_5, .inl (o_7, 4, .inl (fun _ => 0))), (o_6, .inl (o_8, 18, .inl (fun _ => 0))), (q_9, .inr (3, [.ref o_13, .ref o_14, .int 1])), (o_13, .inl (o_15, 4, .inl (fun _ => 0))), (o_14, .inl (o_16, 18, .inl (fun _ => 0))), (q_17, .inr (3, [.ref o_21, .ref o_22, .int 1])), (o_21, .inl (o_23, 4, .inl (fun _ => 0))), (o_22, .inl (o_24, 18, .inl (fun _ => 0))), (q_25, .inr (9, [.ref o_29, .ref o_30, .ref o_31, .int 0])), (o_29, .inl (o_32, 960, .inl (fun _ => 0))), (o_30, .inl (o_33, 12, .inl (fun _ => 0))), (q_34, .inr (9, [.ref o_38, .ref o_39, .ref o_40, .int 0])), (o_38, .inl (o_41, 960, .inl (fun _ => 0))), (o_39, .inl (o_42, 12, .inl (fun _ => 0))), (q_43, .inr (0, [.ref o_47, .ref o_48, .ref o_49])), (o_47, .inl (o_50, 6, .inl o_53)), (o_48, .inl (o_51, 6, .inl (fun _ => 0))), (o_49, .inl (o_52, 360, .inr (.inl (fun _ => 0)))), (q_54, .inr (6, [.ref o_58, .ref o_59, .ref o_60, .ref o_61, .ref o_62, .ref o_63, .ref o_64, .ref o_65, .ref o_66, .ref o_67, .ref o_68, .int 0])), (o_65, .inl (o_69, 256, .inl o_70))] H := hP
  have hD : va_D A [(x, .inr (11, [.ref q_1, .ref q_9, .ref q_17, .ref q_25, .ref q_34, .ref q_43, .null, .null, .null, .null, .null, .null, .null, .null, .null, .int 0, .int 0])), (q_1, .inr (3, [.ref o_5, .ref o_6, .int 1])), (o_5, .inl (o_7, 4, .inl (fun _ => 0))), (o_6, .inl (o_8, 18, .inl (fun _ => 0))), (q_9, .inr (3, [.ref o_13, .ref o_14, .int 1])), (o_13, .inl (o_15, 4, .inl (fun _ => 0))), (o_14, .inl (o_16, 18, .inl (fun _ => 0))), (q_17, .inr (3, [.ref o_21, .ref o_22, .int 1])), (o_21, .inl (o_23, 4, .inl (fun _ => 0))), (o_22, .inl (o_24, 18, .inl (fun _ => 0))), (q_25, .inr (9, [.ref o_29, .ref o_30, .ref o_31, .int 0])), (o_29, .inl (o_32, 960, .inl (fun _ => 0))), (o_30, .inl (o_33, 12, .inl (fun _ => 0))), (q_34, .inr (9, [.ref o_38, .ref o_39, .ref o_40, .int 0])), (o_38, .inl (o_41, 960, .inl (fun _ => 0))), (o_39, .inl (o_42, 12, .inl (fun _ => 0))), (q_43, .inr (0, [.ref o_47, .ref o_48, .ref o_49])), (o_47, .inl (o_50, 6, .inl o_53)), (o_48, .inl (o_51, 6, .inl (fun _ => 0))), (o_49, .inl (o_52, 360, .inr (.inl (fun _ => 0)))), (q_54, .inr (6, [.ref o_58, .ref o_59, .ref o_60, .ref o_61, .ref o_62, .ref o_63, .ref o_64, .ref o_65, .ref o_66, .ref o_67, .ref o_68, .int 0])), (o_65, .inl (o_69, 256, .inl o_70))] := hD
  refine W.widen (k := 33) (n := 16146) (by decide) (Nat.le_of_ble_eq_true rfl) ?_
  refine va_putF (D := D) (ci := 11) (v := .ref q_54) (ty := .object "DynamicLogicProver$Pool") (C := RX11) (T := TX11) (N := 17) hx hb hts hiX11 tyX11 tyX11_ok nmX11 hown hK hP hD hS 0 rfl rfl 6 (by decide) (hts (.fieldLink RX11 44 "DynamicLogicProver" "pool" "LDynamicLogicProver$Pool;") (mo_X11_init 29 rfl)) (fun _ h9 => h9) rfl hin rfl (tyX11_ok 6 (by decide)) rfl rfl (Nat.le_of_ble_eq_true rfl) dX11_init_78 (fun H locs hP hD hS => ?_)
  have hP : va_P D vwCl [(x, .inr (11, [.ref q_1, .ref q_9, .ref q_17, .ref q_25, .ref q_34, .ref q_43, .ref q_54, .null, .null, .null, .null, .null, .null, .null, .null, .int 0, .int 0])), (q_1, .inr (3, [.ref o_5, .ref o_6, .int 1])), (o_5, .inl (o_7, 4, .inl (fun _ => 0))), (o_6, .inl (o_8, 18, .inl (fun _ => 0))), (q_9, .inr (3, [.ref o_13, .ref o_14, .int 1])), (o_13, .inl (o_15, 4, .inl (fun _ => 0))), (o_14, .inl (o_16, 18, .inl (fun _ => 0))), (q_17, .inr (3, [.ref o_21, .ref o_22, .int 1])), (o_21, .inl (o_23, 4, .inl (fun _ => 0))), (o_22, .inl (o_24, 18, .inl (fun _ => 0))), (q_25, .inr (9, [.ref o_29, .ref o_30, .ref o_31, .int 0])), (o_29, .inl (o_32, 960, .inl (fun _ => 0))), (o_30, .inl (o_33, 12, .inl (fun _ => 0))), (q_34, .inr (9, [.ref o_38, .ref o_39, .ref o_40, .int 0])), (o_38, .inl (o_41, 960, .inl (fun _ => 0))), (o_39, .inl (o_42, 12, .inl (fun _ => 0))), (q_43, .inr (0, [.ref o_47, .ref o_48, .ref o_49])), (o_47, .inl (o_50, 6, .inl o_53)), (o_48, .inl (o_51, 6, .inl (fun _ => 0))), (o_49, .inl (o_52, 360, .inr (.inl (fun _ => 0)))), (q_54, .inr (6, [.ref o_58, .ref o_59, .ref o_60, .ref o_61, .ref o_62, .ref o_63, .ref o_64, .ref o_65, .ref o_66, .ref o_67, .ref o_68, .int 0])), (o_65, .inl (o_69, 256, .inl o_70))] H := hP
  have hD : va_D A [(x, .inr (11, [.ref q_1, .ref q_9, .ref q_17, .ref q_25, .ref q_34, .ref q_43, .ref q_54, .null, .null, .null, .null, .null, .null, .null, .null, .int 0, .int 0])), (q_1, .inr (3, [.ref o_5, .ref o_6, .int 1])), (o_5, .inl (o_7, 4, .inl (fun _ => 0))), (o_6, .inl (o_8, 18, .inl (fun _ => 0))), (q_9, .inr (3, [.ref o_13, .ref o_14, .int 1])), (o_13, .inl (o_15, 4, .inl (fun _ => 0))), (o_14, .inl (o_16, 18, .inl (fun _ => 0))), (q_17, .inr (3, [.ref o_21, .ref o_22, .int 1])), (o_21, .inl (o_23, 4, .inl (fun _ => 0))), (o_22, .inl (o_24, 18, .inl (fun _ => 0))), (q_25, .inr (9, [.ref o_29, .ref o_30, .ref o_31, .int 0])), (o_29, .inl (o_32, 960, .inl (fun _ => 0))), (o_30, .inl (o_33, 12, .inl (fun _ => 0))), (q_34, .inr (9, [.ref o_38, .ref o_39, .ref o_40, .int 0])), (o_38, .inl (o_41, 960, .inl (fun _ => 0))), (o_39, .inl (o_42, 12, .inl (fun _ => 0))), (q_43, .inr (0, [.ref o_47, .ref o_48, .ref o_49])), (o_47, .inl (o_50, 6, .inl o_53)), (o_48, .inl (o_51, 6, .inl (fun _ => 0))), (o_49, .inl (o_52, 360, .inr (.inl (fun _ => 0)))), (q_54, .inr (6, [.ref o_58, .ref o_59, .ref o_60, .ref o_61, .ref o_62, .ref o_63, .ref o_64, .ref o_65, .ref o_66, .ref o_67, .ref o_68, .int 0])), (o_65, .inl (o_69, 256, .inl o_70))] := hD
  refine lv_aload_n hx hb dX11_init_81 rfl (lv_at hl 0 rfl) ?_
  refine lv_bipush (v := 100) hx hb dX11_init_82 (by decide) ?_
  refine va_newa (atype := .int) (ty := .int) (a0 := (100, .inl (fun _ => 0))) hx hb (hts (.arrayClass .int) (mo_X11_init 30 rfl)) rfl hK hP hD hS hA (fun _ => rfl) (by decide) (N' := 100) (by decide) (by decide) (Nat.le_of_ble_eq_true rfl) (Nat.le_of_ble_eq_true rfl) dX11_init_84 (fun q_71 k_72 H hK hP hD hS => ?_)
  have hP : va_P D vwCl [(x, .inr (11, [.ref q_1, .ref q_9, .ref q_17, .ref q_25, .ref q_34, .ref q_43, .ref q_54, .null, .null, .null, .null, .null, .null, .null, .null, .int 0, .int 0])), (q_1, .inr (3, [.ref o_5, .ref o_6, .int 1])), (o_5, .inl (o_7, 4, .inl (fun _ => 0))), (o_6, .inl (o_8, 18, .inl (fun _ => 0))), (q_9, .inr (3, [.ref o_13, .ref o_14, .int 1])), (o_13, .inl (o_15, 4, .inl (fun _ => 0))), (o_14, .inl (o_16, 18, .inl (fun _ => 0))), (q_17, .inr (3, [.ref o_21, .ref o_22, .int 1])), (o_21, .inl (o_23, 4, .inl (fun _ => 0))), (o_22, .inl (o_24, 18, .inl (fun _ => 0))), (q_25, .inr (9, [.ref o_29, .ref o_30, .ref o_31, .int 0])), (o_29, .inl (o_32, 960, .inl (fun _ => 0))), (o_30, .inl (o_33, 12, .inl (fun _ => 0))), (q_34, .inr (9, [.ref o_38, .ref o_39, .ref o_40, .int 0])), (o_38, .inl (o_41, 960, .inl (fun _ => 0))), (o_39, .inl (o_42, 12, .inl (fun _ => 0))), (q_43, .inr (0, [.ref o_47, .ref o_48, .ref o_49])), (o_47, .inl (o_50, 6, .inl o_53)), (o_48, .inl (o_51, 6, .inl (fun _ => 0))), (o_49, .inl (o_52, 360, .inr (.inl (fun _ => 0)))), (q_54, .inr (6, [.ref o_58, .ref o_59, .ref o_60, .ref o_61, .ref o_62, .ref o_63, .ref o_64, .ref o_65, .ref o_66, .ref o_67, .ref o_68, .int 0])), (o_65, .inl (o_69, 256, .inl o_70)), (q_71, .inl (k_72, 100, .inl (fun _ => 0)))] H := hP
  have hD : va_D A [(x, .inr (11, [.ref q_1, .ref q_9, .ref q_17, .ref q_25, .ref q_34, .ref q_43, .ref q_54, .null, .null, .null, .null, .null, .null, .null, .null, .int 0, .int 0])), (q_1, .inr (3, [.ref o_5, .ref o_6, .int 1])), (o_5, .inl (o_7, 4, .inl (fun _ => 0))), (o_6, .inl (o_8, 18, .inl (fun _ => 0))), (q_9, .inr (3, [.ref o_13, .ref o_14, .int 1])), (o_13, .inl (o_15, 4, .inl (fun _ => 0))), (o_14, .inl (o_16, 18, .inl (fun _ => 0))), (q_17, .inr (3, [.ref o_21, .ref o_22, .int 1])), (o_21, .inl (o_23, 4, .inl (fun _ => 0))), (o_22, .inl (o_24, 18, .inl (fun _ => 0))), (q_25, .inr (9, [.ref o_29, .ref o_30, .ref o_31, .int 0])), (o_29, .inl (o_32, 960, .inl (fun _ => 0))), (o_30, .inl (o_33, 12, .inl (fun _ => 0))), (q_34, .inr (9, [.ref o_38, .ref o_39, .ref o_40, .int 0])), (o_38, .inl (o_41, 960, .inl (fun _ => 0))), (o_39, .inl (o_42, 12, .inl (fun _ => 0))), (q_43, .inr (0, [.ref o_47, .ref o_48, .ref o_49])), (o_47, .inl (o_50, 6, .inl o_53)), (o_48, .inl (o_51, 6, .inl (fun _ => 0))), (o_49, .inl (o_52, 360, .inr (.inl (fun _ => 0)))), (q_54, .inr (6, [.ref o_58, .ref o_59, .ref o_60, .ref o_61, .ref o_62, .ref o_63, .ref o_64, .ref o_65, .ref o_66, .ref o_67, .ref o_68, .int 0])), (o_65, .inl (o_69, 256, .inl o_70)), (q_71, .inl (k_72, 100, .inl (fun _ => 0)))] := hD
  have hK : va_K D vwCl [(o_7, .int), (o_8, .int), (o_15, .int), (o_16, .int), (o_23, .int), (o_24, .int), (o_32, .int), (o_33, .int), (o_41, .int), (o_42, .int), (o_50, .int), (o_51, .int), (o_52, .long), (o_69, .int), (k_72, .int)] s := hK
  refine W.widen (k := 34) (n := 16246) (by decide) (Nat.le_of_ble_eq_true rfl) ?_
  refine va_putF (D := D) (ci := 11) (v := .ref q_71) (ty := .array .int) (C := RX11) (T := TX11) (N := 17) hx hb hts hiX11 tyX11 tyX11_ok nmX11 hown hK hP hD hS 0 rfl rfl 7 (by decide) (hts (.fieldLink RX11 48 "DynamicLogicProver" "text" "[I") (mo_X11_init 31 rfl)) (fun _ h9 => h9) rfl hin rfl (tyX11_ok 7 (by decide)) rfl rfl (Nat.le_of_ble_eq_true rfl) dX11_init_86 (fun H locs hP hD hS => ?_)
  have hP : va_P D vwCl [(x, .inr (11, [.ref q_1, .ref q_9, .ref q_17, .ref q_25, .ref q_34, .ref q_43, .ref q_54, .ref q_71, .null, .null, .null, .null, .null, .null, .null, .int 0, .int 0])), (q_1, .inr (3, [.ref o_5, .ref o_6, .int 1])), (o_5, .inl (o_7, 4, .inl (fun _ => 0))), (o_6, .inl (o_8, 18, .inl (fun _ => 0))), (q_9, .inr (3, [.ref o_13, .ref o_14, .int 1])), (o_13, .inl (o_15, 4, .inl (fun _ => 0))), (o_14, .inl (o_16, 18, .inl (fun _ => 0))), (q_17, .inr (3, [.ref o_21, .ref o_22, .int 1])), (o_21, .inl (o_23, 4, .inl (fun _ => 0))), (o_22, .inl (o_24, 18, .inl (fun _ => 0))), (q_25, .inr (9, [.ref o_29, .ref o_30, .ref o_31, .int 0])), (o_29, .inl (o_32, 960, .inl (fun _ => 0))), (o_30, .inl (o_33, 12, .inl (fun _ => 0))), (q_34, .inr (9, [.ref o_38, .ref o_39, .ref o_40, .int 0])), (o_38, .inl (o_41, 960, .inl (fun _ => 0))), (o_39, .inl (o_42, 12, .inl (fun _ => 0))), (q_43, .inr (0, [.ref o_47, .ref o_48, .ref o_49])), (o_47, .inl (o_50, 6, .inl o_53)), (o_48, .inl (o_51, 6, .inl (fun _ => 0))), (o_49, .inl (o_52, 360, .inr (.inl (fun _ => 0)))), (q_54, .inr (6, [.ref o_58, .ref o_59, .ref o_60, .ref o_61, .ref o_62, .ref o_63, .ref o_64, .ref o_65, .ref o_66, .ref o_67, .ref o_68, .int 0])), (o_65, .inl (o_69, 256, .inl o_70)), (q_71, .inl (k_72, 100, .inl (fun _ => 0)))] H := hP
  have hD : va_D A [(x, .inr (11, [.ref q_1, .ref q_9, .ref q_17, .ref q_25, .ref q_34, .ref q_43, .ref q_54, .ref q_71, .null, .null, .null, .null, .null, .null, .null, .int 0, .int 0])), (q_1, .inr (3, [.ref o_5, .ref o_6, .int 1])), (o_5, .inl (o_7, 4, .inl (fun _ => 0))), (o_6, .inl (o_8, 18, .inl (fun _ => 0))), (q_9, .inr (3, [.ref o_13, .ref o_14, .int 1])), (o_13, .inl (o_15, 4, .inl (fun _ => 0))), (o_14, .inl (o_16, 18, .inl (fun _ => 0))), (q_17, .inr (3, [.ref o_21, .ref o_22, .int 1])), (o_21, .inl (o_23, 4, .inl (fun _ => 0))), (o_22, .inl (o_24, 18, .inl (fun _ => 0))), (q_25, .inr (9, [.ref o_29, .ref o_30, .ref o_31, .int 0])), (o_29, .inl (o_32, 960, .inl (fun _ => 0))), (o_30, .inl (o_33, 12, .inl (fun _ => 0))), (q_34, .inr (9, [.ref o_38, .ref o_39, .ref o_40, .int 0])), (o_38, .inl (o_41, 960, .inl (fun _ => 0))), (o_39, .inl (o_42, 12, .inl (fun _ => 0))), (q_43, .inr (0, [.ref o_47, .ref o_48, .ref o_49])), (o_47, .inl (o_50, 6, .inl o_53)), (o_48, .inl (o_51, 6, .inl (fun _ => 0))), (o_49, .inl (o_52, 360, .inr (.inl (fun _ => 0)))), (q_54, .inr (6, [.ref o_58, .ref o_59, .ref o_60, .ref o_61, .ref o_62, .ref o_63, .ref o_64, .ref o_65, .ref o_66, .ref o_67, .ref o_68, .int 0])), (o_65, .inl (o_69, 256, .inl o_70)), (q_71, .inl (k_72, 100, .inl (fun _ => 0)))] := hD
  refine lv_aload_n hx hb dX11_init_89 rfl (lv_at hl 0 rfl) ?_
  refine va_new (ci := 4) (fs := [.null, .null, .null, .int 0, .int 0, .int 0, .int 0, .int 0]) (C := RX4) (T := TX4) (N := 8) hx hb hts hiX4 tyX4 tyX4_ok hown (hts (.classLink RX11 52 RX4) (mo_X11_init 32 rfl)) (hts (.instantiable RX4 8) (mo_X11_init 33 rfl)) (hts (.initialized RX4) (mo_X11_init 34 rfl)) hK hP hD hS hA rfl (fun j hj => by rcases (show j = 0 ∨ j = 1 ∨ j = 2 ∨ j = 3 ∨ j = 4 ∨ j = 5 ∨ j = 6 ∨ j = 7 by omega) with rfl | rfl | rfl | rfl | rfl | rfl | rfl | rfl <;> rfl) (Nat.le_of_ble_eq_true rfl) (Nat.le_of_ble_eq_true rfl) dX11_init_90 (fun q_73 H hP hD hS => ?_)
  have hP : va_P D vwCl [(x, .inr (11, [.ref q_1, .ref q_9, .ref q_17, .ref q_25, .ref q_34, .ref q_43, .ref q_54, .ref q_71, .null, .null, .null, .null, .null, .null, .null, .int 0, .int 0])), (q_1, .inr (3, [.ref o_5, .ref o_6, .int 1])), (o_5, .inl (o_7, 4, .inl (fun _ => 0))), (o_6, .inl (o_8, 18, .inl (fun _ => 0))), (q_9, .inr (3, [.ref o_13, .ref o_14, .int 1])), (o_13, .inl (o_15, 4, .inl (fun _ => 0))), (o_14, .inl (o_16, 18, .inl (fun _ => 0))), (q_17, .inr (3, [.ref o_21, .ref o_22, .int 1])), (o_21, .inl (o_23, 4, .inl (fun _ => 0))), (o_22, .inl (o_24, 18, .inl (fun _ => 0))), (q_25, .inr (9, [.ref o_29, .ref o_30, .ref o_31, .int 0])), (o_29, .inl (o_32, 960, .inl (fun _ => 0))), (o_30, .inl (o_33, 12, .inl (fun _ => 0))), (q_34, .inr (9, [.ref o_38, .ref o_39, .ref o_40, .int 0])), (o_38, .inl (o_41, 960, .inl (fun _ => 0))), (o_39, .inl (o_42, 12, .inl (fun _ => 0))), (q_43, .inr (0, [.ref o_47, .ref o_48, .ref o_49])), (o_47, .inl (o_50, 6, .inl o_53)), (o_48, .inl (o_51, 6, .inl (fun _ => 0))), (o_49, .inl (o_52, 360, .inr (.inl (fun _ => 0)))), (q_54, .inr (6, [.ref o_58, .ref o_59, .ref o_60, .ref o_61, .ref o_62, .ref o_63, .ref o_64, .ref o_65, .ref o_66, .ref o_67, .ref o_68, .int 0])), (o_65, .inl (o_69, 256, .inl o_70)), (q_71, .inl (k_72, 100, .inl (fun _ => 0))), (q_73, .inr (4, [.null, .null, .null, .int 0, .int 0, .int 0, .int 0, .int 0]))] H := hP
  have hD : va_D A [(x, .inr (11, [.ref q_1, .ref q_9, .ref q_17, .ref q_25, .ref q_34, .ref q_43, .ref q_54, .ref q_71, .null, .null, .null, .null, .null, .null, .null, .int 0, .int 0])), (q_1, .inr (3, [.ref o_5, .ref o_6, .int 1])), (o_5, .inl (o_7, 4, .inl (fun _ => 0))), (o_6, .inl (o_8, 18, .inl (fun _ => 0))), (q_9, .inr (3, [.ref o_13, .ref o_14, .int 1])), (o_13, .inl (o_15, 4, .inl (fun _ => 0))), (o_14, .inl (o_16, 18, .inl (fun _ => 0))), (q_17, .inr (3, [.ref o_21, .ref o_22, .int 1])), (o_21, .inl (o_23, 4, .inl (fun _ => 0))), (o_22, .inl (o_24, 18, .inl (fun _ => 0))), (q_25, .inr (9, [.ref o_29, .ref o_30, .ref o_31, .int 0])), (o_29, .inl (o_32, 960, .inl (fun _ => 0))), (o_30, .inl (o_33, 12, .inl (fun _ => 0))), (q_34, .inr (9, [.ref o_38, .ref o_39, .ref o_40, .int 0])), (o_38, .inl (o_41, 960, .inl (fun _ => 0))), (o_39, .inl (o_42, 12, .inl (fun _ => 0))), (q_43, .inr (0, [.ref o_47, .ref o_48, .ref o_49])), (o_47, .inl (o_50, 6, .inl o_53)), (o_48, .inl (o_51, 6, .inl (fun _ => 0))), (o_49, .inl (o_52, 360, .inr (.inl (fun _ => 0)))), (q_54, .inr (6, [.ref o_58, .ref o_59, .ref o_60, .ref o_61, .ref o_62, .ref o_63, .ref o_64, .ref o_65, .ref o_66, .ref o_67, .ref o_68, .int 0])), (o_65, .inl (o_69, 256, .inl o_70)), (q_71, .inl (k_72, 100, .inl (fun _ => 0))), (q_73, .inr (4, [.null, .null, .null, .int 0, .int 0, .int 0, .int 0, .int 0]))] := hD
  refine W.widen (k := 35) (n := 16254) (by decide) (Nat.le_of_ble_eq_true rfl) ?_
  refine lv_dup hx hb dX11_init_93 rfl ?_
  refine lv_aload_n hx hb dX11_init_94 rfl (lv_at hl 0 rfl) ?_
  refine va_get (D := D) (ci := 11) (v := .ref q_54) (C := RX11) (T := TX11) (N := 17) hx hb hts hiX11 hown hK hP 0 rfl rfl 6 (by decide) (hts (.fieldLink RX11 44 "DynamicLogicProver" "pool" "LDynamicLogicProver$Pool;") (mo_X11_init 29 rfl)) (fun _ h9 => h9) rfl dX11_init_95 ?_
  refine lv_aload_n hx hb dX11_init_98 rfl (lv_at hl 0 rfl) ?_
  refine va_get (D := D) (ci := 11) (v := .ref q_71) (C := RX11) (T := TX11) (N := 17) hx hb hts hiX11 hown hK hP 0 rfl rfl 7 (by decide) (hts (.fieldLink RX11 48 "DynamicLogicProver" "text" "[I") (mo_X11_init 31 rfl)) (fun _ h9 => h9) rfl dX11_init_99 ?_
  refine kc_Iv (As := [.ref q_54, .ref q_71]) (rest := [.ref q_73, .ref x]) (wr := [(x, .inr (11, [.ref q_1, .ref q_9, .ref q_17, .ref q_25, .ref q_34, .ref q_43, .ref q_54, .ref q_71, .null, .null, .null, .null, .null, .null, .null, .int 0, .int 0])), (q_1, .inr (3, [.ref o_5, .ref o_6, .int 1])), (o_5, .inl (o_7, 4, .inl (fun _ => 0))), (o_6, .inl (o_8, 18, .inl (fun _ => 0))), (q_9, .inr (3, [.ref o_13, .ref o_14, .int 1])), (o_13, .inl (o_15, 4, .inl (fun _ => 0))), (o_14, .inl (o_16, 18, .inl (fun _ => 0))), (q_17, .inr (3, [.ref o_21, .ref o_22, .int 1])), (o_21, .inl (o_23, 4, .inl (fun _ => 0))), (o_22, .inl (o_24, 18, .inl (fun _ => 0))), (q_25, .inr (9, [.ref o_29, .ref o_30, .ref o_31, .int 0])), (o_29, .inl (o_32, 960, .inl (fun _ => 0))), (o_30, .inl (o_33, 12, .inl (fun _ => 0))), (q_34, .inr (9, [.ref o_38, .ref o_39, .ref o_40, .int 0])), (o_38, .inl (o_41, 960, .inl (fun _ => 0))), (o_39, .inl (o_42, 12, .inl (fun _ => 0))), (q_43, .inr (0, [.ref o_47, .ref o_48, .ref o_49])), (o_47, .inl (o_50, 6, .inl o_53)), (o_48, .inl (o_51, 6, .inl (fun _ => 0))), (o_49, .inl (o_52, 360, .inr (.inl (fun _ => 0)))), (q_54, .inr (6, [.ref o_58, .ref o_59, .ref o_60, .ref o_61, .ref o_62, .ref o_63, .ref o_64, .ref o_65, .ref o_66, .ref o_67, .ref o_68, .int 0])), (o_65, .inl (o_69, 256, .inl o_70)), (q_71, .inl (k_72, 100, .inl (fun _ => 0)))]) ⟨hx, hb, hml, hown, hts⟩ (ct_X4_init l D q_73 q_54 q_71 _ ) (cwI 2 hts (goodIn_sub mb_X11_init_4 gw_X4_init) rfl rfl rfl (hts (.initialized RX4) (mo_X11_init 34 rfl)) (hts (.methodLink RX11 54 yX4_init) (mo_X11_init 35 rfl)) (hts (.instanceMethod yX4_init) (mo_X11_init 36 rfl)) rfl hd_X4_init ⟨Nat.le_of_ble_eq_true rfl, Nat.le_of_ble_eq_true rfl⟩) hK hN hP hD hS hA [23] [0, 1, 2, 3, 4, 5, 6, 7, 8, 9, 10, 11, 12, 13, 14, 15, 16, 17, 18, 19, 20, 21, 22] [] rfl rfl (by decide) (by decide) (by decide) rfl rfl hl.1 rfl (Nat.le_of_ble_eq_true rfl) dX11_init_102 ⟨Nat.le_of_ble_eq_true rfl, Nat.le_of_ble_eq_true rfl⟩ (fun u_75 H locs w_76 hP hD hK1 hS => ?_)
  obtain ⟨o_77, o_78⟩ := u_75
  have hK : va_K D vwCl [(o_7, .int), (o_8, .int), (o_15, .int), (o_16, .int), (o_23, .int), (o_24, .int), (o_32, .int), (o_33, .int), (o_41, .int), (o_42, .int), (o_50, .int), (o_51, .int), (o_52, .long), (o_69, .int), (k_72, .int), (o_78, .int)] s := hK.app hK1
  have hP : va_P D vwCl [(x, .inr (11, [.ref q_1, .ref q_9, .ref q_17, .ref q_25, .ref q_34, .ref q_43, .ref q_54, .ref q_71, .null, .null, .null, .null, .null, .null, .null, .int 0, .int 0])), (q_1, .inr (3, [.ref o_5, .ref o_6, .int 1])), (o_5, .inl (o_7, 4, .inl (fun _ => 0))), (o_6, .inl (o_8, 18, .inl (fun _ => 0))), (q_9, .inr (3, [.ref o_13, .ref o_14, .int 1])), (o_13, .inl (o_15, 4, .inl (fun _ => 0))), (o_14, .inl (o_16, 18, .inl (fun _ => 0))), (q_17, .inr (3, [.ref o_21, .ref o_22, .int 1])), (o_21, .inl (o_23, 4, .inl (fun _ => 0))), (o_22, .inl (o_24, 18, .inl (fun _ => 0))), (q_25, .inr (9, [.ref o_29, .ref o_30, .ref o_31, .int 0])), (o_29, .inl (o_32, 960, .inl (fun _ => 0))), (o_30, .inl (o_33, 12, .inl (fun _ => 0))), (q_34, .inr (9, [.ref o_38, .ref o_39, .ref o_40, .int 0])), (o_38, .inl (o_41, 960, .inl (fun _ => 0))), (o_39, .inl (o_42, 12, .inl (fun _ => 0))), (q_43, .inr (0, [.ref o_47, .ref o_48, .ref o_49])), (o_47, .inl (o_50, 6, .inl o_53)), (o_48, .inl (o_51, 6, .inl (fun _ => 0))), (o_49, .inl (o_52, 360, .inr (.inl (fun _ => 0)))), (q_54, .inr (6, [.ref o_58, .ref o_59, .ref o_60, .ref o_61, .ref o_62, .ref o_63, .ref o_64, .ref o_65, .ref o_66, .ref o_67, .ref o_68, .int 0])), (o_65, .inl (o_69, 256, .inl o_70)), (q_71, .inl (k_72, 100, .inl (fun _ => 0))), (q_73, .inr (4, [.ref q_54, .ref q_71, .ref o_77, .int 0, .int 0, .int 0, .int 0, .int (-1)])), (o_77, .inl (o_78, 101, .inl (fun _ => 0)))] H := hP
  have hD : va_D A [(x, .inr (11, [.ref q_1, .ref q_9, .ref q_17, .ref q_25, .ref q_34, .ref q_43, .ref q_54, .ref q_71, .null, .null, .null, .null, .null, .null, .null, .int 0, .int 0])), (q_1, .inr (3, [.ref o_5, .ref o_6, .int 1])), (o_5, .inl (o_7, 4, .inl (fun _ => 0))), (o_6, .inl (o_8, 18, .inl (fun _ => 0))), (q_9, .inr (3, [.ref o_13, .ref o_14, .int 1])), (o_13, .inl (o_15, 4, .inl (fun _ => 0))), (o_14, .inl (o_16, 18, .inl (fun _ => 0))), (q_17, .inr (3, [.ref o_21, .ref o_22, .int 1])), (o_21, .inl (o_23, 4, .inl (fun _ => 0))), (o_22, .inl (o_24, 18, .inl (fun _ => 0))), (q_25, .inr (9, [.ref o_29, .ref o_30, .ref o_31, .int 0])), (o_29, .inl (o_32, 960, .inl (fun _ => 0))), (o_30, .inl (o_33, 12, .inl (fun _ => 0))), (q_34, .inr (9, [.ref o_38, .ref o_39, .ref o_40, .int 0])), (o_38, .inl (o_41, 960, .inl (fun _ => 0))), (o_39, .inl (o_42, 12, .inl (fun _ => 0))), (q_43, .inr (0, [.ref o_47, .ref o_48, .ref o_49])), (o_47, .inl (o_50, 6, .inl o_53)), (o_48, .inl (o_51, 6, .inl (fun _ => 0))), (o_49, .inl (o_52, 360, .inr (.inl (fun _ => 0)))), (q_54, .inr (6, [.ref o_58, .ref o_59, .ref o_60, .ref o_61, .ref o_62, .ref o_63, .ref o_64, .ref o_65, .ref o_66, .ref o_67, .ref o_68, .int 0])), (o_65, .inl (o_69, 256, .inl o_70)), (q_71, .inl (k_72, 100, .inl (fun _ => 0))), (q_73, .inr (4, [.ref q_54, .ref q_71, .ref o_77, .int 0, .int 0, .int 0, .int 0, .int (-1)])), (o_77, .inl (o_78, 101, .inl (fun _ => 0)))] := hD
  refine W.widen (k := 36) (n := 16355) (by decide) (Nat.le_of_ble_eq_true rfl) ?_
  refine va_putF (D := D) (ci := 11) (v := .ref q_73) (ty := .object "DynamicLogicProver$Parser") (C := RX11) (T := TX11) (N := 17) hx hb hts hiX11 tyX11 tyX11_ok nmX11 hown hK hP hD hS 0 rfl rfl 8 (by decide) (hts (.fieldLink RX11 57 "DynamicLogicProver" "parser" "LDynamicLogicProver$Parser;") (mo_X11_init 37 rfl)) (fun _ h9 => h9) rfl hin rfl (tyX11_ok 8 (by decide)) rfl rfl (Nat.le_of_ble_eq_true rfl) dX11_init_105 (fun H locs hP hD hS => ?_)
  have hP : va_P D vwCl [(x, .inr (11, [.ref q_1, .ref q_9, .ref q_17, .ref q_25, .ref q_34, .ref q_43, .ref q_54, .ref q_71, .ref q_73, .null, .null, .null, .null, .null, .null, .int 0, .int 0])), (q_1, .inr (3, [.ref o_5, .ref o_6, .int 1])), (o_5, .inl (o_7, 4, .inl (fun _ => 0))), (o_6, .inl (o_8, 18, .inl (fun _ => 0))), (q_9, .inr (3, [.ref o_13, .ref o_14, .int 1])), (o_13, .inl (o_15, 4, .inl (fun _ => 0))), (o_14, .inl (o_16, 18, .inl (fun _ => 0))), (q_17, .inr (3, [.ref o_21, .ref o_22, .int 1])), (o_21, .inl (o_23, 4, .inl (fun _ => 0))), (o_22, .inl (o_24, 18, .inl (fun _ => 0))), (q_25, .inr (9, [.ref o_29, .ref o_30, .ref o_31, .int 0])), (o_29, .inl (o_32, 960, .inl (fun _ => 0))), (o_30, .inl (o_33, 12, .inl (fun _ => 0))), (q_34, .inr (9, [.ref o_38, .ref o_39, .ref o_40, .int 0])), (o_38, .inl (o_41, 960, .inl (fun _ => 0))), (o_39, .inl (o_42, 12, .inl (fun _ => 0))), (q_43, .inr (0, [.ref o_47, .ref o_48, .ref o_49])), (o_47, .inl (o_50, 6, .inl o_53)), (o_48, .inl (o_51, 6, .inl (fun _ => 0))), (o_49, .inl (o_52, 360, .inr (.inl (fun _ => 0)))), (q_54, .inr (6, [.ref o_58, .ref o_59, .ref o_60, .ref o_61, .ref o_62, .ref o_63, .ref o_64, .ref o_65, .ref o_66, .ref o_67, .ref o_68, .int 0])), (o_65, .inl (o_69, 256, .inl o_70)), (q_71, .inl (k_72, 100, .inl (fun _ => 0))), (q_73, .inr (4, [.ref q_54, .ref q_71, .ref o_77, .int 0, .int 0, .int 0, .int 0, .int (-1)])), (o_77, .inl (o_78, 101, .inl (fun _ => 0)))] H := hP
  have hD : va_D A [(x, .inr (11, [.ref q_1, .ref q_9, .ref q_17, .ref q_25, .ref q_34, .ref q_43, .ref q_54, .ref q_71, .ref q_73, .null, .null, .null, .null, .null, .null, .int 0, .int 0])), (q_1, .inr (3, [.ref o_5, .ref o_6, .int 1])), (o_5, .inl (o_7, 4, .inl (fun _ => 0))), (o_6, .inl (o_8, 18, .inl (fun _ => 0))), (q_9, .inr (3, [.ref o_13, .ref o_14, .int 1])), (o_13, .inl (o_15, 4, .inl (fun _ => 0))), (o_14, .inl (o_16, 18, .inl (fun _ => 0))), (q_17, .inr (3, [.ref o_21, .ref o_22, .int 1])), (o_21, .inl (o_23, 4, .inl (fun _ => 0))), (o_22, .inl (o_24, 18, .inl (fun _ => 0))), (q_25, .inr (9, [.ref o_29, .ref o_30, .ref o_31, .int 0])), (o_29, .inl (o_32, 960, .inl (fun _ => 0))), (o_30, .inl (o_33, 12, .inl (fun _ => 0))), (q_34, .inr (9, [.ref o_38, .ref o_39, .ref o_40, .int 0])), (o_38, .inl (o_41, 960, .inl (fun _ => 0))), (o_39, .inl (o_42, 12, .inl (fun _ => 0))), (q_43, .inr (0, [.ref o_47, .ref o_48, .ref o_49])), (o_47, .inl (o_50, 6, .inl o_53)), (o_48, .inl (o_51, 6, .inl (fun _ => 0))), (o_49, .inl (o_52, 360, .inr (.inl (fun _ => 0)))), (q_54, .inr (6, [.ref o_58, .ref o_59, .ref o_60, .ref o_61, .ref o_62, .ref o_63, .ref o_64, .ref o_65, .ref o_66, .ref o_67, .ref o_68, .int 0])), (o_65, .inl (o_69, 256, .inl o_70)), (q_71, .inl (k_72, 100, .inl (fun _ => 0))), (q_73, .inr (4, [.ref q_54, .ref q_71, .ref o_77, .int 0, .int 0, .int 0, .int 0, .int (-1)])), (o_77, .inl (o_78, 101, .inl (fun _ => 0)))] := hD
  refine lv_aload_n hx hb dX11_init_108 rfl (lv_at hl 0 rfl) ?_
  refine va_new (ci := 7) (fs := [.null, .null, .null]) (C := RX7) (T := TX7) (N := 3) hx hb hts hiX7 tyX7 tyX7_ok hown (hts (.classLink RX11 61 RX7) (mo_X11_init 38 rfl)) (hts (.instantiable RX7 3) (mo_X11_init 39 rfl)) (hts (.initialized RX7) (mo_X11_init 40 rfl)) hK hP hD hS hA rfl (fun j hj => by rcases (show j = 0 ∨ j = 1 ∨ j = 2 by omega) with rfl | rfl | rfl <;> rfl) (Nat.le_of_ble_eq_true rfl) (Nat.le_of_ble_eq_true rfl) dX11_init_109 (fun q_79 H hP hD hS => ?_)
  have hP : va_P D vwCl [(x, .inr (11, [.ref q_1, .ref q_9, .ref q_17, .ref q_25, .ref q_34, .ref q_43, .ref q_54, .ref q_71, .ref q_73, .null, .null, .null, .null, .null, .null, .int 0, .int 0])), (q_1, .inr (3, [.ref o_5, .ref o_6, .int 1])), (o_5, .inl (o_7, 4, .inl (fun _ => 0))), (o_6, .inl (o_8, 18, .inl (fun _ => 0))), (q_9, .inr (3, [.ref o_13, .ref o_14, .int 1])), (o_13, .inl (o_15, 4, .inl (fun _ => 0))), (o_14, .inl (o_16, 18, .inl (fun _ => 0))), (q_17, .inr (3, [.ref o_21, .ref o_22, .int 1])), (o_21, .inl (o_23, 4, .inl (fun _ => 0))), (o_22, .inl (o_24, 18, .inl (fun _ => 0))), (q_25, .inr (9, [.ref o_29, .ref o_30, .ref o_31, .int 0])), (o_29, .inl (o_32, 960, .inl (fun _ => 0))), (o_30, .inl (o_33, 12, .inl (fun _ => 0))), (q_34, .inr (9, [.ref o_38, .ref o_39, .ref o_40, .int 0])), (o_38, .inl (o_41, 960, .inl (fun _ => 0))), (o_39, .inl (o_42, 12, .inl (fun _ => 0))), (q_43, .inr (0, [.ref o_47, .ref o_48, .ref o_49])), (o_47, .inl (o_50, 6, .inl o_53)), (o_48, .inl (o_51, 6, .inl (fun _ => 0))), (o_49, .inl (o_52, 360, .inr (.inl (fun _ => 0)))), (q_54, .inr (6, [.ref o_58, .ref o_59, .ref o_60, .ref o_61, .ref o_62, .ref o_63, .ref o_64, .ref o_65, .ref o_66, .ref o_67, .ref o_68, .int 0])), (o_65, .inl (o_69, 256, .inl o_70)), (q_71, .inl (k_72, 100, .inl (fun _ => 0))), (q_73, .inr (4, [.ref q_54, .ref q_71, .ref o_77, .int 0, .int 0, .int 0, .int 0, .int (-1)])), (o_77, .inl (o_78, 101, .inl (fun _ => 0))), (q_79, .inr (7, [.null, .null, .null]))] H := hP
  have hD : va_D A [(x, .inr (11, [.ref q_1, .ref q_9, .ref q_17, .ref q_25, .ref q_34, .ref q_43, .ref q_54, .ref q_71, .ref q_73, .null, .null, .null, .null, .null, .null, .int 0, .int 0])), (q_1, .inr (3, [.ref o_5, .ref o_6, .int 1])), (o_5, .inl (o_7, 4, .inl (fun _ => 0))), (o_6, .inl (o_8, 18, .inl (fun _ => 0))), (q_9, .inr (3, [.ref o_13, .ref o_14, .int 1])), (o_13, .inl (o_15, 4, .inl (fun _ => 0))), (o_14, .inl (o_16, 18, .inl (fun _ => 0))), (q_17, .inr (3, [.ref o_21, .ref o_22, .int 1])), (o_21, .inl (o_23, 4, .inl (fun _ => 0))), (o_22, .inl (o_24, 18, .inl (fun _ => 0))), (q_25, .inr (9, [.ref o_29, .ref o_30, .ref o_31, .int 0])), (o_29, .inl (o_32, 960, .inl (fun _ => 0))), (o_30, .inl (o_33, 12, .inl (fun _ => 0))), (q_34, .inr (9, [.ref o_38, .ref o_39, .ref o_40, .int 0])), (o_38, .inl (o_41, 960, .inl (fun _ => 0))), (o_39, .inl (o_42, 12, .inl (fun _ => 0))), (q_43, .inr (0, [.ref o_47, .ref o_48, .ref o_49])), (o_47, .inl (o_50, 6, .inl o_53)), (o_48, .inl (o_51, 6, .inl (fun _ => 0))), (o_49, .inl (o_52, 360, .inr (.inl (fun _ => 0)))), (q_54, .inr (6, [.ref o_58, .ref o_59, .ref o_60, .ref o_61, .ref o_62, .ref o_63, .ref o_64, .ref o_65, .ref o_66, .ref o_67, .ref o_68, .int 0])), (o_65, .inl (o_69, 256, .inl o_70)), (q_71, .inl (k_72, 100, .inl (fun _ => 0))), (q_73, .inr (4, [.ref q_54, .ref q_71, .ref o_77, .int 0, .int 0, .int 0, .int 0, .int (-1)])), (o_77, .inl (o_78, 101, .inl (fun _ => 0))), (q_79, .inr (7, [.null, .null, .null]))] := hD
  refine W.widen (k := 37) (n := 16358) (by decide) (Nat.le_of_ble_eq_true rfl) ?_
  refine lv_dup hx hb dX11_init_112 rfl ?_
  refine lv_aload_n hx hb dX11_init_113 rfl (lv_at hl 0 rfl) ?_
  refine va_get (D := D) (ci := 11) (v := .ref q_54) (C := RX11) (T := TX11) (N := 17) hx hb hts hiX11 hown hK hP 0 rfl rfl 6 (by decide) (hts (.fieldLink RX11 44 "DynamicLogicProver" "pool" "LDynamicLogicProver$Pool;") (mo_X11_init 29 rfl)) (fun _ h9 => h9) rfl dX11_init_114 ?_
  refine kc_Iv (As := [.ref q_54]) (rest := [.ref q_79, .ref x]) (wr := [(x, .inr (11, [.ref q_1, .ref q_9, .ref q_17, .ref q_25, .ref q_34, .ref q_43, .ref q_54, .ref q_71, .ref q_73, .null, .null, .null, .null, .null, .null, .int 0, .int 0])), (q_1, .inr (3, [.ref o_5, .ref o_6, .int 1])), (o_5, .inl (o_7, 4, .inl (fun _ => 0))), (o_6, .inl (o_8, 18, .inl (fun _ => 0))), (q_9, .inr (3, [.ref o_13, .ref o_14, .int 1])), (o_13, .inl (o_15, 4, .inl (fun _ => 0))), (o_14, .inl (o_16, 18, .inl (fun _ => 0))), (q_17, .inr (3, [.ref o_21, .ref o_22, .int 1])), (o_21, .inl (o_23, 4, .inl (fun _ => 0))), (o_22, .inl (o_24, 18, .inl (fun _ => 0))), (q_25, .inr (9, [.ref o_29, .ref o_30, .ref o_31, .int 0])), (o_29, .inl (o_32, 960, .inl (fun _ => 0))), (o_30, .inl (o_33, 12, .inl (fun _ => 0))), (q_34, .inr (9, [.ref o_38, .ref o_39, .ref o_40, .int 0])), (o_38, .inl (o_41, 960, .inl (fun _ => 0))), (o_39, .inl (o_42, 12, .inl (fun _ => 0))), (q_43, .inr (0, [.ref o_47, .ref o_48, .ref o_49])), (o_47, .inl (o_50, 6, .inl o_53)), (o_48, .inl (o_51, 6, .inl (fun _ => 0))), (o_49, .inl (o_52, 360, .inr (.inl (fun _ => 0)))), (q_54, .inr (6, [.ref o_58, .ref o_59, .ref o_60, .ref o_61, .ref o_62, .ref o_63, .ref o_64, .ref o_65, .ref o_66, .ref o_67, .ref o_68, .int 0])), (o_65, .inl (o_69, 256, .inl o_70)), (q_71, .inl (k_72, 100, .inl (fun _ => 0))), (q_73, .inr (4, [.ref q_54, .ref q_71, .ref o_77, .int 0, .int 0, .int 0, .int 0, .int (-1)])), (o_77, .inl (o_78, 101, .inl (fun _ => 0)))]) ⟨hx, hb, hml, hown, hts⟩ (ct_X7_init l D q_79 q_54 _ ) (cwI 1 hts (goodIn_sub mb_X11_init_5 gw_X7_init) rfl rfl rfl (hts (.initialized RX7) (mo_X11_init 40 rfl)) (hts (.methodLink RX11 63 yX7_init) (mo_X11_init 41 rfl)) (hts (.instanceMethod yX7_init) (mo_X11_init 42 rfl)) rfl hd_X7_init ⟨Nat.le_of_ble_eq_true rfl, Nat.le_of_ble_eq_true rfl⟩) hK hN hP hD hS hA [25] [0, 1, 2, 3, 4, 5, 6, 7, 8, 9, 10, 11, 12, 13, 14, 15, 16, 17, 18, 19, 20, 21, 22, 23, 24] [] rfl rfl (by decide) (by decide) (by decide) rfl rfl hl.1 rfl (Nat.le_of_ble_eq_true rfl) dX11_init_117 ⟨Nat.le_of_ble_eq_true rfl, Nat.le_of_ble_eq_true rfl⟩ (fun u_81 H locs w_82 hP hD hK1 hS => ?_)
  have hP : va_P D vwCl [(x, .inr (11, [.ref q_1, .ref q_9, .ref q_17, .ref q_25, .ref q_34, .ref q_43, .ref q_54, .ref q_71, .ref q_73, .null, .null, .null, .null, .null, .null, .int 0, .int 0])), (q_1, .inr (3, [.ref o_5, .ref o_6, .int 1])), (o_5, .inl (o_7, 4, .inl (fun _ => 0))), (o_6, .inl (o_8, 18, .inl (fun _ => 0))), (q_9, .inr (3, [.ref o_13, .ref o_14, .int 1])), (o_13, .inl (o_15, 4, .inl (fun _ => 0))), (o_14, .inl (o_16, 18, .inl (fun _ => 0))), (q_17, .inr (3, [.ref o_21, .ref o_22, .int 1])), (o_21, .inl (o_23, 4, .inl (fun _ => 0))), (o_22, .inl (o_24, 18, .inl (fun _ => 0))), (q_25, .inr (9, [.ref o_29, .ref o_30, .ref o_31, .int 0])), (o_29, .inl (o_32, 960, .inl (fun _ => 0))), (o_30, .inl (o_33, 12, .inl (fun _ => 0))), (q_34, .inr (9, [.ref o_38, .ref o_39, .ref o_40, .int 0])), (o_38, .inl (o_41, 960, .inl (fun _ => 0))), (o_39, .inl (o_42, 12, .inl (fun _ => 0))), (q_43, .inr (0, [.ref o_47, .ref o_48, .ref o_49])), (o_47, .inl (o_50, 6, .inl o_53)), (o_48, .inl (o_51, 6, .inl (fun _ => 0))), (o_49, .inl (o_52, 360, .inr (.inl (fun _ => 0)))), (q_54, .inr (6, [.ref o_58, .ref o_59, .ref o_60, .ref o_61, .ref o_62, .ref o_63, .ref o_64, .ref o_65, .ref o_66, .ref o_67, .ref o_68, .int 0])), (o_65, .inl (o_69, 256, .inl o_70)), (q_71, .inl (k_72, 100, .inl (fun _ => 0))), (q_73, .inr (4, [.ref q_54, .ref q_71, .ref o_77, .int 0, .int 0, .int 0, .int 0, .int (-1)])), (o_77, .inl (o_78, 101, .inl (fun _ => 0)))] H := hP
  have hD : va_D A [(x, .inr (11, [.ref q_1, .ref q_9, .ref q_17, .ref q_25, .ref q_34, .ref q_43, .ref q_54, .ref q_71, .ref q_73, .null, .null, .null, .null, .null, .null, .int 0, .int 0])), (q_1, .inr (3, [.ref o_5, .ref o_6, .int 1])), (o_5, .inl (o_7, 4, .inl (fun _ => 0))), (o_6, .inl (o_8, 18, .inl (fun _ => 0))), (q_9, .inr (3, [.ref o_13, .ref o_14, .int 1])), (o_13, .inl (o_15, 4, .inl (fun _ => 0))), (o_14, .inl (o_16, 18, .inl (fun _ => 0))), (q_17, .inr (3, [.ref o_21, .ref o_22, .int 1])), (o_21, .inl (o_23, 4, .inl (fun _ => 0))), (o_22, .inl (o_24, 18, .inl (fun _ => 0))), (q_25, .inr (9, [.ref o_29, .ref o_30, .ref o_31, .int 0])), (o_29, .inl (o_32, 960, .inl (fun _ => 0))), (o_30, .inl (o_33, 12, .inl (fun _ => 0))), (q_34, .inr (9, [.ref o_38, .ref o_39, .ref o_40, .int 0])), (o_38, .inl (o_41, 960, .inl (fun _ => 0))), (o_39, .inl (o_42, 12, .inl (fun _ => 0))), (q_43, .inr (0, [.ref o_47, .ref o_48, .ref o_49])), (o_47, .inl (o_50, 6, .inl o_53)), (o_48, .inl (o_51, 6, .inl (fun _ => 0))), (o_49, .inl (o_52, 360, .inr (.inl (fun _ => 0)))), (q_54, .inr (6, [.ref o_58, .ref o_59, .ref o_60, .ref o_61, .ref o_62, .ref o_63, .ref o_64, .ref o_65, .ref o_66, .ref o_67, .ref o_68, .int 0])), (o_65, .inl (o_69, 256, .inl o_70)), (q_71, .inl (k_72, 100, .inl (fun _ => 0))), (q_73, .inr (4, [.ref q_54, .ref q_71, .ref o_77, .int 0, .int 0, .int 0, .int 0, .int (-1)])), (o_77, .inl (o_78, 101, .inl (fun _ => 0)))] := hD
  refine W.widen (k := 39) (n := 18406) (by decide) (Nat.le_of_ble_eq_true rfl) ?_
  refine va_putF (D := D) (ci := 11) (v := .ref q_79) (ty := .object "DynamicLogicProver$Rewriter") (C := RX11) (T := TX11) (N := 17) hx hb hts hiX11 tyX11 tyX11_ok nmX11 hown hK hP hD hS 0 rfl rfl 9 (by decide) (hts (.fieldLink RX11 66 "DynamicLogicProver" "rewriter" "LDynamicLogicProver$Rewriter;") (mo_X11_init 43 rfl)) (fun _ h9 => h9) rfl hin rfl (tyX11_ok 9 (by decide)) rfl rfl (Nat.le_of_ble_eq_true rfl) dX11_init_120 (fun H locs hP hD hS => ?_)
  have hP : va_P D vwCl [(x, .inr (11, [.ref q_1, .ref q_9, .ref q_17, .ref q_25, .ref q_34, .ref q_43, .ref q_54, .ref q_71, .ref q_73, .ref q_79, .null, .null, .null, .null, .null, .int 0, .int 0])), (q_1, .inr (3, [.ref o_5, .ref o_6, .int 1])), (o_5, .inl (o_7, 4, .inl (fun _ => 0))), (o_6, .inl (o_8, 18, .inl (fun _ => 0))), (q_9, .inr (3, [.ref o_13, .ref o_14, .int 1])), (o_13, .inl (o_15, 4, .inl (fun _ => 0))), (o_14, .inl (o_16, 18, .inl (fun _ => 0))), (q_17, .inr (3, [.ref o_21, .ref o_22, .int 1])), (o_21, .inl (o_23, 4, .inl (fun _ => 0))), (o_22, .inl (o_24, 18, .inl (fun _ => 0))), (q_25, .inr (9, [.ref o_29, .ref o_30, .ref o_31, .int 0])), (o_29, .inl (o_32, 960, .inl (fun _ => 0))), (o_30, .inl (o_33, 12, .inl (fun _ => 0))), (q_34, .inr (9, [.ref o_38, .ref o_39, .ref o_40, .int 0])), (o_38, .inl (o_41, 960, .inl (fun _ => 0))), (o_39, .inl (o_42, 12, .inl (fun _ => 0))), (q_43, .inr (0, [.ref o_47, .ref o_48, .ref o_49])), (o_47, .inl (o_50, 6, .inl o_53)), (o_48, .inl (o_51, 6, .inl (fun _ => 0))), (o_49, .inl (o_52, 360, .inr (.inl (fun _ => 0)))), (q_54, .inr (6, [.ref o_58, .ref o_59, .ref o_60, .ref o_61, .ref o_62, .ref o_63, .ref o_64, .ref o_65, .ref o_66, .ref o_67, .ref o_68, .int 0])), (o_65, .inl (o_69, 256, .inl o_70)), (q_71, .inl (k_72, 100, .inl (fun _ => 0))), (q_73, .inr (4, [.ref q_54, .ref q_71, .ref o_77, .int 0, .int 0, .int 0, .int 0, .int (-1)])), (o_77, .inl (o_78, 101, .inl (fun _ => 0)))] H := hP
  have hD : va_D A [(x, .inr (11, [.ref q_1, .ref q_9, .ref q_17, .ref q_25, .ref q_34, .ref q_43, .ref q_54, .ref q_71, .ref q_73, .ref q_79, .null, .null, .null, .null, .null, .int 0, .int 0])), (q_1, .inr (3, [.ref o_5, .ref o_6, .int 1])), (o_5, .inl (o_7, 4, .inl (fun _ => 0))), (o_6, .inl (o_8, 18, .inl (fun _ => 0))), (q_9, .inr (3, [.ref o_13, .ref o_14, .int 1])), (o_13, .inl (o_15, 4, .inl (fun _ => 0))), (o_14, .inl (o_16, 18, .inl (fun _ => 0))), (q_17, .inr (3, [.ref o_21, .ref o_22, .int 1])), (o_21, .inl (o_23, 4, .inl (fun _ => 0))), (o_22, .inl (o_24, 18, .inl (fun _ => 0))), (q_25, .inr (9, [.ref o_29, .ref o_30, .ref o_31, .int 0])), (o_29, .inl (o_32, 960, .inl (fun _ => 0))), (o_30, .inl (o_33, 12, .inl (fun _ => 0))), (q_34, .inr (9, [.ref o_38, .ref o_39, .ref o_40, .int 0])), (o_38, .inl (o_41, 960, .inl (fun _ => 0))), (o_39, .inl (o_42, 12, .inl (fun _ => 0))), (q_43, .inr (0, [.ref o_47, .ref o_48, .ref o_49])), (o_47, .inl (o_50, 6, .inl o_53)), (o_48, .inl (o_51, 6, .inl (fun _ => 0))), (o_49, .inl (o_52, 360, .inr (.inl (fun _ => 0)))), (q_54, .inr (6, [.ref o_58, .ref o_59, .ref o_60, .ref o_61, .ref o_62, .ref o_63, .ref o_64, .ref o_65, .ref o_66, .ref o_67, .ref o_68, .int 0])), (o_65, .inl (o_69, 256, .inl o_70)), (q_71, .inl (k_72, 100, .inl (fun _ => 0))), (q_73, .inr (4, [.ref q_54, .ref q_71, .ref o_77, .int 0, .int 0, .int 0, .int 0, .int (-1)])), (o_77, .inl (o_78, 101, .inl (fun _ => 0)))] := hD
  refine lv_aload_n hx hb dX11_init_123 rfl (lv_at hl 0 rfl) ?_
  refine va_new (ci := 10) (fs := [.null, .null, .null, .int 0, .int 0]) (C := RX10) (T := TX10) (N := 5) hx hb hts hiX10 tyX10 tyX10_ok hown (hts (.classLink RX11 70 RX10) (mo_X11_init 44 rfl)) (hts (.instantiable RX10 5) (mo_X11_init 45 rfl)) (hts (.initialized RX10) (mo_X11_init 46 rfl)) hK hP hD hS hA rfl (fun j hj => by rcases (show j = 0 ∨ j = 1 ∨ j = 2 ∨ j = 3 ∨ j = 4 by omega) with rfl | rfl | rfl | rfl | rfl <;> rfl) (Nat.le_of_ble_eq_true rfl) (Nat.le_of_ble_eq_true rfl) dX11_init_124 (fun q_83 H hP hD hS => ?_)
  have hP : va_P D vwCl [(x, .inr (11, [.ref q_1, .ref q_9, .ref q_17, .ref q_25, .ref q_34, .ref q_43, .ref q_54, .ref q_71, .ref q_73, .ref q_79, .null, .null, .null, .null, .null, .int 0, .int 0])), (q_1, .inr (3, [.ref o_5, .ref o_6, .int 1])), (o_5, .inl (o_7, 4, .inl (fun _ => 0))), (o_6, .inl (o_8, 18, .inl (fun _ => 0))), (q_9, .inr (3, [.ref o_13, .ref o_14, .int 1])), (o_13, .inl (o_15, 4, .inl (fun _ => 0))), (o_14, .inl (o_16, 18, .inl (fun _ => 0))), (q_17, .inr (3, [.ref o_21, .ref o_22, .int 1])), (o_21, .inl (o_23, 4, .inl (fun _ => 0))), (o_22, .inl (o_24, 18, .inl (fun _ => 0))), (q_25, .inr (9, [.ref o_29, .ref o_30, .ref o_31, .int 0])), (o_29, .inl (o_32, 960, .inl (fun _ => 0))), (o_30, .inl (o_33, 12, .inl (fun _ => 0))), (q_34, .inr (9, [.ref o_38, .ref o_39, .ref o_40, .int 0])), (o_38, .inl (o_41, 960, .inl (fun _ => 0))), (o_39, .inl (o_42, 12, .inl (fun _ => 0))), (q_43, .inr (0, [.ref o_47, .ref o_48, .ref o_49])), (o_47, .inl (o_50, 6, .inl o_53)), (o_48, .inl (o_51, 6, .inl (fun _ => 0))), (o_49, .inl (o_52, 360, .inr (.inl (fun _ => 0)))), (q_54, .inr (6, [.ref o_58, .ref o_59, .ref o_60, .ref o_61, .ref o_62, .ref o_63, .ref o_64, .ref o_65, .ref o_66, .ref o_67, .ref o_68, .int 0])), (o_65, .inl (o_69, 256, .inl o_70)), (q_71, .inl (k_72, 100, .inl (fun _ => 0))), (q_73, .inr (4, [.ref q_54, .ref q_71, .ref o_77, .int 0, .int 0, .int 0, .int 0, .int (-1)])), (o_77, .inl (o_78, 101, .inl (fun _ => 0))), (q_83, .inr (10, [.null, .null, .null, .int 0, .int 0]))] H := hP
  have hD : va_D A [(x, .inr (11, [.ref q_1, .ref q_9, .ref q_17, .ref q_25, .ref q_34, .ref q_43, .ref q_54, .ref q_71, .ref q_73, .ref q_79, .null, .null, .null, .null, .null, .int 0, .int 0])), (q_1, .inr (3, [.ref o_5, .ref o_6, .int 1])), (o_5, .inl (o_7, 4, .inl (fun _ => 0))), (o_6, .inl (o_8, 18, .inl (fun _ => 0))), (q_9, .inr (3, [.ref o_13, .ref o_14, .int 1])), (o_13, .inl (o_15, 4, .inl (fun _ => 0))), (o_14, .inl (o_16, 18, .inl (fun _ => 0))), (q_17, .inr (3, [.ref o_21, .ref o_22, .int 1])), (o_21, .inl (o_23, 4, .inl (fun _ => 0))), (o_22, .inl (o_24, 18, .inl (fun _ => 0))), (q_25, .inr (9, [.ref o_29, .ref o_30, .ref o_31, .int 0])), (o_29, .inl (o_32, 960, .inl (fun _ => 0))), (o_30, .inl (o_33, 12, .inl (fun _ => 0))), (q_34, .inr (9, [.ref o_38, .ref o_39, .ref o_40, .int 0])), (o_38, .inl (o_41, 960, .inl (fun _ => 0))), (o_39, .inl (o_42, 12, .inl (fun _ => 0))), (q_43, .inr (0, [.ref o_47, .ref o_48, .ref o_49])), (o_47, .inl (o_50, 6, .inl o_53)), (o_48, .inl (o_51, 6, .inl (fun _ => 0))), (o_49, .inl (o_52, 360, .inr (.inl (fun _ => 0)))), (q_54, .inr (6, [.ref o_58, .ref o_59, .ref o_60, .ref o_61, .ref o_62, .ref o_63, .ref o_64, .ref o_65, .ref o_66, .ref o_67, .ref o_68, .int 0])), (o_65, .inl (o_69, 256, .inl o_70)), (q_71, .inl (k_72, 100, .inl (fun _ => 0))), (q_73, .inr (4, [.ref q_54, .ref q_71, .ref o_77, .int 0, .int 0, .int 0, .int 0, .int (-1)])), (o_77, .inl (o_78, 101, .inl (fun _ => 0))), (q_83, .inr (10, [.null, .null, .null, .int 0, .int 0]))] := hD
  refine W.widen (k := 40) (n := 18411) (by decide) (Nat.le_of_ble_eq_true rfl) ?_
  refine lv_dup hx hb dX11_init_127 rfl ?_
  refine lv_aload_n hx hb dX11_init_128 rfl (lv_at hl 0 rfl) ?_
  refine va_get (D := D) (ci := 11) (v := .ref q_54) (C := RX11) (T := TX11) (N := 17) hx hb hts hiX11 hown hK hP 0 rfl rfl 6 (by decide) (hts (.fieldLink RX11 44 "DynamicLogicProver" "pool" "LDynamicLogicProver$Pool;") (mo_X11_init 29 rfl)) (fun _ h9 => h9) rfl dX11_init_129 ?_
  refine kc_Iv (As := [.ref q_54]) (rest := [.ref q_83, .ref x]) (wr := [(x, .inr (11, [.ref q_1, .ref q_9, .ref q_17, .ref q_25, .ref q_34, .ref q_43, .ref q_54, .ref q_71, .ref q_73, .ref q_79, .null, .null, .null, .null, .null, .int 0, .int 0])), (q_1, .inr (3, [.ref o_5, .ref o_6, .int 1])), (o_5, .inl (o_7, 4, .inl (fun _ => 0))), (o_6, .inl (o_8, 18, .inl (fun _ => 0))), (q_9, .inr (3, [.ref o_13, .ref o_14, .int 1])), (o_13, .inl (o_15, 4, .inl (fun _ => 0))), (o_14, .inl (o_16, 18, .inl (fun _ => 0))), (q_17, .inr (3, [.ref o_21, .ref o_22, .int 1])), (o_21, .inl (o_23, 4, .inl (fun _ => 0))), (o_22, .inl (o_24, 18, .inl (fun _ => 0))), (q_25, .inr (9, [.ref o_29, .ref o_30, .ref o_31, .int 0])), (o_29, .inl (o_32, 960, .inl (fun _ => 0))), (o_30, .inl (o_33, 12, .inl (fun _ => 0))), (q_34, .inr (9, [.ref o_38, .ref o_39, .ref o_40, .int 0])), (o_38, .inl (o_41, 960, .inl (fun _ => 0))), (o_39, .inl (o_42, 12, .inl (fun _ => 0))), (q_43, .inr (0, [.ref o_47, .ref o_48, .ref o_49])), (o_47, .inl (o_50, 6, .inl o_53)), (o_48, .inl (o_51, 6, .inl (fun _ => 0))), (o_49, .inl (o_52, 360, .inr (.inl (fun _ => 0)))), (q_54, .inr (6, [.ref o_58, .ref o_59, .ref o_60, .ref o_61, .ref o_62, .ref o_63, .ref o_64, .ref o_65, .ref o_66, .ref o_67, .ref o_68, .int 0])), (o_65, .inl (o_69, 256, .inl o_70)), (q_71, .inl (k_72, 100, .inl (fun _ => 0))), (q_73, .inr (4, [.ref q_54, .ref q_71, .ref o_77, .int 0, .int 0, .int 0, .int 0, .int (-1)])), (o_77, .inl (o_78, 101, .inl (fun _ => 0)))]) ⟨hx, hb, hml, hown, hts⟩ (ct_X10_init l D q_83 q_54 _ ) (cwI 1 hts (goodIn_sub mb_X11_init_6 gw_X10_init) rfl rfl rfl (hts (.initialized RX10) (mo_X11_init 46 rfl)) (hts (.methodLink RX11 72 yX10_init) (mo_X11_init 47 rfl)) (hts (.instanceMethod yX10_init) (mo_X11_init 48 rfl)) rfl hd_X10_init ⟨Nat.le_of_ble_eq_true rfl, Nat.le_of_ble_eq_true rfl⟩) hK hN hP hD hS hA [25] [0, 1, 2, 3, 4, 5, 6, 7, 8, 9, 10, 11, 12, 13, 14, 15, 16, 17, 18, 19, 20, 21, 22, 23, 24] [] rfl rfl (by decide) (by decide) (by decide) rfl rfl hl.1 rfl (Nat.le_of_ble_eq_true rfl) dX11_init_132 ⟨Nat.le_of_ble_eq_true rfl, Nat.le_of_ble_eq_true rfl⟩ (fun u_85 H locs w_86 hP hD hK1 hS => ?_)
  have hP : va_P D vwCl [(x, .inr (11, [.ref q_1, .ref q_9, .ref q_17, .ref q_25, .ref q_34, .ref q_43, .ref q_54, .ref q_71, .ref q_73, .ref q_79, .null, .null, .null, .null, .null, .int 0, .int 0])), (q_1, .inr (3, [.ref o_5, .ref o_6, .int 1])), (o_5, .inl (o_7, 4, .inl (fun _ => 0))), (o_6, .inl (o_8, 18, .inl (fun _ => 0))), (q_9, .inr (3, [.ref o_13, .ref o_14, .int 1])), (o_13, .inl (o_15, 4, .inl (fun _ => 0))), (o_14, .inl (o_16, 18, .inl (fun _ => 0))), (q_17, .inr (3, [.ref o_21, .ref o_22, .int 1])), (o_21, .inl (o_23, 4, .inl (fun _ => 0))), (o_22, .inl (o_24, 18, .inl (fun _ => 0))), (q_25, .inr (9, [.ref o_29, .ref o_30, .ref o_31, .int 0])), (o_29, .inl (o_32, 960, .inl (fun _ => 0))), (o_30, .inl (o_33, 12, .inl (fun _ => 0))), (q_34, .inr (9, [.ref o_38, .ref o_39, .ref o_40, .int 0])), (o_38, .inl (o_41, 960, .inl (fun _ => 0))), (o_39, .inl (o_42, 12, .inl (fun _ => 0))), (q_43, .inr (0, [.ref o_47, .ref o_48, .ref o_49])), (o_47, .inl (o_50, 6, .inl o_53)), (o_48, .inl (o_51, 6, .inl (fun _ => 0))), (o_49, .inl (o_52, 360, .inr (.inl (fun _ => 0)))), (q_54, .inr (6, [.ref o_58, .ref o_59, .ref o_60, .ref o_61, .ref o_62, .ref o_63, .ref o_64, .ref o_65, .ref o_66, .ref o_67, .ref o_68, .int 0])), (o_65, .inl (o_69, 256, .inl o_70)), (q_71, .inl (k_72, 100, .inl (fun _ => 0))), (q_73, .inr (4, [.ref q_54, .ref q_71, .ref o_77, .int 0, .int 0, .int 0, .int 0, .int (-1)])), (o_77, .inl (o_78, 101, .inl (fun _ => 0)))] H := hP
  have hD : va_D A [(x, .inr (11, [.ref q_1, .ref q_9, .ref q_17, .ref q_25, .ref q_34, .ref q_43, .ref q_54, .ref q_71, .ref q_73, .ref q_79, .null, .null, .null, .null, .null, .int 0, .int 0])), (q_1, .inr (3, [.ref o_5, .ref o_6, .int 1])), (o_5, .inl (o_7, 4, .inl (fun _ => 0))), (o_6, .inl (o_8, 18, .inl (fun _ => 0))), (q_9, .inr (3, [.ref o_13, .ref o_14, .int 1])), (o_13, .inl (o_15, 4, .inl (fun _ => 0))), (o_14, .inl (o_16, 18, .inl (fun _ => 0))), (q_17, .inr (3, [.ref o_21, .ref o_22, .int 1])), (o_21, .inl (o_23, 4, .inl (fun _ => 0))), (o_22, .inl (o_24, 18, .inl (fun _ => 0))), (q_25, .inr (9, [.ref o_29, .ref o_30, .ref o_31, .int 0])), (o_29, .inl (o_32, 960, .inl (fun _ => 0))), (o_30, .inl (o_33, 12, .inl (fun _ => 0))), (q_34, .inr (9, [.ref o_38, .ref o_39, .ref o_40, .int 0])), (o_38, .inl (o_41, 960, .inl (fun _ => 0))), (o_39, .inl (o_42, 12, .inl (fun _ => 0))), (q_43, .inr (0, [.ref o_47, .ref o_48, .ref o_49])), (o_47, .inl (o_50, 6, .inl o_53)), (o_48, .inl (o_51, 6, .inl (fun _ => 0))), (o_49, .inl (o_52, 360, .inr (.inl (fun _ => 0)))), (q_54, .inr (6, [.ref o_58, .ref o_59, .ref o_60, .ref o_61, .ref o_62, .ref o_63, .ref o_64, .ref o_65, .ref o_66, .ref o_67, .ref o_68, .int 0])), (o_65, .inl (o_69, 256, .inl o_70)), (q_71, .inl (k_72, 100, .inl (fun _ => 0))), (q_73, .inr (4, [.ref q_54, .ref q_71, .ref o_77, .int 0, .int 0, .int 0, .int 0, .int (-1)])), (o_77, .inl (o_78, 101, .inl (fun _ => 0)))] := hD
  refine W.widen (k := 42) (n := 25579) (by decide) (Nat.le_of_ble_eq_true rfl) ?_
  refine va_putF (D := D) (ci := 11) (v := .ref q_83) (ty := .object "DynamicLogicProver$Truth") (C := RX11) (T := TX11) (N := 17) hx hb hts hiX11 tyX11 tyX11_ok nmX11 hown hK hP hD hS 0 rfl rfl 10 (by decide) (hts (.fieldLink RX11 73 "DynamicLogicProver" "truth" "LDynamicLogicProver$Truth;") (mo_X11_init 49 rfl)) (fun _ h9 => h9) rfl hin rfl (tyX11_ok 10 (by decide)) rfl rfl (Nat.le_of_ble_eq_true rfl) dX11_init_135 (fun H locs hP hD hS => ?_)
  have hP : va_P D vwCl [(x, .inr (11, [.ref q_1, .ref q_9, .ref q_17, .ref q_25, .ref q_34, .ref q_43, .ref q_54, .ref q_71, .ref q_73, .ref q_79, .ref q_83, .null, .null, .null, .null, .int 0, .int 0])), (q_1, .inr (3, [.ref o_5, .ref o_6, .int 1])), (o_5, .inl (o_7, 4, .inl (fun _ => 0))), (o_6, .inl (o_8, 18, .inl (fun _ => 0))), (q_9, .inr (3, [.ref o_13, .ref o_14, .int 1])), (o_13, .inl (o_15, 4, .inl (fun _ => 0))), (o_14, .inl (o_16, 18, .inl (fun _ => 0))), (q_17, .inr (3, [.ref o_21, .ref o_22, .int 1])), (o_21, .inl (o_23, 4, .inl (fun _ => 0))), (o_22, .inl (o_24, 18, .inl (fun _ => 0))), (q_25, .inr (9, [.ref o_29, .ref o_30, .ref o_31, .int 0])), (o_29, .inl (o_32, 960, .inl (fun _ => 0))), (o_30, .inl (o_33, 12, .inl (fun _ => 0))), (q_34, .inr (9, [.ref o_38, .ref o_39, .ref o_40, .int 0])), (o_38, .inl (o_41, 960, .inl (fun _ => 0))), (o_39, .inl (o_42, 12, .inl (fun _ => 0))), (q_43, .inr (0, [.ref o_47, .ref o_48, .ref o_49])), (o_47, .inl (o_50, 6, .inl o_53)), (o_48, .inl (o_51, 6, .inl (fun _ => 0))), (o_49, .inl (o_52, 360, .inr (.inl (fun _ => 0)))), (q_54, .inr (6, [.ref o_58, .ref o_59, .ref o_60, .ref o_61, .ref o_62, .ref o_63, .ref o_64, .ref o_65, .ref o_66, .ref o_67, .ref o_68, .int 0])), (o_65, .inl (o_69, 256, .inl o_70)), (q_71, .inl (k_72, 100, .inl (fun _ => 0))), (q_73, .inr (4, [.ref q_54, .ref q_71, .ref o_77, .int 0, .int 0, .int 0, .int 0, .int (-1)])), (o_77, .inl (o_78, 101, .inl (fun _ => 0)))] H := hP
  have hD : va_D A [(x, .inr (11, [.ref q_1, .ref q_9, .ref q_17, .ref q_25, .ref q_34, .ref q_43, .ref q_54, .ref q_71, .ref q_73, .ref q_79, .ref q_83, .null, .null, .null, .null, .int 0, .int 0])), (q_1, .inr (3, [.ref o_5, .ref o_6, .int 1])), (o_5, .inl (o_7, 4, .inl (fun _ => 0))), (o_6, .inl (o_8, 18, .inl (fun _ => 0))), (q_9, .inr (3, [.ref o_13, .ref o_14, .int 1])), (o_13, .inl (o_15, 4, .inl (fun _ => 0))), (o_14, .inl (o_16, 18, .inl (fun _ => 0))), (q_17, .inr (3, [.ref o_21, .ref o_22, .int 1])), (o_21, .inl (o_23, 4, .inl (fun _ => 0))), (o_22, .inl (o_24, 18, .inl (fun _ => 0))), (q_25, .inr (9, [.ref o_29, .ref o_30, .ref o_31, .int 0])), (o_29, .inl (o_32, 960, .inl (fun _ => 0))), (o_30, .inl (o_33, 12, .inl (fun _ => 0))), (q_34, .inr (9, [.ref o_38, .ref o_39, .ref o_40, .int 0])), (o_38, .inl (o_41, 960, .inl (fun _ => 0))), (o_39, .inl (o_42, 12, .inl (fun _ => 0))), (q_43, .inr (0, [.ref o_47, .ref o_48, .ref o_49])), (o_47, .inl (o_50, 6, .inl o_53)), (o_48, .inl (o_51, 6, .inl (fun _ => 0))), (o_49, .inl (o_52, 360, .inr (.inl (fun _ => 0)))), (q_54, .inr (6, [.ref o_58, .ref o_59, .ref o_60, .ref o_61, .ref o_62, .ref o_63, .ref o_64, .ref o_65, .ref o_66, .ref o_67, .ref o_68, .int 0])), (o_65, .inl (o_69, 256, .inl o_70)), (q_71, .inl (k_72, 100, .inl (fun _ => 0))), (q_73, .inr (4, [.ref q_54, .ref q_71, .ref o_77, .int 0, .int 0, .int 0, .int 0, .int (-1)])), (o_77, .inl (o_78, 101, .inl (fun _ => 0)))] := hD
  refine lv_aload_n hx hb dX11_init_138 rfl (lv_at hl 0 rfl) ?_
  refine va_new (ci := 1) (fs := [.null, .null, .null, .null, .null, .int 0]) (C := RX1) (T := TX1) (N := 6) hx hb hts hiX1 tyX1 tyX1_ok hown (hts (.classLink RX11 77 RX1) (mo_X11_init 50 rfl)) (hts (.instantiable RX1 6) (mo_X11_init 51 rfl)) (hts (.initialized RX1) (mo_X11_init 52 rfl)) hK hP hD hS hA rfl (fun j hj => by rcases (show j = 0 ∨ j = 1 ∨ j = 2 ∨ j = 3 ∨ j = 4 ∨ j = 5 by omega) with rfl | rfl | rfl | rfl | rfl | rfl <;> rfl) (Nat.le_of_ble_eq_true rfl) (Nat.le_of_ble_eq_true rfl) dX11_init_139 (fun q_87 H hP hD hS => ?_)
  have hP : va_P D vwCl [(x, .inr (11, [.ref q_1, .ref q_9, .ref q_17, .ref q_25, .ref q_34, .ref q_43, .ref q_54, .ref q_71, .ref q_73, .ref q_79, .ref q_83, .null, .null, .null, .null, .int 0, .int 0])), (q_1, .inr (3, [.ref o_5, .ref o_6, .int 1])), (o_5, .inl (o_7, 4, .inl (fun _ => 0))), (o_6, .inl (o_8, 18, .inl (fun _ => 0))), (q_9, .inr (3, [.ref o_13, .ref o_14, .int 1])), (o_13, .inl (o_15, 4, .inl (fun _ => 0))), (o_14, .inl (o_16, 18, .inl (fun _ => 0))), (q_17, .inr (3, [.ref o_21, .ref o_22, .int 1])), (o_21, .inl (o_23, 4, .inl (fun _ => 0))), (o_22, .inl (o_24, 18, .inl (fun _ => 0))), (q_25, .inr (9, [.ref o_29, .ref o_30, .ref o_31, .int 0])), (o_29, .inl (o_32, 960, .inl (fun _ => 0))), (o_30, .inl (o_33, 12, .inl (fun _ => 0))), (q_34, .inr (9, [.ref o_38, .ref o_39, .ref o_40, .int 0])), (o_38, .inl (o_41, 960, .inl (fun _ => 0))), (o_39, .inl (o_42, 12, .inl (fun _ => 0))), (q_43, .inr (0, [.ref o_47, .ref o_48, .ref o_49])), (o_47, .inl (o_50, 6, .inl o_53)), (o_48, .inl (o_51, 6, .inl (fun _ => 0))), (o_49, .inl (o_52, 360, .inr (.inl (fun _ => 0)))), (q_54, .inr (6, [.ref o_58, .ref o_59, .ref o_60, .ref o_61, .ref o_62, .ref o_63, .ref o_64, .ref o_65, .ref o_66, .ref o_67, .ref o_68, .int 0])), (o_65, .inl (o_69, 256, .inl o_70)), (q_71, .inl (k_72, 100, .inl (fun _ => 0))), (q_73, .inr (4, [.ref q_54, .ref q_71, .ref o_77, .int 0, .int 0, .int 0, .int 0, .int (-1)])), (o_77, .inl (o_78, 101, .inl (fun _ => 0))), (q_87, .inr (1, [.null, .null, .null, .null, .null, .int 0]))] H := hP
  have hD : va_D A [(x, .inr (11, [.ref q_1, .ref q_9, .ref q_17, .ref q_25, .ref q_34, .ref q_43, .ref q_54, .ref q_71, .ref q_73, .ref q_79, .ref q_83, .null, .null, .null, .null, .int 0, .int 0])), (q_1, .inr (3, [.ref o_5, .ref o_6, .int 1])), (o_5, .inl (o_7, 4, .inl (fun _ => 0))), (o_6, .inl (o_8, 18, .inl (fun _ => 0))), (q_9, .inr (3, [.ref o_13, .ref o_14, .int 1])), (o_13, .inl (o_15, 4, .inl (fun _ => 0))), (o_14, .inl (o_16, 18, .inl (fun _ => 0))), (q_17, .inr (3, [.ref o_21, .ref o_22, .int 1])), (o_21, .inl (o_23, 4, .inl (fun _ => 0))), (o_22, .inl (o_24, 18, .inl (fun _ => 0))), (q_25, .inr (9, [.ref o_29, .ref o_30, .ref o_31, .int 0])), (o_29, .inl (o_32, 960, .inl (fun _ => 0))), (o_30, .inl (o_33, 12, .inl (fun _ => 0))), (q_34, .inr (9, [.ref o_38, .ref o_39, .ref o_40, .int 0])), (o_38, .inl (o_41, 960, .inl (fun _ => 0))), (o_39, .inl (o_42, 12, .inl (fun _ => 0))), (q_43, .inr (0, [.ref o_47, .ref o_48, .ref o_49])), (o_47, .inl (o_50, 6, .inl o_53)), (o_48, .inl (o_51, 6, .inl (fun _ => 0))), (o_49, .inl (o_52, 360, .inr (.inl (fun _ => 0)))), (q_54, .inr (6, [.ref o_58, .ref o_59, .ref o_60, .ref o_61, .ref o_62, .ref o_63, .ref o_64, .ref o_65, .ref o_66, .ref o_67, .ref o_68, .int 0])), (o_65, .inl (o_69, 256, .inl o_70)), (q_71, .inl (k_72, 100, .inl (fun _ => 0))), (q_73, .inr (4, [.ref q_54, .ref q_71, .ref o_77, .int 0, .int 0, .int 0, .int 0, .int (-1)])), (o_77, .inl (o_78, 101, .inl (fun _ => 0))), (q_87, .inr (1, [.null, .null, .null, .null, .null, .int 0]))] := hD
  refine W.widen (k := 43) (n := 25585) (by decide) (Nat.le_of_ble_eq_true rfl) ?_
  refine lv_dup hx hb dX11_init_142 rfl ?_
  refine lv_aload_n hx hb dX11_init_143 rfl (lv_at hl 0 rfl) ?_
  refine va_get (D := D) (ci := 11) (v := .ref q_54) (C := RX11) (T := TX11) (N := 17) hx hb hts hiX11 hown hK hP 0 rfl rfl 6 (by decide) (hts (.fieldLink RX11 44 "DynamicLogicProver" "pool" "LDynamicLogicProver$Pool;") (mo_X11_init 29 rfl)) (fun _ h9 => h9) rfl dX11_init_144 ?_
  refine kc_Iv (As := [.ref q_54]) (rest := [.ref q_87, .ref x]) (wr := [(x, .inr (11, [.ref q_1, .ref q_9, .ref q_17, .ref q_25, .ref q_34, .ref q_43, .ref q_54, .ref q_71, .ref q_73, .ref q_79, .ref q_83, .null, .null, .null, .null, .int 0, .int 0])), (q_1, .inr (3, [.ref o_5, .ref o_6, .int 1])), (o_5, .inl (o_7, 4, .inl (fun _ => 0))), (o_6, .inl (o_8, 18, .inl (fun _ => 0))), (q_9, .inr (3, [.ref o_13, .ref o_14, .int 1])), (o_13, .inl (o_15, 4, .inl (fun _ => 0))), (o_14, .inl (o_16, 18, .inl (fun _ => 0))), (q_17, .inr (3, [.ref o_21, .ref o_22, .int 1])), (o_21, .inl (o_23, 4, .inl (fun _ => 0))), (o_22, .inl (o_24, 18, .inl (fun _ => 0))), (q_25, .inr (9, [.ref o_29, .ref o_30, .ref o_31, .int 0])), (o_29, .inl (o_32, 960, .inl (fun _ => 0))), (o_30, .inl (o_33, 12, .inl (fun _ => 0))), (q_34, .inr (9, [.ref o_38, .ref o_39, .ref o_40, .int 0])), (o_38, .inl (o_41, 960, .inl (fun _ => 0))), (o_39, .inl (o_42, 12, .inl (fun _ => 0))), (q_43, .inr (0, [.ref o_47, .ref o_48, .ref o_49])), (o_47, .inl (o_50, 6, .inl o_53)), (o_48, .inl (o_51, 6, .inl (fun _ => 0))), (o_49, .inl (o_52, 360, .inr (.inl (fun _ => 0)))), (q_54, .inr (6, [.ref o_58, .ref o_59, .ref o_60, .ref o_61, .ref o_62, .ref o_63, .ref o_64, .ref o_65, .ref o_66, .ref o_67, .ref o_68, .int 0])), (o_65, .inl (o_69, 256, .inl o_70)), (q_71, .inl (k_72, 100, .inl (fun _ => 0))), (q_73, .inr (4, [.ref q_54, .ref q_71, .ref o_77, .int 0, .int 0, .int 0, .int 0, .int (-1)])), (o_77, .inl (o_78, 101, .inl (fun _ => 0)))]) ⟨hx, hb, hml, hown, hts⟩ (ct_X1_init l D q_87 q_54 _ ) (cwI 1 hts (goodIn_sub mb_X11_init_7 gw_X1_init) rfl rfl rfl (hts (.initialized RX1) (mo_X11_init 52 rfl)) (hts (.methodLink RX11 79 yX1_init) (mo_X11_init 53 rfl)) (hts (.instanceMethod yX1_init) (mo_X11_init 54 rfl)) rfl hd_X1_init ⟨Nat.le_of_ble_eq_true rfl, Nat.le_of_ble_eq_true rfl⟩) hK hN hP hD hS hA [25] [0, 1, 2, 3, 4, 5, 6, 7, 8, 9, 10, 11, 12, 13, 14, 15, 16, 17, 18, 19, 20, 21, 22, 23, 24] [] rfl rfl (by decide) (by decide) (by decide) rfl rfl hl.1 rfl (Nat.le_of_ble_eq_true rfl) dX11_init_147 ⟨Nat.le_of_ble_eq_true rfl, Nat.le_of_ble_eq_true rfl⟩ (fun u_89 H locs w_90 hP hD hK1 hS => ?_)
  have hP : va_P D vwCl [(x, .inr (11, [.ref q_1, .ref q_9, .ref q_17, .ref q_25, .ref q_34, .ref q_43, .ref q_54, .ref q_71, .ref q_73, .ref q_79, .ref q_83, .null, .null, .null, .null, .int 0, .int 0])), (q_1, .inr (3, [.ref o_5, .ref o_6, .int 1])), (o_5, .inl (o_7, 4, .inl (fun _ => 0))), (o_6, .inl (o_8, 18, .inl (fun _ => 0))), (q_9, .inr (3, [.ref o_13, .ref o_14, .int 1])), (o_13, .inl (o_15, 4, .inl (fun _ => 0))), (o_14, .inl (o_16, 18, .inl (fun _ => 0))), (q_17, .inr (3, [.ref o_21, .ref o_22, .int 1])), (o_21, .inl (o_23, 4, .inl (fun _ => 0))), (o_22, .inl (o_24, 18, .inl (fun _ => 0))), (q_25, .inr (9, [.ref o_29, .ref o_30, .ref o_31, .int 0])), (o_29, .inl (o_32, 960, .inl (fun _ => 0))), (o_30, .inl (o_33, 12, .inl (fun _ => 0))), (q_34, .inr (9, [.ref o_38, .ref o_39, .ref o_40, .int 0])), (o_38, .inl (o_41, 960, .inl (fun _ => 0))), (o_39, .inl (o_42, 12, .inl (fun _ => 0))), (q_43, .inr (0, [.ref o_47, .ref o_48, .ref o_49])), (o_47, .inl (o_50, 6, .inl o_53)), (o_48, .inl (o_51, 6, .inl (fun _ => 0))), (o_49, .inl (o_52, 360, .inr (.inl (fun _ => 0)))), (q_54, .inr (6, [.ref o_58, .ref o_59, .ref o_60, .ref o_61, .ref o_62, .ref o_63, .ref o_64, .ref o_65, .ref o_66, .ref o_67, .ref o_68, .int 0])), (o_65, .inl (o_69, 256, .inl o_70)), (q_71, .inl (k_72, 100, .inl (fun _ => 0))), (q_73, .inr (4, [.ref q_54, .ref q_71, .ref o_77, .int 0, .int 0, .int 0, .int 0, .int (-1)])), (o_77, .inl (o_78, 101, .inl (fun _ => 0)))] H := hP
  have hD : va_D A [(x, .inr (11, [.ref q_1, .ref q_9, .ref q_17, .ref q_25, .ref q_34, .ref q_43, .ref q_54, .ref q_71, .ref q_73, .ref q_79, .ref q_83, .null, .null, .null, .null, .int 0, .int 0])), (q_1, .inr (3, [.ref o_5, .ref o_6, .int 1])), (o_5, .inl (o_7, 4, .inl (fun _ => 0))), (o_6, .inl (o_8, 18, .inl (fun _ => 0))), (q_9, .inr (3, [.ref o_13, .ref o_14, .int 1])), (o_13, .inl (o_15, 4, .inl (fun _ => 0))), (o_14, .inl (o_16, 18, .inl (fun _ => 0))), (q_17, .inr (3, [.ref o_21, .ref o_22, .int 1])), (o_21, .inl (o_23, 4, .inl (fun _ => 0))), (o_22, .inl (o_24, 18, .inl (fun _ => 0))), (q_25, .inr (9, [.ref o_29, .ref o_30, .ref o_31, .int 0])), (o_29, .inl (o_32, 960, .inl (fun _ => 0))), (o_30, .inl (o_33, 12, .inl (fun _ => 0))), (q_34, .inr (9, [.ref o_38, .ref o_39, .ref o_40, .int 0])), (o_38, .inl (o_41, 960, .inl (fun _ => 0))), (o_39, .inl (o_42, 12, .inl (fun _ => 0))), (q_43, .inr (0, [.ref o_47, .ref o_48, .ref o_49])), (o_47, .inl (o_50, 6, .inl o_53)), (o_48, .inl (o_51, 6, .inl (fun _ => 0))), (o_49, .inl (o_52, 360, .inr (.inl (fun _ => 0)))), (q_54, .inr (6, [.ref o_58, .ref o_59, .ref o_60, .ref o_61, .ref o_62, .ref o_63, .ref o_64, .ref o_65, .ref o_66, .ref o_67, .ref o_68, .int 0])), (o_65, .inl (o_69, 256, .inl o_70)), (q_71, .inl (k_72, 100, .inl (fun _ => 0))), (q_73, .inr (4, [.ref q_54, .ref q_71, .ref o_77, .int 0, .int 0, .int 0, .int 0, .int (-1)])), (o_77, .inl (o_78, 101, .inl (fun _ => 0)))] := hD
  refine W.widen (k := 47) (n := 28857) (by decide) (Nat.le_of_ble_eq_true rfl) ?_
  refine va_putF (D := D) (ci := 11) (v := .ref q_87) (ty := .object "DynamicLogicProver$Closure") (C := RX11) (T := TX11) (N := 17) hx hb hts hiX11 tyX11 tyX11_ok nmX11 hown hK hP hD hS 0 rfl rfl 11 (by decide) (hts (.fieldLink RX11 80 "DynamicLogicProver" "closure" "LDynamicLogicProver$Closure;") (mo_X11_init 55 rfl)) (fun _ h9 => h9) rfl hin rfl (tyX11_ok 11 (by decide)) rfl rfl (Nat.le_of_ble_eq_true rfl) dX11_init_150 (fun H locs hP hD hS => ?_)
  have hP : va_P D vwCl [(x, .inr (11, [.ref q_1, .ref q_9, .ref q_17, .ref q_25, .ref q_34, .ref q_43, .ref q_54, .ref q_71, .ref q_73, .ref q_79, .ref q_83, .ref q_87, .null, .null, .null, .int 0, .int 0])), (q_1, .inr (3, [.ref o_5, .ref o_6, .int 1])), (o_5, .inl (o_7, 4, .inl (fun _ => 0))), (o_6, .inl (o_8, 18, .inl (fun _ => 0))), (q_9, .inr (3, [.ref o_13, .ref o_14, .int 1])), (o_13, .inl (o_15, 4, .inl (fun _ => 0))), (o_14, .inl (o_16, 18, .inl (fun _ => 0))), (q_17, .inr (3, [.ref o_21, .ref o_22, .int 1])), (o_21, .inl (o_23, 4, .inl (fun _ => 0))), (o_22, .inl (o_24, 18, .inl (fun _ => 0))), (q_25, .inr (9, [.ref o_29, .ref o_30, .ref o_31, .int 0])), (o_29, .inl (o_32, 960, .inl (fun _ => 0))), (o_30, .inl (o_33, 12, .inl (fun _ => 0))), (q_34, .inr (9, [.ref o_38, .ref o_39, .ref o_40, .int 0])), (o_38, .inl (o_41, 960, .inl (fun _ => 0))), (o_39, .inl (o_42, 12, .inl (fun _ => 0))), (q_43, .inr (0, [.ref o_47, .ref o_48, .ref o_49])), (o_47, .inl (o_50, 6, .inl o_53)), (o_48, .inl (o_51, 6, .inl (fun _ => 0))), (o_49, .inl (o_52, 360, .inr (.inl (fun _ => 0)))), (q_54, .inr (6, [.ref o_58, .ref o_59, .ref o_60, .ref o_61, .ref o_62, .ref o_63, .ref o_64, .ref o_65, .ref o_66, .ref o_67, .ref o_68, .int 0])), (o_65, .inl (o_69, 256, .inl o_70)), (q_71, .inl (k_72, 100, .inl (fun _ => 0))), (q_73, .inr (4, [.ref q_54, .ref q_71, .ref o_77, .int 0, .int 0, .int 0, .int 0, .int (-1)])), (o_77, .inl (o_78, 101, .inl (fun _ => 0)))] H := hP
  have hD : va_D A [(x, .inr (11, [.ref q_1, .ref q_9, .ref q_17, .ref q_25, .ref q_34, .ref q_43, .ref q_54, .ref q_71, .ref q_73, .ref q_79, .ref q_83, .ref q_87, .null, .null, .null, .int 0, .int 0])), (q_1, .inr (3, [.ref o_5, .ref o_6, .int 1])), (o_5, .inl (o_7, 4, .inl (fun _ => 0))), (o_6, .inl (o_8, 18, .inl (fun _ => 0))), (q_9, .inr (3, [.ref o_13, .ref o_14, .int 1])), (o_13, .inl (o_15, 4, .inl (fun _ => 0))), (o_14, .inl (o_16, 18, .inl (fun _ => 0))), (q_17, .inr (3, [.ref o_21, .ref o_22, .int 1])), (o_21, .inl (o_23, 4, .inl (fun _ => 0))), (o_22, .inl (o_24, 18, .inl (fun _ => 0))), (q_25, .inr (9, [.ref o_29, .ref o_30, .ref o_31, .int 0])), (o_29, .inl (o_32, 960, .inl (fun _ => 0))), (o_30, .inl (o_33, 12, .inl (fun _ => 0))), (q_34, .inr (9, [.ref o_38, .ref o_39, .ref o_40, .int 0])), (o_38, .inl (o_41, 960, .inl (fun _ => 0))), (o_39, .inl (o_42, 12, .inl (fun _ => 0))), (q_43, .inr (0, [.ref o_47, .ref o_48, .ref o_49])), (o_47, .inl (o_50, 6, .inl o_53)), (o_48, .inl (o_51, 6, .inl (fun _ => 0))), (o_49, .inl (o_52, 360, .inr (.inl (fun _ => 0)))), (q_54, .inr (6, [.ref o_58, .ref o_59, .ref o_60, .ref o_61, .ref o_62, .ref o_63, .ref o_64, .ref o_65, .ref o_66, .ref o_67, .ref o_68, .int 0])), (o_65, .inl (o_69, 256, .inl o_70)), (q_71, .inl (k_72, 100, .inl (fun _ => 0))), (q_73, .inr (4, [.ref q_54, .ref q_71, .ref o_77, .int 0, .int 0, .int 0, .int 0, .int (-1)])), (o_77, .inl (o_78, 101, .inl (fun _ => 0)))] := hD
  refine lv_aload_n hx hb dX11_init_153 rfl (lv_at hl 0 rfl) ?_
  refine va_new (ci := 5) (fs := [.null, .null, .null, .int 0, .int 0]) (C := RX5) (T := TX5) (N := 5) hx hb hts hiX5 tyX5 tyX5_ok hown (hts (.classLink RX11 84 RX5) (mo_X11_init 56 rfl)) (hts (.instantiable RX5 5) (mo_X11_init 57 rfl)) (hts (.initialized RX5) (mo_X11_init 58 rfl)) hK hP hD hS hA rfl (fun j hj => by rcases (show j = 0 ∨ j = 1 ∨ j = 2 ∨ j = 3 ∨ j = 4 by omega) with rfl | rfl | rfl | rfl | rfl <;> rfl) (Nat.le_of_ble_eq_true rfl) (Nat.le_of_ble_eq_true rfl) dX11_init_154 (fun q_91 H hP hD hS => ?_)
  have hP : va_P D vwCl [(x, .inr (11, [.ref q_1, .ref q_9, .ref q_17, .ref q_25, .ref q_34, .ref q_43, .ref q_54, .ref q_71, .ref q_73, .ref q_79, .ref q_83, .ref q_87, .null, .null, .null, .int 0, .int 0])), (q_1, .inr (3, [.ref o_5, .ref o_6, .int 1])), (o_5, .inl (o_7, 4, .inl (fun _ => 0))), (o_6, .inl (o_8, 18, .inl (fun _ => 0))), (q_9, .inr (3, [.ref o_13, .ref o_14, .int 1])), (o_13, .inl (o_15, 4, .inl (fun _ => 0))), (o_14, .inl (o_16, 18, .inl (fun _ => 0))), (q_17, .inr (3, [.ref o_21, .ref o_22, .int 1])), (o_21, .inl (o_23, 4, .inl (fun _ => 0))), (o_22, .inl (o_24, 18, .inl (fun _ => 0))), (q_25, .inr (9, [.ref o_29, .ref o_30, .ref o_31, .int 0])), (o_29, .inl (o_32, 960, .inl (fun _ => 0))), (o_30, .inl (o_33, 12, .inl (fun _ => 0))), (q_34, .inr (9, [.ref o_38, .ref o_39, .ref o_40, .int 0])), (o_38, .inl (o_41, 960, .inl (fun _ => 0))), (o_39, .inl (o_42, 12, .inl (fun _ => 0))), (q_43, .inr (0, [.ref o_47, .ref o_48, .ref o_49])), (o_47, .inl (o_50, 6, .inl o_53)), (o_48, .inl (o_51, 6, .inl (fun _ => 0))), (o_49, .inl (o_52, 360, .inr (.inl (fun _ => 0)))), (q_54, .inr (6, [.ref o_58, .ref o_59, .ref o_60, .ref o_61, .ref o_62, .ref o_63, .ref o_64, .ref o_65, .ref o_66, .ref o_67, .ref o_68, .int 0])), (o_65, .inl (o_69, 256, .inl o_70)), (q_71, .inl (k_72, 100, .inl (fun _ => 0))), (q_73, .inr (4, [.ref q_54, .ref q_71, .ref o_77, .int 0, .int 0, .int 0, .int 0, .int (-1)])), (o_77, .inl (o_78, 101, .inl (fun _ => 0))), (q_91, .inr (5, [.null, .null, .null, .int 0, .int 0]))] H := hP
  have hD : va_D A [(x, .inr (11, [.ref q_1, .ref q_9, .ref q_17, .ref q_25, .ref q_34, .ref q_43, .ref q_54, .ref q_71, .ref q_73, .ref q_79, .ref q_83, .ref q_87, .null, .null, .null, .int 0, .int 0])), (q_1, .inr (3, [.ref o_5, .ref o_6, .int 1])), (o_5, .inl (o_7, 4, .inl (fun _ => 0))), (o_6, .inl (o_8, 18, .inl (fun _ => 0))), (q_9, .inr (3, [.ref o_13, .ref o_14, .int 1])), (o_13, .inl (o_15, 4, .inl (fun _ => 0))), (o_14, .inl (o_16, 18, .inl (fun _ => 0))), (q_17, .inr (3, [.ref o_21, .ref o_22, .int 1])), (o_21, .inl (o_23, 4, .inl (fun _ => 0))), (o_22, .inl (o_24, 18, .inl (fun _ => 0))), (q_25, .inr (9, [.ref o_29, .ref o_30, .ref o_31, .int 0])), (o_29, .inl (o_32, 960, .inl (fun _ => 0))), (o_30, .inl (o_33, 12, .inl (fun _ => 0))), (q_34, .inr (9, [.ref o_38, .ref o_39, .ref o_40, .int 0])), (o_38, .inl (o_41, 960, .inl (fun _ => 0))), (o_39, .inl (o_42, 12, .inl (fun _ => 0))), (q_43, .inr (0, [.ref o_47, .ref o_48, .ref o_49])), (o_47, .inl (o_50, 6, .inl o_53)), (o_48, .inl (o_51, 6, .inl (fun _ => 0))), (o_49, .inl (o_52, 360, .inr (.inl (fun _ => 0)))), (q_54, .inr (6, [.ref o_58, .ref o_59, .ref o_60, .ref o_61, .ref o_62, .ref o_63, .ref o_64, .ref o_65, .ref o_66, .ref o_67, .ref o_68, .int 0])), (o_65, .inl (o_69, 256, .inl o_70)), (q_71, .inl (k_72, 100, .inl (fun _ => 0))), (q_73, .inr (4, [.ref q_54, .ref q_71, .ref o_77, .int 0, .int 0, .int 0, .int 0, .int (-1)])), (o_77, .inl (o_78, 101, .inl (fun _ => 0))), (q_91, .inr (5, [.null, .null, .null, .int 0, .int 0]))] := hD
  refine W.widen (k := 48) (n := 28862) (by decide) (Nat.le_of_ble_eq_true rfl) ?_
  refine lv_dup hx hb dX11_init_157 rfl ?_
  refine kc_Iv (As := []) (rest := [.ref q_91, .ref x]) (wr := [(x, .inr (11, [.ref q_1, .ref q_9, .ref q_17, .ref q_25, .ref q_34, .ref q_43, .ref q_54, .ref q_71, .ref q_73, .ref q_79, .ref q_83, .ref q_87, .null, .null, .null, .int 0, .int 0])), (q_1, .inr (3, [.ref o_5, .ref o_6, .int 1])), (o_5, .inl (o_7, 4, .inl (fun _ => 0))), (o_6, .inl (o_8, 18, .inl (fun _ => 0))), (q_9, .inr (3, [.ref o_13, .ref o_14, .int 1])), (o_13, .inl (o_15, 4, .inl (fun _ => 0))), (o_14, .inl (o_16, 18, .inl (fun _ => 0))), (q_17, .inr (3, [.ref o_21, .ref o_22, .int 1])), (o_21, .inl (o_23, 4, .inl (fun _ => 0))), (o_22, .inl (o_24, 18, .inl (fun _ => 0))), (q_25, .inr (9, [.ref o_29, .ref o_30, .ref o_31, .int 0])), (o_29, .inl (o_32, 960, .inl (fun _ => 0))), (o_30, .inl (o_33, 12, .inl (fun _ => 0))), (q_34, .inr (9, [.ref o_38, .ref o_39, .ref o_40, .int 0])), (o_38, .inl (o_41, 960, .inl (fun _ => 0))), (o_39, .inl (o_42, 12, .inl (fun _ => 0))), (q_43, .inr (0, [.ref o_47, .ref o_48, .ref o_49])), (o_47, .inl (o_50, 6, .inl o_53)), (o_48, .inl (o_51, 6, .inl (fun _ => 0))), (o_49, .inl (o_52, 360, .inr (.inl (fun _ => 0)))), (q_54, .inr (6, [.ref o_58, .ref o_59, .ref o_60, .ref o_61, .ref o_62, .ref o_63, .ref o_64, .ref o_65, .ref o_66, .ref o_67, .ref o_68, .int 0])), (o_65, .inl (o_69, 256, .inl o_70)), (q_71, .inl (k_72, 100, .inl (fun _ => 0))), (q_73, .inr (4, [.ref q_54, .ref q_71, .ref o_77, .int 0, .int 0, .int 0, .int 0, .int (-1)])), (o_77, .inl (o_78, 101, .inl (fun _ => 0)))]) ⟨hx, hb, hml, hown, hts⟩ (ct_X5_init l D q_91 _ ) (cwI 0 hts (goodIn_sub mb_X11_init_8 gw_X5_init) rfl rfl rfl (hts (.initialized RX5) (mo_X11_init 58 rfl)) (hts (.methodLink RX11 86 yX5_init) (mo_X11_init 59 rfl)) (hts (.instanceMethod yX5_init) (mo_X11_init 60 rfl)) rfl hd_X5_init ⟨Nat.le_of_ble_eq_true rfl, Nat.le_of_ble_eq_true rfl⟩) hK hN hP hD hS hA [25] [0, 1, 2, 3, 4, 5, 6, 7, 8, 9, 10, 11, 12, 13, 14, 15, 16, 17, 18, 19, 20, 21, 22, 23, 24] [] rfl rfl (by decide) (by decide) (by decide) rfl rfl hl.1 rfl (Nat.le_of_ble_eq_true rfl) dX11_init_158 ⟨Nat.le_of_ble_eq_true rfl, Nat.le_of_ble_eq_true rfl⟩ (fun u_93 H locs w_94 hP hD hK1 hS => ?_)
  obtain ⟨o_95, o_96, o_97, o_98, o_99, o_100⟩ := u_93
  have hK : va_K D vwCl [(o_7, .int), (o_8, .int), (o_15, .int), (o_16, .int), (o_23, .int), (o_24, .int), (o_32, .int), (o_33, .int), (o_41, .int), (o_42, .int), (o_50, .int), (o_51, .int), (o_52, .long), (o_69, .int), (k_72, .int), (o_78, .int), (o_98, .int), (o_99, .int), (o_100, .int)] s := hK.app hK1
  have hP : va_P D vwCl [(x, .inr (11, [.ref q_1, .ref q_9, .ref q_17, .ref q_25, .ref q_34, .ref q_43, .ref q_54, .ref q_71, .ref q_73, .ref q_79, .ref q_83, .ref q_87, .null, .null, .null, .int 0, .int 0])), (q_1, .inr (3, [.ref o_5, .ref o_6, .int 1])), (o_5, .inl (o_7, 4, .inl (fun _ => 0))), (o_6, .inl (o_8, 18, .inl (fun _ => 0))), (q_9, .inr (3, [.ref o_13, .ref o_14, .int 1])), (o_13, .inl (o_15, 4, .inl (fun _ => 0))), (o_14, .inl (o_16, 18, .inl (fun _ => 0))), (q_17, .inr (3, [.ref o_21, .ref o_22, .int 1])), (o_21, .inl (o_23, 4, .inl (fun _ => 0))), (o_22, .inl (o_24, 18, .inl (fun _ => 0))), (q_25, .inr (9, [.ref o_29, .ref o_30, .ref o_31, .int 0])), (o_29, .inl (o_32, 960, .inl (fun _ => 0))), (o_30, .inl (o_33, 12, .inl (fun _ => 0))), (q_34, .inr (9, [.ref o_38, .ref o_39, .ref o_40, .int 0])), (o_38, .inl (o_41, 960, .inl (fun _ => 0))), (o_39, .inl (o_42, 12, .inl (fun _ => 0))), (q_43, .inr (0, [.ref o_47, .ref o_48, .ref o_49])), (o_47, .inl (o_50, 6, .inl o_53)), (o_48, .inl (o_51, 6, .inl (fun _ => 0))), (o_49, .inl (o_52, 360, .inr (.inl (fun _ => 0)))), (q_54, .inr (6, [.ref o_58, .ref o_59, .ref o_60, .ref o_61, .ref o_62, .ref o_63, .ref o_64, .ref o_65, .ref o_66, .ref o_67, .ref o_68, .int 0])), (o_65, .inl (o_69, 256, .inl o_70)), (q_71, .inl (k_72, 100, .inl (fun _ => 0))), (q_73, .inr (4, [.ref q_54, .ref q_71, .ref o_77, .int 0, .int 0, .int 0, .int 0, .int (-1)])), (o_77, .inl (o_78, 101, .inl (fun _ => 0))), (q_91, .inr (5, [.ref o_95, .ref o_96, .ref o_97, .int 1, .int 1])), (o_95, .inl (o_98, 6, .inl (fun _ => 0))), (o_96, .inl (o_99, 6, .inl (fun _ => 0))), (o_97, .inl (o_100, 6, .inl (fun _ => 0)))] H := hP
  have hD : va_D A [(x, .inr (11, [.ref q_1, .ref q_9, .ref q_17, .ref q_25, .ref q_34, .ref q_43, .ref q_54, .ref q_71, .ref q_73, .ref q_79, .ref q_83, .ref q_87, .null, .null, .null, .int 0, .int 0])), (q_1, .inr (3, [.ref o_5, .ref o_6, .int 1])), (o_5, .inl (o_7, 4, .inl (fun _ => 0))), (o_6, .inl (o_8, 18, .inl (fun _ => 0))), (q_9, .inr (3, [.ref o_13, .ref o_14, .int 1])), (o_13, .inl (o_15, 4, .inl (fun _ => 0))), (o_14, .inl (o_16, 18, .inl (fun _ => 0))), (q_17, .inr (3, [.ref o_21, .ref o_22, .int 1])), (o_21, .inl (o_23, 4, .inl (fun _ => 0))), (o_22, .inl (o_24, 18, .inl (fun _ => 0))), (q_25, .inr (9, [.ref o_29, .ref o_30, .ref o_31, .int 0])), (o_29, .inl (o_32, 960, .inl (fun _ => 0))), (o_30, .inl (o_33, 12, .inl (fun _ => 0))), (q_34, .inr (9, [.ref o_38, .ref o_39, .ref o_40, .int 0])), (o_38, .inl (o_41, 960, .inl (fun _ => 0))), (o_39, .inl (o_42, 12, .inl (fun _ => 0))), (q_43, .inr (0, [.ref o_47, .ref o_48, .ref o_49])), (o_47, .inl (o_50, 6, .inl o_53)), (o_48, .inl (o_51, 6, .inl (fun _ => 0))), (o_49, .inl (o_52, 360, .inr (.inl (fun _ => 0)))), (q_54, .inr (6, [.ref o_58, .ref o_59, .ref o_60, .ref o_61, .ref o_62, .ref o_63, .ref o_64, .ref o_65, .ref o_66, .ref o_67, .ref o_68, .int 0])), (o_65, .inl (o_69, 256, .inl o_70)), (q_71, .inl (k_72, 100, .inl (fun _ => 0))), (q_73, .inr (4, [.ref q_54, .ref q_71, .ref o_77, .int 0, .int 0, .int 0, .int 0, .int (-1)])), (o_77, .inl (o_78, 101, .inl (fun _ => 0))), (q_91, .inr (5, [.ref o_95, .ref o_96, .ref o_97, .int 1, .int 1])), (o_95, .inl (o_98, 6, .inl (fun _ => 0))), (o_96, .inl (o_99, 6, .inl (fun _ => 0))), (o_97, .inl (o_100, 6, .inl (fun _ => 0)))] := hD
  refine W.widen (k := 51) (n := 28880) (by decide) (Nat.le_of_ble_eq_true rfl) ?_
  refine va_putF (D := D) (ci := 11) (v := .ref q_91) (ty := .object "DynamicLogicProver$Partition") (C := RX11) (T := TX11) (N := 17) hx hb hts hiX11 tyX11 tyX11_ok nmX11 hown hK hP hD hS 0 rfl rfl 12 (by decide) (hts (.fieldLink RX11 87 "DynamicLogicProver" "partition" "LDynamicLogicProver$Partition;") (mo_X11_init 61 rfl)) (fun _ h9 => h9) rfl hin rfl (tyX11_ok 12 (by decide)) rfl rfl (Nat.le_of_ble_eq_true rfl) dX11_init_161 (fun H locs hP hD hS => ?_)
  have hP : va_P D vwCl [(x, .inr (11, [.ref q_1, .ref q_9, .ref q_17, .ref q_25, .ref q_34, .ref q_43, .ref q_54, .ref q_71, .ref q_73, .ref q_79, .ref q_83, .ref q_87, .ref q_91, .null, .null, .int 0, .int 0])), (q_1, .inr (3, [.ref o_5, .ref o_6, .int 1])), (o_5, .inl (o_7, 4, .inl (fun _ => 0))), (o_6, .inl (o_8, 18, .inl (fun _ => 0))), (q_9, .inr (3, [.ref o_13, .ref o_14, .int 1])), (o_13, .inl (o_15, 4, .inl (fun _ => 0))), (o_14, .inl (o_16, 18, .inl (fun _ => 0))), (q_17, .inr (3, [.ref o_21, .ref o_22, .int 1])), (o_21, .inl (o_23, 4, .inl (fun _ => 0))), (o_22, .inl (o_24, 18, .inl (fun _ => 0))), (q_25, .inr (9, [.ref o_29, .ref o_30, .ref o_31, .int 0])), (o_29, .inl (o_32, 960, .inl (fun _ => 0))), (o_30, .inl (o_33, 12, .inl (fun _ => 0))), (q_34, .inr (9, [.ref o_38, .ref o_39, .ref o_40, .int 0])), (o_38, .inl (o_41, 960, .inl (fun _ => 0))), (o_39, .inl (o_42, 12, .inl (fun _ => 0))), (q_43, .inr (0, [.ref o_47, .ref o_48, .ref o_49])), (o_47, .inl (o_50, 6, .inl o_53)), (o_48, .inl (o_51, 6, .inl (fun _ => 0))), (o_49, .inl (o_52, 360, .inr (.inl (fun _ => 0)))), (q_54, .inr (6, [.ref o_58, .ref o_59, .ref o_60, .ref o_61, .ref o_62, .ref o_63, .ref o_64, .ref o_65, .ref o_66, .ref o_67, .ref o_68, .int 0])), (o_65, .inl (o_69, 256, .inl o_70)), (q_71, .inl (k_72, 100, .inl (fun _ => 0))), (q_73, .inr (4, [.ref q_54, .ref q_71, .ref o_77, .int 0, .int 0, .int 0, .int 0, .int (-1)])), (o_77, .inl (o_78, 101, .inl (fun _ => 0))), (q_91, .inr (5, [.ref o_95, .ref o_96, .ref o_97, .int 1, .int 1])), (o_95, .inl (o_98, 6, .inl (fun _ => 0))), (o_96, .inl (o_99, 6, .inl (fun _ => 0))), (o_97, .inl (o_100, 6, .inl (fun _ => 0)))] H := hP
  have hD : va_D A [(x, .inr (11, [.ref q_1, .ref q_9, .ref q_17, .ref q_25, .ref q_34, .ref q_43, .ref q_54, .ref q_71, .ref q_73, .ref q_79, .ref q_83, .ref q_87, .ref q_91, .null, .null, .int 0, .int 0])), (q_1, .inr (3, [.ref o_5, .ref o_6, .int 1])), (o_5, .inl (o_7, 4, .inl (fun _ => 0))), (o_6, .inl (o_8, 18, .inl (fun _ => 0))), (q_9, .inr (3, [.ref o_13, .ref o_14, .int 1])), (o_13, .inl (o_15, 4, .inl (fun _ => 0))), (o_14, .inl (o_16, 18, .inl (fun _ => 0))), (q_17, .inr (3, [.ref o_21, .ref o_22, .int 1])), (o_21, .inl (o_23, 4, .inl (fun _ => 0))), (o_22, .inl (o_24, 18, .inl (fun _ => 0))), (q_25, .inr (9, [.ref o_29, .ref o_30, .ref o_31, .int 0])), (o_29, .inl (o_32, 960, .inl (fun _ => 0))), (o_30, .inl (o_33, 12, .inl (fun _ => 0))), (q_34, .inr (9, [.ref o_38, .ref o_39, .ref o_40, .int 0])), (o_38, .inl (o_41, 960, .inl (fun _ => 0))), (o_39, .inl (o_42, 12, .inl (fun _ => 0))), (q_43, .inr (0, [.ref o_47, .ref o_48, .ref o_49])), (o_47, .inl (o_50, 6, .inl o_53)), (o_48, .inl (o_51, 6, .inl (fun _ => 0))), (o_49, .inl (o_52, 360, .inr (.inl (fun _ => 0)))), (q_54, .inr (6, [.ref o_58, .ref o_59, .ref o_60, .ref o_61, .ref o_62, .ref o_63, .ref o_64, .ref o_65, .ref o_66, .ref o_67, .ref o_68, .int 0])), (o_65, .inl (o_69, 256, .inl o_70)), (q_71, .inl (k_72, 100, .inl (fun _ => 0))), (q_73, .inr (4, [.ref q_54, .ref q_71, .ref o_77, .int 0, .int 0, .int 0, .int 0, .int (-1)])), (o_77, .inl (o_78, 101, .inl (fun _ => 0))), (q_91, .inr (5, [.ref o_95, .ref o_96, .ref o_97, .int 1, .int 1])), (o_95, .inl (o_98, 6, .inl (fun _ => 0))), (o_96, .inl (o_99, 6, .inl (fun _ => 0))), (o_97, .inl (o_100, 6, .inl (fun _ => 0)))] := hD
  refine lv_aload_n hx hb dX11_init_164 rfl (lv_at hl 0 rfl) ?_
  refine va_new (ci := 8) (fs := [.null, .null, .null, .null, .null, .null, .null, .null, .null, .null, .null, .null, .null, .int 0, .int 0]) (C := RX8) (T := TX8) (N := 15) hx hb hts hiX8 tyX8 tyX8_ok hown (hts (.classLink RX11 91 RX8) (mo_X11_init 62 rfl)) (hts (.instantiable RX8 15) (mo_X11_init 63 rfl)) (hts (.initialized RX8) (mo_X11_init 64 rfl)) hK hP hD hS hA rfl (fun j hj => by rcases (show j = 0 ∨ j = 1 ∨ j = 2 ∨ j = 3 ∨ j = 4 ∨ j = 5 ∨ j = 6 ∨ j = 7 ∨ j = 8 ∨ j = 9 ∨ j = 10 ∨ j = 11 ∨ j = 12 ∨ j = 13 ∨ j = 14 by omega) with rfl | rfl | rfl | rfl | rfl | rfl | rfl | rfl | rfl | rfl | rfl | rfl | rfl | rfl | rfl <;> rfl) (Nat.le_of_ble_eq_true rfl) (Nat.le_of_ble_eq_true rfl) dX11_init_165 (fun q_101 H hP hD hS => ?_)
  have hP : va_P D vwCl [(x, .inr (11, [.ref q_1, .ref q_9, .ref q_17, .ref q_25, .ref q_34, .ref q_43, .ref q_54, .ref q_71, .ref q_73, .ref q_79, .ref q_83, .ref q_87, .ref q_91, .null, .null, .int 0, .int 0])), (q_1, .inr (3, [.ref o_5, .ref o_6, .int 1])), (o_5, .inl (o_7, 4, .inl (fun _ => 0))), (o_6, .inl (o_8, 18, .inl (fun _ => 0))), (q_9, .inr (3, [.ref o_13, .ref o_14, .int 1])), (o_13, .inl (o_15, 4, .inl (fun _ => 0))), (o_14, .inl (o_16, 18, .inl (fun _ => 0))), (q_17, .inr (3, [.ref o_21, .ref o_22, .int 1])), (o_21, .inl (o_23, 4, .inl (fun _ => 0))), (o_22, .inl (o_24, 18, .inl (fun _ => 0))), (q_25, .inr (9, [.ref o_29, .ref o_30, .ref o_31, .int 0])), (o_29, .inl (o_32, 960, .inl (fun _ => 0))), (o_30, .inl (o_33, 12, .inl (fun _ => 0))), (q_34, .inr (9, [.ref o_38, .ref o_39, .ref o_40, .int 0])), (o_38, .inl (o_41, 960, .inl (fun _ => 0))), (o_39, .inl (o_42, 12, .inl (fun _ => 0))), (q_43, .inr (0, [.ref o_47, .ref o_48, .ref o_49])), (o_47, .inl (o_50, 6, .inl o_53)), (o_48, .inl (o_51, 6, .inl (fun _ => 0))), (o_49, .inl (o_52, 360, .inr (.inl (fun _ => 0)))), (q_54, .inr (6, [.ref o_58, .ref o_59, .ref o_60, .ref o_61, .ref o_62, .ref o_63, .ref o_64, .ref o_65, .ref o_66, .ref o_67, .ref o_68, .int 0])), (o_65, .inl (o_69, 256, .inl o_70)), (q_71, .inl (k_72, 100, .inl (fun _ => 0))), (q_73, .inr (4, [.ref q_54, .ref q_71, .ref o_77, .int 0, .int 0, .int 0, .int 0, .int (-1)])), (o_77, .inl (o_78, 101, .inl (fun _ => 0))), (q_91, .inr (5, [.ref o_95, .ref o_96, .ref o_97, .int 1, .int 1])), (o_95, .inl (o_98, 6, .inl (fun _ => 0))), (o_96, .inl (o_99, 6, .inl (fun _ => 0))), (o_97, .inl (o_100, 6, .inl (fun _ => 0))), (q_101, .inr (8, [.null, .null, .null, .null, .null, .null, .null, .null, .null, .null, .null, .null, .null, .int 0, .int 0]))] H := hP
  have hD : va_D A [(x, .inr (11, [.ref q_1, .ref q_9, .ref q_17, .ref q_25, .ref q_34, .ref q_43, .ref q_54, .ref q_71, .ref q_73, .ref q_79, .ref q_83, .ref q_87, .ref q_91, .null, .null, .int 0, .int 0])), (q_1, .inr (3, [.ref o_5, .ref o_6, .int 1])), (o_5, .inl (o_7, 4, .inl (fun _ => 0))), (o_6, .inl (o_8, 18, .inl (fun _ => 0))), (q_9, .inr (3, [.ref o_13, .ref o_14, .int 1])), (o_13, .inl (o_15, 4, .inl (fun _ => 0))), (o_14, .inl (o_16, 18, .inl (fun _ => 0))), (q_17, .inr (3, [.ref o_21, .ref o_22, .int 1])), (o_21, .inl (o_23, 4, .inl (fun _ => 0))), (o_22, .inl (o_24, 18, .inl (fun _ => 0))), (q_25, .inr (9, [.ref o_29, .ref o_30, .ref o_31, .int 0])), (o_29, .inl (o_32, 960, .inl (fun _ => 0))), (o_30, .inl (o_33, 12, .inl (fun _ => 0))), (q_34, .inr (9, [.ref o_38, .ref o_39, .ref o_40, .int 0])), (o_38, .inl (o_41, 960, .inl (fun _ => 0))), (o_39, .inl (o_42, 12, .inl (fun _ => 0))), (q_43, .inr (0, [.ref o_47, .ref o_48, .ref o_49])), (o_47, .inl (o_50, 6, .inl o_53)), (o_48, .inl (o_51, 6, .inl (fun _ => 0))), (o_49, .inl (o_52, 360, .inr (.inl (fun _ => 0)))), (q_54, .inr (6, [.ref o_58, .ref o_59, .ref o_60, .ref o_61, .ref o_62, .ref o_63, .ref o_64, .ref o_65, .ref o_66, .ref o_67, .ref o_68, .int 0])), (o_65, .inl (o_69, 256, .inl o_70)), (q_71, .inl (k_72, 100, .inl (fun _ => 0))), (q_73, .inr (4, [.ref q_54, .ref q_71, .ref o_77, .int 0, .int 0, .int 0, .int 0, .int (-1)])), (o_77, .inl (o_78, 101, .inl (fun _ => 0))), (q_91, .inr (5, [.ref o_95, .ref o_96, .ref o_97, .int 1, .int 1])), (o_95, .inl (o_98, 6, .inl (fun _ => 0))), (o_96, .inl (o_99, 6, .inl (fun _ => 0))), (o_97, .inl (o_100, 6, .inl (fun _ => 0))), (q_101, .inr (8, [.null, .null, .null, .null, .null, .null, .null, .null, .null, .null, .null, .null, .null, .int 0, .int 0]))] := hD
  refine W.widen (k := 52) (n := 28895) (by decide) (Nat.le_of_ble_eq_true rfl) ?_
  refine lv_dup hx hb dX11_init_168 rfl ?_
  refine lv_aload_n hx hb dX11_init_169 rfl (lv_at hl 0 rfl) ?_
  refine va_get (D := D) (ci := 11) (v := .ref q_54) (C := RX11) (T := TX11) (N := 17) hx hb hts hiX11 hown hK hP 0 rfl rfl 6 (by decide) (hts (.fieldLink RX11 44 "DynamicLogicProver" "pool" "LDynamicLogicProver$Pool;") (mo_X11_init 29 rfl)) (fun _ h9 => h9) rfl dX11_init_170 ?_
  refine lv_aload_n hx hb dX11_init_173 rfl (lv_at hl 0 rfl) ?_
  refine va_get (D := D) (ci := 11) (v := .ref q_87) (C := RX11) (T := TX11) (N := 17) hx hb hts hiX11 hown hK hP 0 rfl rfl 11 (by decide) (hts (.fieldLink RX11 80 "DynamicLogicProver" "closure" "LDynamicLogicProver$Closure;") (mo_X11_init 55 rfl)) (fun _ h9 => h9) rfl dX11_init_174 ?_
  refine lv_aload_n hx hb dX11_init_177 rfl (lv_at hl 0 rfl) ?_
  refine va_get (D := D) (ci := 11) (v := .ref q_83) (C := RX11) (T := TX11) (N := 17) hx hb hts hiX11 hown hK hP 0 rfl rfl 10 (by decide) (hts (.fieldLink RX11 73 "DynamicLogicProver" "truth" "LDynamicLogicProver$Truth;") (mo_X11_init 49 rfl)) (fun _ h9 => h9) rfl dX11_init_178 ?_
  refine lv_aload_n hx hb dX11_init_181 rfl (lv_at hl 0 rfl) ?_
  refine va_get (D := D) (ci := 11) (v := .ref q_1) (C := RX11) (T := TX11) (N := 17) hx hb hts hiX11 hown hK hP 0 rfl rfl 0 (by decide) (hts (.fieldLink RX11 12 "DynamicLogicProver" "model" "LDynamicLogicProver$Model;") (mo_X11_init 8 rfl)) (fun _ h9 => h9) rfl dX11_init_182 ?_
  refine kc_Iv (As := [.ref q_54, .ref q_87, .ref q_83, .ref q_1]) (rest := [.ref q_101, .ref x]) (wr := [(x, .inr (11, [.ref q_1, .ref q_9, .ref q_17, .ref q_25, .ref q_34, .ref q_43, .ref q_54, .ref q_71, .ref q_73, .ref q_79, .ref q_83, .ref q_87, .ref q_91, .null, .null, .int 0, .int 0])), (q_1, .inr (3, [.ref o_5, .ref o_6, .int 1])), (o_5, .inl (o_7, 4, .inl (fun _ => 0))), (o_6, .inl (o_8, 18, .inl (fun _ => 0))), (q_9, .inr (3, [.ref o_13, .ref o_14, .int 1])), (o_13, .inl (o_15, 4, .inl (fun _ => 0))), (o_14, .inl (o_16, 18, .inl (fun _ => 0))), (q_17, .inr (3, [.ref o_21, .ref o_22, .int 1])), (o_21, .inl (o_23, 4, .inl (fun _ => 0))), (o_22, .inl (o_24, 18, .inl (fun _ => 0))), (q_25, .inr (9, [.ref o_29, .ref o_30, .ref o_31, .int 0])), (o_29, .inl (o_32, 960, .inl (fun _ => 0))), (o_30, .inl (o_33, 12, .inl (fun _ => 0))), (q_34, .inr (9, [.ref o_38, .ref o_39, .ref o_40, .int 0])), (o_38, .inl (o_41, 960, .inl (fun _ => 0))), (o_39, .inl (o_42, 12, .inl (fun _ => 0))), (q_43, .inr (0, [.ref o_47, .ref o_48, .ref o_49])), (o_47, .inl (o_50, 6, .inl o_53)), (o_48, .inl (o_51, 6, .inl (fun _ => 0))), (o_49, .inl (o_52, 360, .inr (.inl (fun _ => 0)))), (q_54, .inr (6, [.ref o_58, .ref o_59, .ref o_60, .ref o_61, .ref o_62, .ref o_63, .ref o_64, .ref o_65, .ref o_66, .ref o_67, .ref o_68, .int 0])), (o_65, .inl (o_69, 256, .inl o_70)), (q_71, .inl (k_72, 100, .inl (fun _ => 0))), (q_73, .inr (4, [.ref q_54, .ref q_71, .ref o_77, .int 0, .int 0, .int 0, .int 0, .int (-1)])), (o_77, .inl (o_78, 101, .inl (fun _ => 0))), (q_91, .inr (5, [.ref o_95, .ref o_96, .ref o_97, .int 1, .int 1])), (o_95, .inl (o_98, 6, .inl (fun _ => 0))), (o_96, .inl (o_99, 6, .inl (fun _ => 0))), (o_97, .inl (o_100, 6, .inl (fun _ => 0)))]) ⟨hx, hb, hml, hown, hts⟩ (ct_X8_init l D q_101 q_54 q_87 q_83 q_1 _ ) (cwI 4 hts (goodIn_sub mb_X11_init_9 gw_X8_init) rfl rfl rfl (hts (.initialized RX8) (mo_X11_init 64 rfl)) (hts (.methodLink RX11 93 yX8_init) (mo_X11_init 65 rfl)) (hts (.instanceMethod yX8_init) (mo_X11_init 66 rfl)) rfl hd_X8_init ⟨Nat.le_of_ble_eq_true rfl, Nat.le_of_ble_eq_true rfl⟩) hK hN hP hD hS hA [29] [0, 1, 2, 3, 4, 5, 6, 7, 8, 9, 10, 11, 12, 13, 14, 15, 16, 17, 18, 19, 20, 21, 22, 23, 24, 25, 26, 27, 28] [] rfl rfl (by decide) (by decide) (by decide) rfl rfl hl.1 rfl (Nat.le_of_ble_eq_true rfl) dX11_init_185 ⟨Nat.le_of_ble_eq_true rfl, Nat.le_of_ble_eq_true rfl⟩ (fun u_103 H locs w_104 hP hD hK1 hS => ?_)
  have hP : va_P D vwCl [(x, .inr (11, [.ref q_1, .ref q_9, .ref q_17, .ref q_25, .ref q_34, .ref q_43, .ref q_54, .ref q_71, .ref q_73, .ref q_79, .ref q_83, .ref q_87, .ref q_91, .null, .null, .int 0, .int 0])), (q_1, .inr (3, [.ref o_5, .ref o_6, .int 1])), (o_5, .inl (o_7, 4, .inl (fun _ => 0))), (o_6, .inl (o_8, 18, .inl (fun _ => 0))), (q_9, .inr (3, [.ref o_13, .ref o_14, .int 1])), (o_13, .inl (o_15, 4, .inl (fun _ => 0))), (o_14, .inl (o_16, 18, .inl (fun _ => 0))), (q_17, .inr (3, [.ref o_21, .ref o_22, .int 1])), (o_21, .inl (o_23, 4, .inl (fun _ => 0))), (o_22, .inl (o_24, 18, .inl (fun _ => 0))), (q_25, .inr (9, [.ref o_29, .ref o_30, .ref o_31, .int 0])), (o_29, .inl (o_32, 960, .inl (fun _ => 0))), (o_30, .inl (o_33, 12, .inl (fun _ => 0))), (q_34, .inr (9, [.ref o_38, .ref o_39, .ref o_40, .int 0])), (o_38, .inl (o_41, 960, .inl (fun _ => 0))), (o_39, .inl (o_42, 12, .inl (fun _ => 0))), (q_43, .inr (0, [.ref o_47, .ref o_48, .ref o_49])), (o_47, .inl (o_50, 6, .inl o_53)), (o_48, .inl (o_51, 6, .inl (fun _ => 0))), (o_49, .inl (o_52, 360, .inr (.inl (fun _ => 0)))), (q_54, .inr (6, [.ref o_58, .ref o_59, .ref o_60, .ref o_61, .ref o_62, .ref o_63, .ref o_64, .ref o_65, .ref o_66, .ref o_67, .ref o_68, .int 0])), (o_65, .inl (o_69, 256, .inl o_70)), (q_71, .inl (k_72, 100, .inl (fun _ => 0))), (q_73, .inr (4, [.ref q_54, .ref q_71, .ref o_77, .int 0, .int 0, .int 0, .int 0, .int (-1)])), (o_77, .inl (o_78, 101, .inl (fun _ => 0))), (q_91, .inr (5, [.ref o_95, .ref o_96, .ref o_97, .int 1, .int 1])), (o_95, .inl (o_98, 6, .inl (fun _ => 0))), (o_96, .inl (o_99, 6, .inl (fun _ => 0))), (o_97, .inl (o_100, 6, .inl (fun _ => 0)))] H := hP
  have hD : va_D A [(x, .inr (11, [.ref q_1, .ref q_9, .ref q_17, .ref q_25, .ref q_34, .ref q_43, .ref q_54, .ref q_71, .ref q_73, .ref q_79, .ref q_83, .ref q_87, .ref q_91, .null, .null, .int 0, .int 0])), (q_1, .inr (3, [.ref o_5, .ref o_6, .int 1])), (o_5, .inl (o_7, 4, .inl (fun _ => 0))), (o_6, .inl (o_8, 18, .inl (fun _ => 0))), (q_9, .inr (3, [.ref o_13, .ref o_14, .int 1])), (o_13, .inl (o_15, 4, .inl (fun _ => 0))), (o_14, .inl (o_16, 18, .inl (fun _ => 0))), (q_17, .inr (3, [.ref o_21, .ref o_22, .int 1])), (o_21, .inl (o_23, 4, .inl (fun _ => 0))), (o_22, .inl (o_24, 18, .inl (fun _ => 0))), (q_25, .inr (9, [.ref o_29, .ref o_30, .ref o_31, .int 0])), (o_29, .inl (o_32, 960, .inl (fun _ => 0))), (o_30, .inl (o_33, 12, .inl (fun _ => 0))), (q_34, .inr (9, [.ref o_38, .ref o_39, .ref o_40, .int 0])), (o_38, .inl (o_41, 960, .inl (fun _ => 0))), (o_39, .inl (o_42, 12, .inl (fun _ => 0))), (q_43, .inr (0, [.ref o_47, .ref o_48, .ref o_49])), (o_47, .inl (o_50, 6, .inl o_53)), (o_48, .inl (o_51, 6, .inl (fun _ => 0))), (o_49, .inl (o_52, 360, .inr (.inl (fun _ => 0)))), (q_54, .inr (6, [.ref o_58, .ref o_59, .ref o_60, .ref o_61, .ref o_62, .ref o_63, .ref o_64, .ref o_65, .ref o_66, .ref o_67, .ref o_68, .int 0])), (o_65, .inl (o_69, 256, .inl o_70)), (q_71, .inl (k_72, 100, .inl (fun _ => 0))), (q_73, .inr (4, [.ref q_54, .ref q_71, .ref o_77, .int 0, .int 0, .int 0, .int 0, .int (-1)])), (o_77, .inl (o_78, 101, .inl (fun _ => 0))), (q_91, .inr (5, [.ref o_95, .ref o_96, .ref o_97, .int 1, .int 1])), (o_95, .inl (o_98, 6, .inl (fun _ => 0))), (o_96, .inl (o_99, 6, .inl (fun _ => 0))), (o_97, .inl (o_100, 6, .inl (fun _ => 0)))] := hD
  refine W.widen (k := 61) (n := 42897) (by decide) (Nat.le_of_ble_eq_true rfl) ?_
  refine va_putF (D := D) (ci := 11) (v := .ref q_101) (ty := .object "DynamicLogicProver$Runs") (C := RX11) (T := TX11) (N := 17) hx hb hts hiX11 tyX11 tyX11_ok nmX11 hown hK hP hD hS 0 rfl rfl 13 (by decide) (hts (.fieldLink RX11 96 "DynamicLogicProver" "runs" "LDynamicLogicProver$Runs;") (mo_X11_init 67 rfl)) (fun _ h9 => h9) rfl hin rfl (tyX11_ok 13 (by decide)) rfl rfl (Nat.le_of_ble_eq_true rfl) dX11_init_188 (fun H locs hP hD hS => ?_)
  have hP : va_P D vwCl [(x, .inr (11, [.ref q_1, .ref q_9, .ref q_17, .ref q_25, .ref q_34, .ref q_43, .ref q_54, .ref q_71, .ref q_73, .ref q_79, .ref q_83, .ref q_87, .ref q_91, .ref q_101, .null, .int 0, .int 0])), (q_1, .inr (3, [.ref o_5, .ref o_6, .int 1])), (o_5, .inl (o_7, 4, .inl (fun _ => 0))), (o_6, .inl (o_8, 18, .inl (fun _ => 0))), (q_9, .inr (3, [.ref o_13, .ref o_14, .int 1])), (o_13, .inl (o_15, 4, .inl (fun _ => 0))), (o_14, .inl (o_16, 18, .inl (fun _ => 0))), (q_17, .inr (3, [.ref o_21, .ref o_22, .int 1])), (o_21, .inl (o_23, 4, .inl (fun _ => 0))), (o_22, .inl (o_24, 18, .inl (fun _ => 0))), (q_25, .inr (9, [.ref o_29, .ref o_30, .ref o_31, .int 0])), (o_29, .inl (o_32, 960, .inl (fun _ => 0))), (o_30, .inl (o_33, 12, .inl (fun _ => 0))), (q_34, .inr (9, [.ref o_38, .ref o_39, .ref o_40, .int 0])), (o_38, .inl (o_41, 960, .inl (fun _ => 0))), (o_39, .inl (o_42, 12, .inl (fun _ => 0))), (q_43, .inr (0, [.ref o_47, .ref o_48, .ref o_49])), (o_47, .inl (o_50, 6, .inl o_53)), (o_48, .inl (o_51, 6, .inl (fun _ => 0))), (o_49, .inl (o_52, 360, .inr (.inl (fun _ => 0)))), (q_54, .inr (6, [.ref o_58, .ref o_59, .ref o_60, .ref o_61, .ref o_62, .ref o_63, .ref o_64, .ref o_65, .ref o_66, .ref o_67, .ref o_68, .int 0])), (o_65, .inl (o_69, 256, .inl o_70)), (q_71, .inl (k_72, 100, .inl (fun _ => 0))), (q_73, .inr (4, [.ref q_54, .ref q_71, .ref o_77, .int 0, .int 0, .int 0, .int 0, .int (-1)])), (o_77, .inl (o_78, 101, .inl (fun _ => 0))), (q_91, .inr (5, [.ref o_95, .ref o_96, .ref o_97, .int 1, .int 1])), (o_95, .inl (o_98, 6, .inl (fun _ => 0))), (o_96, .inl (o_99, 6, .inl (fun _ => 0))), (o_97, .inl (o_100, 6, .inl (fun _ => 0)))] H := hP
  have hD : va_D A [(x, .inr (11, [.ref q_1, .ref q_9, .ref q_17, .ref q_25, .ref q_34, .ref q_43, .ref q_54, .ref q_71, .ref q_73, .ref q_79, .ref q_83, .ref q_87, .ref q_91, .ref q_101, .null, .int 0, .int 0])), (q_1, .inr (3, [.ref o_5, .ref o_6, .int 1])), (o_5, .inl (o_7, 4, .inl (fun _ => 0))), (o_6, .inl (o_8, 18, .inl (fun _ => 0))), (q_9, .inr (3, [.ref o_13, .ref o_14, .int 1])), (o_13, .inl (o_15, 4, .inl (fun _ => 0))), (o_14, .inl (o_16, 18, .inl (fun _ => 0))), (q_17, .inr (3, [.ref o_21, .ref o_22, .int 1])), (o_21, .inl (o_23, 4, .inl (fun _ => 0))), (o_22, .inl (o_24, 18, .inl (fun _ => 0))), (q_25, .inr (9, [.ref o_29, .ref o_30, .ref o_31, .int 0])), (o_29, .inl (o_32, 960, .inl (fun _ => 0))), (o_30, .inl (o_33, 12, .inl (fun _ => 0))), (q_34, .inr (9, [.ref o_38, .ref o_39, .ref o_40, .int 0])), (o_38, .inl (o_41, 960, .inl (fun _ => 0))), (o_39, .inl (o_42, 12, .inl (fun _ => 0))), (q_43, .inr (0, [.ref o_47, .ref o_48, .ref o_49])), (o_47, .inl (o_50, 6, .inl o_53)), (o_48, .inl (o_51, 6, .inl (fun _ => 0))), (o_49, .inl (o_52, 360, .inr (.inl (fun _ => 0)))), (q_54, .inr (6, [.ref o_58, .ref o_59, .ref o_60, .ref o_61, .ref o_62, .ref o_63, .ref o_64, .ref o_65, .ref o_66, .ref o_67, .ref o_68, .int 0])), (o_65, .inl (o_69, 256, .inl o_70)), (q_71, .inl (k_72, 100, .inl (fun _ => 0))), (q_73, .inr (4, [.ref q_54, .ref q_71, .ref o_77, .int 0, .int 0, .int 0, .int 0, .int (-1)])), (o_77, .inl (o_78, 101, .inl (fun _ => 0))), (q_91, .inr (5, [.ref o_95, .ref o_96, .ref o_97, .int 1, .int 1])), (o_95, .inl (o_98, 6, .inl (fun _ => 0))), (o_96, .inl (o_99, 6, .inl (fun _ => 0))), (o_97, .inl (o_100, 6, .inl (fun _ => 0)))] := hD
  refine lv_aload_n hx hb dX11_init_191 rfl (lv_at hl 0 rfl) ?_
  refine va_new (ci := 2) (fs := [.null, .null, .null, .null, .null, .null, .null, .null, .null, .null, .int 0, .int 0, .int 0]) (C := RX2) (T := TX2) (N := 13) hx hb hts hiX2 tyX2 tyX2_ok hown (hts (.classLink RX11 100 RX2) (mo_X11_init 68 rfl)) (hts (.instantiable RX2 13) (mo_X11_init 69 rfl)) (hts (.initialized RX2) (mo_X11_init 70 rfl)) hK hP hD hS hA rfl (fun j hj => by rcases (show j = 0 ∨ j = 1 ∨ j = 2 ∨ j = 3 ∨ j = 4 ∨ j = 5 ∨ j = 6 ∨ j = 7 ∨ j = 8 ∨ j = 9 ∨ j = 10 ∨ j = 11 ∨ j = 12 by omega) with rfl | rfl | rfl | rfl | rfl | rfl | rfl | rfl | rfl | rfl | rfl | rfl | rfl <;> rfl) (Nat.le_of_ble_eq_true rfl) (Nat.le_of_ble_eq_true rfl) dX11_init_192 (fun q_105 H hP hD hS => ?_)
  have hP : va_P D vwCl [(x, .inr (11, [.ref q_1, .ref q_9, .ref q_17, .ref q_25, .ref q_34, .ref q_43, .ref q_54, .ref q_71, .ref q_73, .ref q_79, .ref q_83, .ref q_87, .ref q_91, .ref q_101, .null, .int 0, .int 0])), (q_1, .inr (3, [.ref o_5, .ref o_6, .int 1])), (o_5, .inl (o_7, 4, .inl (fun _ => 0))), (o_6, .inl (o_8, 18, .inl (fun _ => 0))), (q_9, .inr (3, [.ref o_13, .ref o_14, .int 1])), (o_13, .inl (o_15, 4, .inl (fun _ => 0))), (o_14, .inl (o_16, 18, .inl (fun _ => 0))), (q_17, .inr (3, [.ref o_21, .ref o_22, .int 1])), (o_21, .inl (o_23, 4, .inl (fun _ => 0))), (o_22, .inl (o_24, 18, .inl (fun _ => 0))), (q_25, .inr (9, [.ref o_29, .ref o_30, .ref o_31, .int 0])), (o_29, .inl (o_32, 960, .inl (fun _ => 0))), (o_30, .inl (o_33, 12, .inl (fun _ => 0))), (q_34, .inr (9, [.ref o_38, .ref o_39, .ref o_40, .int 0])), (o_38, .inl (o_41, 960, .inl (fun _ => 0))), (o_39, .inl (o_42, 12, .inl (fun _ => 0))), (q_43, .inr (0, [.ref o_47, .ref o_48, .ref o_49])), (o_47, .inl (o_50, 6, .inl o_53)), (o_48, .inl (o_51, 6, .inl (fun _ => 0))), (o_49, .inl (o_52, 360, .inr (.inl (fun _ => 0)))), (q_54, .inr (6, [.ref o_58, .ref o_59, .ref o_60, .ref o_61, .ref o_62, .ref o_63, .ref o_64, .ref o_65, .ref o_66, .ref o_67, .ref o_68, .int 0])), (o_65, .inl (o_69, 256, .inl o_70)), (q_71, .inl (k_72, 100, .inl (fun _ => 0))), (q_73, .inr (4, [.ref q_54, .ref q_71, .ref o_77, .int 0, .int 0, .int 0, .int 0, .int (-1)])), (o_77, .inl (o_78, 101, .inl (fun _ => 0))), (q_91, .inr (5, [.ref o_95, .ref o_96, .ref o_97, .int 1, .int 1])), (o_95, .inl (o_98, 6, .inl (fun _ => 0))), (o_96, .inl (o_99, 6, .inl (fun _ => 0))), (o_97, .inl (o_100, 6, .inl (fun _ => 0))), (q_105, .inr (2, [.null, .null, .null, .null, .null, .null, .null, .null, .null, .null, .int 0, .int 0, .int 0]))] H := hP
  have hD : va_D A [(x, .inr (11, [.ref q_1, .ref q_9, .ref q_17, .ref q_25, .ref q_34, .ref q_43, .ref q_54, .ref q_71, .ref q_73, .ref q_79, .ref q_83, .ref q_87, .ref q_91, .ref q_101, .null, .int 0, .int 0])), (q_1, .inr (3, [.ref o_5, .ref o_6, .int 1])), (o_5, .inl (o_7, 4, .inl (fun _ => 0))), (o_6, .inl (o_8, 18, .inl (fun _ => 0))), (q_9, .inr (3, [.ref o_13, .ref o_14, .int 1])), (o_13, .inl (o_15, 4, .inl (fun _ => 0))), (o_14, .inl (o_16, 18, .inl (fun _ => 0))), (q_17, .inr (3, [.ref o_21, .ref o_22, .int 1])), (o_21, .inl (o_23, 4, .inl (fun _ => 0))), (o_22, .inl (o_24, 18, .inl (fun _ => 0))), (q_25, .inr (9, [.ref o_29, .ref o_30, .ref o_31, .int 0])), (o_29, .inl (o_32, 960, .inl (fun _ => 0))), (o_30, .inl (o_33, 12, .inl (fun _ => 0))), (q_34, .inr (9, [.ref o_38, .ref o_39, .ref o_40, .int 0])), (o_38, .inl (o_41, 960, .inl (fun _ => 0))), (o_39, .inl (o_42, 12, .inl (fun _ => 0))), (q_43, .inr (0, [.ref o_47, .ref o_48, .ref o_49])), (o_47, .inl (o_50, 6, .inl o_53)), (o_48, .inl (o_51, 6, .inl (fun _ => 0))), (o_49, .inl (o_52, 360, .inr (.inl (fun _ => 0)))), (q_54, .inr (6, [.ref o_58, .ref o_59, .ref o_60, .ref o_61, .ref o_62, .ref o_63, .ref o_64, .ref o_65, .ref o_66, .ref o_67, .ref o_68, .int 0])), (o_65, .inl (o_69, 256, .inl o_70)), (q_71, .inl (k_72, 100, .inl (fun _ => 0))), (q_73, .inr (4, [.ref q_54, .ref q_71, .ref o_77, .int 0, .int 0, .int 0, .int 0, .int (-1)])), (o_77, .inl (o_78, 101, .inl (fun _ => 0))), (q_91, .inr (5, [.ref o_95, .ref o_96, .ref o_97, .int 1, .int 1])), (o_95, .inl (o_98, 6, .inl (fun _ => 0))), (o_96, .inl (o_99, 6, .inl (fun _ => 0))), (o_97, .inl (o_100, 6, .inl (fun _ => 0))), (q_105, .inr (2, [.null, .null, .null, .null, .null, .null, .null, .null, .null, .null, .int 0, .int 0, .int 0]))] := hD
  refine W.widen (k := 62) (n := 42910) (by decide) (Nat.le_of_ble_eq_true rfl) ?_
  refine lv_dup hx hb dX11_init_195 rfl ?_
  refine lv_aload_n hx hb dX11_init_196 rfl (lv_at hl 0 rfl) ?_
  refine va_get (D := D) (ci := 11) (v := .ref q_87) (C := RX11) (T := TX11) (N := 17) hx hb hts hiX11 hown hK hP 0 rfl rfl 11 (by decide) (hts (.fieldLink RX11 80 "DynamicLogicProver" "closure" "LDynamicLogicProver$Closure;") (mo_X11_init 55 rfl)) (fun _ h9 => h9) rfl dX11_init_197 ?_
  refine kc_Iv (As := [.ref q_87]) (rest := [.ref q_105, .ref x]) (wr := [(x, .inr (11, [.ref q_1, .ref q_9, .ref q_17, .ref q_25, .ref q_34, .ref q_43, .ref q_54, .ref q_71, .ref q_73, .ref q_79, .ref q_83, .ref q_87, .ref q_91, .ref q_101, .null, .int 0, .int 0])), (q_1, .inr (3, [.ref o_5, .ref o_6, .int 1])), (o_5, .inl (o_7, 4, .inl (fun _ => 0))), (o_6, .inl (o_8, 18, .inl (fun _ => 0))), (q_9, .inr (3, [.ref o_13, .ref o_14, .int 1])), (o_13, .inl (o_15, 4, .inl (fun _ => 0))), (o_14, .inl (o_16, 18, .inl (fun _ => 0))), (q_17, .inr (3, [.ref o_21, .ref o_22, .int 1])), (o_21, .inl (o_23, 4, .inl (fun _ => 0))), (o_22, .inl (o_24, 18, .inl (fun _ => 0))), (q_25, .inr (9, [.ref o_29, .ref o_30, .ref o_31, .int 0])), (o_29, .inl (o_32, 960, .inl (fun _ => 0))), (o_30, .inl (o_33, 12, .inl (fun _ => 0))), (q_34, .inr (9, [.ref o_38, .ref o_39, .ref o_40, .int 0])), (o_38, .inl (o_41, 960, .inl (fun _ => 0))), (o_39, .inl (o_42, 12, .inl (fun _ => 0))), (q_43, .inr (0, [.ref o_47, .ref o_48, .ref o_49])), (o_47, .inl (o_50, 6, .inl o_53)), (o_48, .inl (o_51, 6, .inl (fun _ => 0))), (o_49, .inl (o_52, 360, .inr (.inl (fun _ => 0)))), (q_54, .inr (6, [.ref o_58, .ref o_59, .ref o_60, .ref o_61, .ref o_62, .ref o_63, .ref o_64, .ref o_65, .ref o_66, .ref o_67, .ref o_68, .int 0])), (o_65, .inl (o_69, 256, .inl o_70)), (q_71, .inl (k_72, 100, .inl (fun _ => 0))), (q_73, .inr (4, [.ref q_54, .ref q_71, .ref o_77, .int 0, .int 0, .int 0, .int 0, .int (-1)])), (o_77, .inl (o_78, 101, .inl (fun _ => 0))), (q_91, .inr (5, [.ref o_95, .ref o_96, .ref o_97, .int 1, .int 1])), (o_95, .inl (o_98, 6, .inl (fun _ => 0))), (o_96, .inl (o_99, 6, .inl (fun _ => 0))), (o_97, .inl (o_100, 6, .inl (fun _ => 0)))]) ⟨hx, hb, hml, hown, hts⟩ (ct_X2_init l D q_105 q_87 _ ) (cwI 1 hts (goodIn_sub mb_X11_init_10 gw_X2_init) rfl rfl rfl (hts (.initialized RX2) (mo_X11_init 70 rfl)) (hts (.methodLink RX11 102 yX2_init) (mo_X11_init 71 rfl)) (hts (.instanceMethod yX2_init) (mo_X11_init 72 rfl)) rfl hd_X2_init ⟨Nat.le_of_ble_eq_true rfl, Nat.le_of_ble_eq_true rfl⟩) hK hN hP hD hS hA [29] [0, 1, 2, 3, 4, 5, 6, 7, 8, 9, 10, 11, 12, 13, 14, 15, 16, 17, 18, 19, 20, 21, 22, 23, 24, 25, 26, 27, 28] [] rfl rfl (by decide) (by decide) (by decide) rfl rfl hl.1 rfl (Nat.le_of_ble_eq_true rfl) dX11_init_200 ⟨Nat.le_of_ble_eq_true rfl, Nat.le_of_ble_eq_true rfl⟩ (fun u_107 H locs w_108 hP hD hK1 hS => ?_)
  have hP : va_P D vwCl [(x, .inr (11, [.ref q_1, .ref q_9, .ref q_17, .ref q_25, .ref q_34, .ref q_43, .ref q_54, .ref q_71, .ref q_73, .ref q_79, .ref q_83, .ref q_87, .ref q_91, .ref q_101, .null, .int 0, .int 0])), (q_1, .inr (3, [.ref o_5, .ref o_6, .int 1])), (o_5, .inl (o_7, 4, .inl (fun _ => 0))), (o_6, .inl (o_8, 18, .inl (fun _ => 0))), (q_9, .inr (3, [.ref o_13, .ref o_14, .int 1])), (o_13, .inl (o_15, 4, .inl (fun _ => 0))), (o_14, .inl (o_16, 18, .inl (fun _ => 0))), (q_17, .inr (3, [.ref o_21, .ref o_22, .int 1])), (o_21, .inl (o_23, 4, .inl (fun _ => 0))), (o_22, .inl (o_24, 18, .inl (fun _ => 0))), (q_25, .inr (9, [.ref o_29, .ref o_30, .ref o_31, .int 0])), (o_29, .inl (o_32, 960, .inl (fun _ => 0))), (o_30, .inl (o_33, 12, .inl (fun _ => 0))), (q_34, .inr (9, [.ref o_38, .ref o_39, .ref o_40, .int 0])), (o_38, .inl (o_41, 960, .inl (fun _ => 0))), (o_39, .inl (o_42, 12, .inl (fun _ => 0))), (q_43, .inr (0, [.ref o_47, .ref o_48, .ref o_49])), (o_47, .inl (o_50, 6, .inl o_53)), (o_48, .inl (o_51, 6, .inl (fun _ => 0))), (o_49, .inl (o_52, 360, .inr (.inl (fun _ => 0)))), (q_54, .inr (6, [.ref o_58, .ref o_59, .ref o_60, .ref o_61, .ref o_62, .ref o_63, .ref o_64, .ref o_65, .ref o_66, .ref o_67, .ref o_68, .int 0])), (o_65, .inl (o_69, 256, .inl o_70)), (q_71, .inl (k_72, 100, .inl (fun _ => 0))), (q_73, .inr (4, [.ref q_54, .ref q_71, .ref o_77, .int 0, .int 0, .int 0, .int 0, .int (-1)])), (o_77, .inl (o_78, 101, .inl (fun _ => 0))), (q_91, .inr (5, [.ref o_95, .ref o_96, .ref o_97, .int 1, .int 1])), (o_95, .inl (o_98, 6, .inl (fun _ => 0))), (o_96, .inl (o_99, 6, .inl (fun _ => 0))), (o_97, .inl (o_100, 6, .inl (fun _ => 0)))] H := hP
  have hD : va_D A [(x, .inr (11, [.ref q_1, .ref q_9, .ref q_17, .ref q_25, .ref q_34, .ref q_43, .ref q_54, .ref q_71, .ref q_73, .ref q_79, .ref q_83, .ref q_87, .ref q_91, .ref q_101, .null, .int 0, .int 0])), (q_1, .inr (3, [.ref o_5, .ref o_6, .int 1])), (o_5, .inl (o_7, 4, .inl (fun _ => 0))), (o_6, .inl (o_8, 18, .inl (fun _ => 0))), (q_9, .inr (3, [.ref o_13, .ref o_14, .int 1])), (o_13, .inl (o_15, 4, .inl (fun _ => 0))), (o_14, .inl (o_16, 18, .inl (fun _ => 0))), (q_17, .inr (3, [.ref o_21, .ref o_22, .int 1])), (o_21, .inl (o_23, 4, .inl (fun _ => 0))), (o_22, .inl (o_24, 18, .inl (fun _ => 0))), (q_25, .inr (9, [.ref o_29, .ref o_30, .ref o_31, .int 0])), (o_29, .inl (o_32, 960, .inl (fun _ => 0))), (o_30, .inl (o_33, 12, .inl (fun _ => 0))), (q_34, .inr (9, [.ref o_38, .ref o_39, .ref o_40, .int 0])), (o_38, .inl (o_41, 960, .inl (fun _ => 0))), (o_39, .inl (o_42, 12, .inl (fun _ => 0))), (q_43, .inr (0, [.ref o_47, .ref o_48, .ref o_49])), (o_47, .inl (o_50, 6, .inl o_53)), (o_48, .inl (o_51, 6, .inl (fun _ => 0))), (o_49, .inl (o_52, 360, .inr (.inl (fun _ => 0)))), (q_54, .inr (6, [.ref o_58, .ref o_59, .ref o_60, .ref o_61, .ref o_62, .ref o_63, .ref o_64, .ref o_65, .ref o_66, .ref o_67, .ref o_68, .int 0])), (o_65, .inl (o_69, 256, .inl o_70)), (q_71, .inl (k_72, 100, .inl (fun _ => 0))), (q_73, .inr (4, [.ref q_54, .ref q_71, .ref o_77, .int 0, .int 0, .int 0, .int 0, .int (-1)])), (o_77, .inl (o_78, 101, .inl (fun _ => 0))), (q_91, .inr (5, [.ref o_95, .ref o_96, .ref o_97, .int 1, .int 1])), (o_95, .inl (o_98, 6, .inl (fun _ => 0))), (o_96, .inl (o_99, 6, .inl (fun _ => 0))), (o_97, .inl (o_100, 6, .inl (fun _ => 0)))] := hD
  refine W.widen (k := 71) (n := 48586) (by decide) (Nat.le_of_ble_eq_true rfl) ?_
  refine va_putF (D := D) (ci := 11) (v := .ref q_105) (ty := .object "DynamicLogicProver$Decision") (C := RX11) (T := TX11) (N := 17) hx hb hts hiX11 tyX11 tyX11_ok nmX11 hown hK hP hD hS 0 rfl rfl 14 (by decide) (hts (.fieldLink RX11 105 "DynamicLogicProver" "decision" "LDynamicLogicProver$Decision;") (mo_X11_init 73 rfl)) (fun _ h9 => h9) rfl hin rfl (tyX11_ok 14 (by decide)) rfl rfl (Nat.le_of_ble_eq_true rfl) dX11_init_203 (fun H locs hP hD hS => ?_)
  have hP : va_P D vwCl [(x, .inr (11, [.ref q_1, .ref q_9, .ref q_17, .ref q_25, .ref q_34, .ref q_43, .ref q_54, .ref q_71, .ref q_73, .ref q_79, .ref q_83, .ref q_87, .ref q_91, .ref q_101, .ref q_105, .int 0, .int 0])), (q_1, .inr (3, [.ref o_5, .ref o_6, .int 1])), (o_5, .inl (o_7, 4, .inl (fun _ => 0))), (o_6, .inl (o_8, 18, .inl (fun _ => 0))), (q_9, .inr (3, [.ref o_13, .ref o_14, .int 1])), (o_13, .inl (o_15, 4, .inl (fun _ => 0))), (o_14, .inl (o_16, 18, .inl (fun _ => 0))), (q_17, .inr (3, [.ref o_21, .ref o_22, .int 1])), (o_21, .inl (o_23, 4, .inl (fun _ => 0))), (o_22, .inl (o_24, 18, .inl (fun _ => 0))), (q_25, .inr (9, [.ref o_29, .ref o_30, .ref o_31, .int 0])), (o_29, .inl (o_32, 960, .inl (fun _ => 0))), (o_30, .inl (o_33, 12, .inl (fun _ => 0))), (q_34, .inr (9, [.ref o_38, .ref o_39, .ref o_40, .int 0])), (o_38, .inl (o_41, 960, .inl (fun _ => 0))), (o_39, .inl (o_42, 12, .inl (fun _ => 0))), (q_43, .inr (0, [.ref o_47, .ref o_48, .ref o_49])), (o_47, .inl (o_50, 6, .inl o_53)), (o_48, .inl (o_51, 6, .inl (fun _ => 0))), (o_49, .inl (o_52, 360, .inr (.inl (fun _ => 0)))), (q_54, .inr (6, [.ref o_58, .ref o_59, .ref o_60, .ref o_61, .ref o_62, .ref o_63, .ref o_64, .ref o_65, .ref o_66, .ref o_67, .ref o_68, .int 0])), (o_65, .inl (o_69, 256, .inl o_70)), (q_71, .inl (k_72, 100, .inl (fun _ => 0))), (q_73, .inr (4, [.ref q_54, .ref q_71, .ref o_77, .int 0, .int 0, .int 0, .int 0, .int (-1)])), (o_77, .inl (o_78, 101, .inl (fun _ => 0))), (q_91, .inr (5, [.ref o_95, .ref o_96, .ref o_97, .int 1, .int 1])), (o_95, .inl (o_98, 6, .inl (fun _ => 0))), (o_96, .inl (o_99, 6, .inl (fun _ => 0))), (o_97, .inl (o_100, 6, .inl (fun _ => 0)))] H := hP
  have hD : va_D A [(x, .inr (11, [.ref q_1, .ref q_9, .ref q_17, .ref q_25, .ref q_34, .ref q_43, .ref q_54, .ref q_71, .ref q_73, .ref q_79, .ref q_83, .ref q_87, .ref q_91, .ref q_101, .ref q_105, .int 0, .int 0])), (q_1, .inr (3, [.ref o_5, .ref o_6, .int 1])), (o_5, .inl (o_7, 4, .inl (fun _ => 0))), (o_6, .inl (o_8, 18, .inl (fun _ => 0))), (q_9, .inr (3, [.ref o_13, .ref o_14, .int 1])), (o_13, .inl (o_15, 4, .inl (fun _ => 0))), (o_14, .inl (o_16, 18, .inl (fun _ => 0))), (q_17, .inr (3, [.ref o_21, .ref o_22, .int 1])), (o_21, .inl (o_23, 4, .inl (fun _ => 0))), (o_22, .inl (o_24, 18, .inl (fun _ => 0))), (q_25, .inr (9, [.ref o_29, .ref o_30, .ref o_31, .int 0])), (o_29, .inl (o_32, 960, .inl (fun _ => 0))), (o_30, .inl (o_33, 12, .inl (fun _ => 0))), (q_34, .inr (9, [.ref o_38, .ref o_39, .ref o_40, .int 0])), (o_38, .inl (o_41, 960, .inl (fun _ => 0))), (o_39, .inl (o_42, 12, .inl (fun _ => 0))), (q_43, .inr (0, [.ref o_47, .ref o_48, .ref o_49])), (o_47, .inl (o_50, 6, .inl o_53)), (o_48, .inl (o_51, 6, .inl (fun _ => 0))), (o_49, .inl (o_52, 360, .inr (.inl (fun _ => 0)))), (q_54, .inr (6, [.ref o_58, .ref o_59, .ref o_60, .ref o_61, .ref o_62, .ref o_63, .ref o_64, .ref o_65, .ref o_66, .ref o_67, .ref o_68, .int 0])), (o_65, .inl (o_69, 256, .inl o_70)), (q_71, .inl (k_72, 100, .inl (fun _ => 0))), (q_73, .inr (4, [.ref q_54, .ref q_71, .ref o_77, .int 0, .int 0, .int 0, .int 0, .int (-1)])), (o_77, .inl (o_78, 101, .inl (fun _ => 0))), (q_91, .inr (5, [.ref o_95, .ref o_96, .ref o_97, .int 1, .int 1])), (o_95, .inl (o_98, 6, .inl (fun _ => 0))), (o_96, .inl (o_99, 6, .inl (fun _ => 0))), (o_97, .inl (o_100, 6, .inl (fun _ => 0)))] := hD
  refine lv_aload_n hx hb dX11_init_206 rfl (lv_at hl 0 rfl) ?_
  refine lv_iconst (v := 0) hx hb dX11_init_207 (by decide) ?_
  refine va_put (D := D) (ci := 11) (v := .int 0) (ty := .int) (C := RX11) (T := TX11) (N := 17) hx hb hts hiX11 tyX11 tyX11_ok nmX11 hown hK hP hD hS 0 rfl rfl 15 (by decide) (hts (.fieldLink RX11 109 "DynamicLogicProver" "textUsed" "I") (mo_X11_init 74 rfl)) (fun _ h9 => h9) rfl (tyX11_ok 15 (by decide)) rfl rfl (Nat.le_of_ble_eq_true rfl) dX11_init_208 (fun H locs hP hD hS => ?_)
  have hP : va_P D vwCl [(x, .inr (11, [.ref q_1, .ref q_9, .ref q_17, .ref q_25, .ref q_34, .ref q_43, .ref q_54, .ref q_71, .ref q_73, .ref q_79, .ref q_83, .ref q_87, .ref q_91, .ref q_101, .ref q_105, .int 0, .int 0])), (q_1, .inr (3, [.ref o_5, .ref o_6, .int 1])), (o_5, .inl (o_7, 4, .inl (fun _ => 0))), (o_6, .inl (o_8, 18, .inl (fun _ => 0))), (q_9, .inr (3, [.ref o_13, .ref o_14, .int 1])), (o_13, .inl (o_15, 4, .inl (fun _ => 0))), (o_14, .inl (o_16, 18, .inl (fun _ => 0))), (q_17, .inr (3, [.ref o_21, .ref o_22, .int 1])), (o_21, .inl (o_23, 4, .inl (fun _ => 0))), (o_22, .inl (o_24, 18, .inl (fun _ => 0))), (q_25, .inr (9, [.ref o_29, .ref o_30, .ref o_31, .int 0])), (o_29, .inl (o_32, 960, .inl (fun _ => 0))), (o_30, .inl (o_33, 12, .inl (fun _ => 0))), (q_34, .inr (9, [.ref o_38, .ref o_39, .ref o_40, .int 0])), (o_38, .inl (o_41, 960, .inl (fun _ => 0))), (o_39, .inl (o_42, 12, .inl (fun _ => 0))), (q_43, .inr (0, [.ref o_47, .ref o_48, .ref o_49])), (o_47, .inl (o_50, 6, .inl o_53)), (o_48, .inl (o_51, 6, .inl (fun _ => 0))), (o_49, .inl (o_52, 360, .inr (.inl (fun _ => 0)))), (q_54, .inr (6, [.ref o_58, .ref o_59, .ref o_60, .ref o_61, .ref o_62, .ref o_63, .ref o_64, .ref o_65, .ref o_66, .ref o_67, .ref o_68, .int 0])), (o_65, .inl (o_69, 256, .inl o_70)), (q_71, .inl (k_72, 100, .inl (fun _ => 0))), (q_73, .inr (4, [.ref q_54, .ref q_71, .ref o_77, .int 0, .int 0, .int 0, .int 0, .int (-1)])), (o_77, .inl (o_78, 101, .inl (fun _ => 0))), (q_91, .inr (5, [.ref o_95, .ref o_96, .ref o_97, .int 1, .int 1])), (o_95, .inl (o_98, 6, .inl (fun _ => 0))), (o_96, .inl (o_99, 6, .inl (fun _ => 0))), (o_97, .inl (o_100, 6, .inl (fun _ => 0)))] H := hP
  have hD : va_D A [(x, .inr (11, [.ref q_1, .ref q_9, .ref q_17, .ref q_25, .ref q_34, .ref q_43, .ref q_54, .ref q_71, .ref q_73, .ref q_79, .ref q_83, .ref q_87, .ref q_91, .ref q_101, .ref q_105, .int 0, .int 0])), (q_1, .inr (3, [.ref o_5, .ref o_6, .int 1])), (o_5, .inl (o_7, 4, .inl (fun _ => 0))), (o_6, .inl (o_8, 18, .inl (fun _ => 0))), (q_9, .inr (3, [.ref o_13, .ref o_14, .int 1])), (o_13, .inl (o_15, 4, .inl (fun _ => 0))), (o_14, .inl (o_16, 18, .inl (fun _ => 0))), (q_17, .inr (3, [.ref o_21, .ref o_22, .int 1])), (o_21, .inl (o_23, 4, .inl (fun _ => 0))), (o_22, .inl (o_24, 18, .inl (fun _ => 0))), (q_25, .inr (9, [.ref o_29, .ref o_30, .ref o_31, .int 0])), (o_29, .inl (o_32, 960, .inl (fun _ => 0))), (o_30, .inl (o_33, 12, .inl (fun _ => 0))), (q_34, .inr (9, [.ref o_38, .ref o_39, .ref o_40, .int 0])), (o_38, .inl (o_41, 960, .inl (fun _ => 0))), (o_39, .inl (o_42, 12, .inl (fun _ => 0))), (q_43, .inr (0, [.ref o_47, .ref o_48, .ref o_49])), (o_47, .inl (o_50, 6, .inl o_53)), (o_48, .inl (o_51, 6, .inl (fun _ => 0))), (o_49, .inl (o_52, 360, .inr (.inl (fun _ => 0)))), (q_54, .inr (6, [.ref o_58, .ref o_59, .ref o_60, .ref o_61, .ref o_62, .ref o_63, .ref o_64, .ref o_65, .ref o_66, .ref o_67, .ref o_68, .int 0])), (o_65, .inl (o_69, 256, .inl o_70)), (q_71, .inl (k_72, 100, .inl (fun _ => 0))), (q_73, .inr (4, [.ref q_54, .ref q_71, .ref o_77, .int 0, .int 0, .int 0, .int 0, .int (-1)])), (o_77, .inl (o_78, 101, .inl (fun _ => 0))), (q_91, .inr (5, [.ref o_95, .ref o_96, .ref o_97, .int 1, .int 1])), (o_95, .inl (o_98, 6, .inl (fun _ => 0))), (o_96, .inl (o_99, 6, .inl (fun _ => 0))), (o_97, .inl (o_100, 6, .inl (fun _ => 0)))] := hD
  refine lv_aload_n hx hb dX11_init_211 rfl (lv_at hl 0 rfl) ?_
  refine lv_iconst (v := 0) hx hb dX11_init_212 (by decide) ?_
  refine va_put (D := D) (ci := 11) (v := .int 0) (ty := .boolean) (C := RX11) (T := TX11) (N := 17) hx hb hts hiX11 tyX11 tyX11_ok nmX11 hown hK hP hD hS 0 rfl rfl 16 (by decide) (hts (.fieldLink RX11 113 "DynamicLogicProver" "saved" "Z") (mo_X11_init 75 rfl)) (fun _ h9 => h9) rfl (tyX11_ok 16 (by decide)) rfl rfl (Nat.le_of_ble_eq_true rfl) dX11_init_213 (fun H locs hP hD hS => ?_)
  have hP : va_P D vwCl [(x, .inr (11, [.ref q_1, .ref q_9, .ref q_17, .ref q_25, .ref q_34, .ref q_43, .ref q_54, .ref q_71, .ref q_73, .ref q_79, .ref q_83, .ref q_87, .ref q_91, .ref q_101, .ref q_105, .int 0, .int 0])), (q_1, .inr (3, [.ref o_5, .ref o_6, .int 1])), (o_5, .inl (o_7, 4, .inl (fun _ => 0))), (o_6, .inl (o_8, 18, .inl (fun _ => 0))), (q_9, .inr (3, [.ref o_13, .ref o_14, .int 1])), (o_13, .inl (o_15, 4, .inl (fun _ => 0))), (o_14, .inl (o_16, 18, .inl (fun _ => 0))), (q_17, .inr (3, [.ref o_21, .ref o_22, .int 1])), (o_21, .inl (o_23, 4, .inl (fun _ => 0))), (o_22, .inl (o_24, 18, .inl (fun _ => 0))), (q_25, .inr (9, [.ref o_29, .ref o_30, .ref o_31, .int 0])), (o_29, .inl (o_32, 960, .inl (fun _ => 0))), (o_30, .inl (o_33, 12, .inl (fun _ => 0))), (q_34, .inr (9, [.ref o_38, .ref o_39, .ref o_40, .int 0])), (o_38, .inl (o_41, 960, .inl (fun _ => 0))), (o_39, .inl (o_42, 12, .inl (fun _ => 0))), (q_43, .inr (0, [.ref o_47, .ref o_48, .ref o_49])), (o_47, .inl (o_50, 6, .inl o_53)), (o_48, .inl (o_51, 6, .inl (fun _ => 0))), (o_49, .inl (o_52, 360, .inr (.inl (fun _ => 0)))), (q_54, .inr (6, [.ref o_58, .ref o_59, .ref o_60, .ref o_61, .ref o_62, .ref o_63, .ref o_64, .ref o_65, .ref o_66, .ref o_67, .ref o_68, .int 0])), (o_65, .inl (o_69, 256, .inl o_70)), (q_71, .inl (k_72, 100, .inl (fun _ => 0))), (q_73, .inr (4, [.ref q_54, .ref q_71, .ref o_77, .int 0, .int 0, .int 0, .int 0, .int (-1)])), (o_77, .inl (o_78, 101, .inl (fun _ => 0))), (q_91, .inr (5, [.ref o_95, .ref o_96, .ref o_97, .int 1, .int 1])), (o_95, .inl (o_98, 6, .inl (fun _ => 0))), (o_96, .inl (o_99, 6, .inl (fun _ => 0))), (o_97, .inl (o_100, 6, .inl (fun _ => 0)))] H := hP
  have hD : va_D A [(x, .inr (11, [.ref q_1, .ref q_9, .ref q_17, .ref q_25, .ref q_34, .ref q_43, .ref q_54, .ref q_71, .ref q_73, .ref q_79, .ref q_83, .ref q_87, .ref q_91, .ref q_101, .ref q_105, .int 0, .int 0])), (q_1, .inr (3, [.ref o_5, .ref o_6, .int 1])), (o_5, .inl (o_7, 4, .inl (fun _ => 0))), (o_6, .inl (o_8, 18, .inl (fun _ => 0))), (q_9, .inr (3, [.ref o_13, .ref o_14, .int 1])), (o_13, .inl (o_15, 4, .inl (fun _ => 0))), (o_14, .inl (o_16, 18, .inl (fun _ => 0))), (q_17, .inr (3, [.ref o_21, .ref o_22, .int 1])), (o_21, .inl (o_23, 4, .inl (fun _ => 0))), (o_22, .inl (o_24, 18, .inl (fun _ => 0))), (q_25, .inr (9, [.ref o_29, .ref o_30, .ref o_31, .int 0])), (o_29, .inl (o_32, 960, .inl (fun _ => 0))), (o_30, .inl (o_33, 12, .inl (fun _ => 0))), (q_34, .inr (9, [.ref o_38, .ref o_39, .ref o_40, .int 0])), (o_38, .inl (o_41, 960, .inl (fun _ => 0))), (o_39, .inl (o_42, 12, .inl (fun _ => 0))), (q_43, .inr (0, [.ref o_47, .ref o_48, .ref o_49])), (o_47, .inl (o_50, 6, .inl o_53)), (o_48, .inl (o_51, 6, .inl (fun _ => 0))), (o_49, .inl (o_52, 360, .inr (.inl (fun _ => 0)))), (q_54, .inr (6, [.ref o_58, .ref o_59, .ref o_60, .ref o_61, .ref o_62, .ref o_63, .ref o_64, .ref o_65, .ref o_66, .ref o_67, .ref o_68, .int 0])), (o_65, .inl (o_69, 256, .inl o_70)), (q_71, .inl (k_72, 100, .inl (fun _ => 0))), (q_73, .inr (4, [.ref q_54, .ref q_71, .ref o_77, .int 0, .int 0, .int 0, .int 0, .int (-1)])), (o_77, .inl (o_78, 101, .inl (fun _ => 0))), (q_91, .inr (5, [.ref o_95, .ref o_96, .ref o_97, .int 1, .int 1])), (o_95, .inl (o_98, 6, .inl (fun _ => 0))), (o_96, .inl (o_99, 6, .inl (fun _ => 0))), (o_97, .inl (o_100, 6, .inl (fun _ => 0)))] := hD
  have hP9 := hP.sub (ws' := [(x, .inr (11, [.ref q_1, .ref q_9, .ref q_17, .ref q_25, .ref q_34, .ref q_43, .ref q_54, .ref q_71, .ref q_73, .ref q_79, .ref q_83, .ref q_87, .ref q_91, .ref q_101, .ref q_105, .int 0, .int 0])), (q_1, .inr (3, [.ref o_5, .ref o_6, .int 1])), (o_5, .inl (o_7, 4, .inl (fun _ => 0))), (o_6, .inl (o_8, 18, .inl (fun _ => 0))), (q_9, .inr (3, [.ref o_13, .ref o_14, .int 1])), (o_13, .inl (o_15, 4, .inl (fun _ => 0))), (o_14, .inl (o_16, 18, .inl (fun _ => 0))), (q_25, .inr (9, [.ref o_29, .ref o_30, .ref o_31, .int 0])), (o_29, .inl (o_32, 960, .inl (fun _ => 0))), (o_30, .inl (o_33, 12, .inl (fun _ => 0))), (q_34, .inr (9, [.ref o_38, .ref o_39, .ref o_40, .int 0])), (o_38, .inl (o_41, 960, .inl (fun _ => 0))), (o_39, .inl (o_42, 12, .inl (fun _ => 0))), (q_43, .inr (0, [.ref o_47, .ref o_48, .ref o_49])), (o_47, .inl (o_50, 6, .inl o_53)), (o_48, .inl (o_51, 6, .inl (fun _ => 0))), (o_49, .inl (o_52, 360, .inr (.inl (fun _ => 0)))), (q_54, .inr (6, [.ref o_58, .ref o_59, .ref o_60, .ref o_61, .ref o_62, .ref o_63, .ref o_64, .ref o_65, .ref o_66, .ref o_67, .ref o_68, .int 0])), (o_65, .inl (o_69, 256, .inl o_70)), (q_71, .inl (k_72, 100, .inl (fun _ => 0))), (q_73, .inr (4, [.ref q_54, .ref q_71, .ref o_77, .int 0, .int 0, .int 0, .int 0, .int (-1)])), (o_77, .inl (o_78, 101, .inl (fun _ => 0))), (q_91, .inr (5, [.ref o_95, .ref o_96, .ref o_97, .int 1, .int 1])), (o_95, .inl (o_98, 6, .inl (fun _ => 0))), (o_96, .inl (o_99, 6, .inl (fun _ => 0))), (o_97, .inl (o_100, 6, .inl (fun _ => 0)))]) [0, 1, 2, 3, 4, 5, 6, 10, 11, 12, 13, 14, 15, 16, 17, 18, 19, 20, 21, 22, 23, 24, 25, 26, 27, 28] rfl
  have hD9 := hD.sub (ws' := [(x, .inr (11, [.ref q_1, .ref q_9, .ref q_17, .ref q_25, .ref q_34, .ref q_43, .ref q_54, .ref q_71, .ref q_73, .ref q_79, .ref q_83, .ref q_87, .ref q_91, .ref q_101, .ref q_105, .int 0, .int 0])), (q_1, .inr (3, [.ref o_5, .ref o_6, .int 1])), (o_5, .inl (o_7, 4, .inl (fun _ => 0))), (o_6, .inl (o_8, 18, .inl (fun _ => 0))), (q_9, .inr (3, [.ref o_13, .ref o_14, .int 1])), (o_13, .inl (o_15, 4, .inl (fun _ => 0))), (o_14, .inl (o_16, 18, .inl (fun _ => 0))), (q_25, .inr (9, [.ref o_29, .ref o_30, .ref o_31, .int 0])), (o_29, .inl (o_32, 960, .inl (fun _ => 0))), (o_30, .inl (o_33, 12, .inl (fun _ => 0))), (q_34, .inr (9, [.ref o_38, .ref o_39, .ref o_40, .int 0])), (o_38, .inl (o_41, 960, .inl (fun _ => 0))), (o_39, .inl (o_42, 12, .inl (fun _ => 0))), (q_43, .inr (0, [.ref o_47, .ref o_48, .ref o_49])), (o_47, .inl (o_50, 6, .inl o_53)), (o_48, .inl (o_51, 6, .inl (fun _ => 0))), (o_49, .inl (o_52, 360, .inr (.inl (fun _ => 0)))), (q_54, .inr (6, [.ref o_58, .ref o_59, .ref o_60, .ref o_61, .ref o_62, .ref o_63, .ref o_64, .ref o_65, .ref o_66, .ref o_67, .ref o_68, .int 0])), (o_65, .inl (o_69, 256, .inl o_70)), (q_71, .inl (k_72, 100, .inl (fun _ => 0))), (q_73, .inr (4, [.ref q_54, .ref q_71, .ref o_77, .int 0, .int 0, .int 0, .int 0, .int (-1)])), (o_77, .inl (o_78, 101, .inl (fun _ => 0))), (q_91, .inr (5, [.ref o_95, .ref o_96, .ref o_97, .int 1, .int 1])), (o_95, .inl (o_98, 6, .inl (fun _ => 0))), (o_96, .inl (o_99, 6, .inl (fun _ => 0))), (o_97, .inl (o_100, 6, .inl (fun _ => 0)))]) [0, 1, 2, 3, 4, 5, 6, 10, 11, 12, 13, 14, 15, 16, 17, 18, 19, 20, 21, 22, 23, 24, 25, 26, 27, 28] (by decide) rfl
  have hK9 := hK.sub (tys' := [(o_7, .int), (o_8, .int), (o_15, .int), (o_16, .int), (o_32, .int), (o_33, .int), (o_41, .int), (o_42, .int), (o_50, .int), (o_51, .int), (o_52, .long), (o_69, .int), (k_72, .int), (o_78, .int), (o_98, .int), (o_99, .int), (o_100, .int)]) [0, 1, 2, 3, 6, 7, 8, 9, 10, 11, 12, 13, 14, 15, 16, 17, 18] rfl
  refine W.widen (k := 71) (n := 48586) (Nat.le_of_ble_eq_true rfl) (Nat.le_of_ble_eq_true rfl) ?_
  exact W.vret hx hb hr (fun tZ htZ hW => ⟨⟨(q_1, q_9, q_17, q_25, q_34, q_43, q_54, q_71, q_73, q_79, q_83, q_87, q_91, q_101, q_105, o_5, o_6, o_13, o_14, o_29, o_30, o_31, o_38, o_39, o_40, o_47, o_48, o_49, o_58, o_59, o_60, o_61, o_62, o_63, o_64, o_65, o_66, o_67, o_68, o_77, o_95, o_96, o_97, o_7, o_8, o_15, o_16, o_32, o_33, o_41, o_42, o_50, o_51, o_52, o_69, k_72, o_78, o_98, o_99, o_100, o_53, o_70), rfl, w_46, by rw [htZ]; exact hP9, va_K.moved hW.alike hK9, hD9⟩, hS.F htZ⟩) hS.2.2 dX11_init_216
