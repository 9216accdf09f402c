theorem ti_0 : (0 : Int32).toInt = 0 := by decide
theorem ti_1 : (1 : Int32).toInt = 1 := by decide
theorem ti_2 : (2 : Int32).toInt = 2 := by decide
theorem ti_3 : (3 : Int32).toInt = 3 := by decide
theorem ti_4 : (4 : Int32).toInt = 4 := by decide
theorem ti_5 : (5 : Int32).toInt = 5 := by decide
theorem ti_6 : (6 : Int32).toInt = 6 := by decide
theorem ti_8 : (8 : Int32).toInt = 8 := by decide
theorem ti_9 : (9 : Int32).toInt = 9 := by decide
theorem ti_10 : (10 : Int32).toInt = 10 := by decide
theorem ti_12 : (12 : Int32).toInt = 12 := by decide
theorem ti_18 : (18 : Int32).toInt = 18 := by decide
theorem ti_59 : (59 : Int32).toInt = 59 := by decide
theorem ti_60 : (60 : Int32).toInt = 60 := by decide
theorem ti_100 : (100 : Int32).toInt = 100 := by decide
theorem ti_127 : (127 : Int32).toInt = 127 := by decide
theorem ti_m1 : ((-1) : Int32).toInt = -1 := by decide
theorem ti_m2 : ((-2) : Int32).toInt = -2 := by decide
theorem ti_m3 : ((-3) : Int32).toInt = -3 := by decide
theorem ti_m4 : ((-4) : Int32).toInt = -4 := by decide
theorem ti_m5 : ((-5) : Int32).toInt = -5 := by decide
theorem ti_m10 : ((-10) : Int32).toInt = -10 := by decide
theorem ti_m11 : ((-11) : Int32).toInt = -11 := by decide
theorem ti_m12 : ((-12) : Int32).toInt = -12 := by decide
theorem ti_m13 : ((-13) : Int32).toInt = -13 := by decide
theorem ti_m14 : ((-14) : Int32).toInt = -14 := by decide
theorem z_shr (s : Int32) : (0 : Int32) >>> (s &&& 31) = 0 := by
  apply Int32.toBitVec_inj.1
  simp [Int32.toBitVec_shiftRight]
theorem z_shl (s : Int32) : (0 : Int32) <<< (s &&& 31) = 0 := by
  apply Int32.toBitVec_inj.1
  simp [Int32.toBitVec_shiftLeft]
theorem z_and (s : Int32) : (0 : Int32) &&& s = 0 := by
  apply Int32.toBitVec_inj.1
  simp
theorem z_and2 (s : Int32) : s &&& (0 : Int32) = 0 := by
  apply Int32.toBitVec_inj.1
  simp
theorem z_mul (s : Int32) : (0 : Int32) * s = 0 := by
  apply Int32.toBitVec_inj.1
  simp
theorem at_v0 (n : Nat) (i : Int32) : at_v (fun _ => 0) n i = 0 := by unfold at_v; split <;> rfl
theorem atL_v0 (n : Nat) (i : Int32) : atL_v (fun _ => 0) n i = 0 := by unfold atL_v; split <;> rfl
theorem dX3_init_0 : decode cX3_init 0 = .ok (.aload_n 0, 1) := by decide +kernel
theorem dX3_init_1 : decode cX3_init 1 = .ok (.invokespecial 3, 3) := by decide +kernel
theorem dX3_init_4 : decode cX3_init 4 = .ok (.aload_n 0, 1) := by decide +kernel
theorem dX3_init_5 : decode cX3_init 5 = .ok (.iconst 4, 1) := by decide +kernel
theorem dX3_init_6 : decode cX3_init 6 = .ok (.newarray .int, 2) := by decide +kernel
theorem dX3_init_8 : decode cX3_init 8 = .ok (.putfield 9, 3) := by decide +kernel
theorem dX3_init_11 : decode cX3_init 11 = .ok (.aload_n 0, 1) := by decide +kernel
theorem dX3_init_12 : decode cX3_init 12 = .ok (.bipush 18, 2) := by decide +kernel
theorem dX3_init_14 : decode cX3_init 14 = .ok (.newarray .int, 2) := by decide +kernel
theorem dX3_init_16 : decode cX3_init 16 = .ok (.putfield 15, 3) := by decide +kernel
theorem dX3_init_19 : decode cX3_init 19 = .ok (.aload_n 0, 1) := by decide +kernel
theorem dX3_init_20 : decode cX3_init 20 = .ok (.iconst 1, 1) := by decide +kernel
theorem dX3_init_21 : decode cX3_init 21 = .ok (.putfield 18, 3) := by decide +kernel
theorem dX3_init_24 : decode cX3_init 24 = .ok (.return_, 1) := by decide +kernel
def wo_X3_init : List Cond := [.methodLink RX3 3 objectInit, .instanceMethod objectInit, .code objectInit ⟨#[0xb1]⟩ 1 none, .arrayClass .int, .fieldLink RX3 9 "DynamicLogicProver$Model" "truths" "[I", .fieldLink RX3 15 "DynamicLogicProver$Model" "moves" "[I", .fieldLink RX3 18 "DynamicLogicProver$Model" "worlds" "I"]
def wd_X3_init : List Cond := .code yX3_init cX3_init 1 none :: (wo_X3_init ++ (wsX30 ++ ([] : List Cond)))
theorem mo_X3_init {w : Cond} (i : Nat) (h : wo_X3_init[i]? = some w) : w ∈ wd_X3_init := List.mem_cons_of_mem _ (List.mem_append_left _ (List.mem_of_getElem? h))
theorem mb_X3_init_0 : ∀ w ∈ wsX30, w ∈ wd_X3_init := fun w h => List.mem_cons_of_mem _ (List.mem_append_right _ (List.mem_append_left _ h))
theorem hd_X3_init : yX3_init.cls ≠ "java/lang/invoke/MethodHandle" ∧ yX3_init.cls ≠ "java/lang/invoke/VarHandle" ∧ (parseMethodDescriptor yX3_init.desc).map (fun d => d.parameters.length) = some 0 := by decide +kernel
set_option maxRecDepth 20000 in
theorem gw_X3_init : wd_X3_init.all goodWord = true := by decide +kernel
abbrev qc_X3_init (D : va_G) (h : Nat) (A : Nat → Prop) : Array Value → State → Outcome → State → Prop := va_Qv (fun (uZ : (Nat) × (Nat) × (ClassId) × (ClassId)) => True) (fun uZ tZ => kc_pos D A [(h, .inr (3, [.ref uZ.1, .ref uZ.2.1, .int 1])), (uZ.1, .inl (uZ.2.2.1, 4, .inl (fun _ => 0))), (uZ.2.1, .inl (uZ.2.2.2, 18, .inl (fun _ => 0)))] [(uZ.2.2.1, .int), (uZ.2.2.2, .int)] tZ) A
set_option maxHeartbeats 4000000 in
set_option maxRecDepth 100000 in
theorem ct_X3_init (l : Launch) (D : va_G) (h : Nat) (sz : Nat)  : Met l yX3_init wd_X3_init ({ frames := 1, cells := 2, slots := 22, locals := 12 }) (va_Pc [.ref h] (kc_pre D [] [(h, .inr (3, [.null, .null, .int 0]))] sz)) (qc_X3_init D h (va_A [(h, .inr (3, [.null, .null, .int 0]))] sz)) 2 22 (va_A [(h, .inr (3, [.null, .null, .int 0]))] sz) := by
  refine Met.ofW (cc := cX3_init) (maxL := 1) (ret := none) (by decide) rfl ?_
  intro p e s m args below meth c s₁ B hml hv
  obtain ⟨rfl, hsz, hP, hK, hN, hD0⟩ := hv
  have hx := B.exec
  have hb := B.bytes
  have hr := B.returns
  have hts := atoms_spec (ws := wd_X3_init) B.pre
  have hown : s.vm.findClass RX3 = some m.cls := findClass_of_methodNamed B.named
  have hlocks := B.notSynchronized
  have hin : meth.name = "<init>" := (name_of_methodNamed B.named B.method).1
  subst hsz
  have hD := hD0.self (sz := s.heap.size)
  generalize hAe : va_A [(h, .inr (3, [.null, .null, .int 0]))] s.heap.size = A at hD ⊢
  have hA : ∀ q : Nat, s.heap.size ≤ q → A q := fun q h => by rw [← hAe]; exact Or.inr h
  have hS : va_S A s.heap s.heap [] := va_S.rf
  have hiX3 : ∀ w ∈ wsX30, w ∈ wd_X3_init := mb_X3_init_0
  have hl := lv_entry ([.ref h]) (n := 1) (Nat.le_of_ble_eq_true rfl)
  rw [lg_entry_eq]
  generalize (lg_sl ([.ref h]) ++ List.replicate (1 - (lg_sl ([.ref h])).length) Slot.unset).toArray = ls at hl ⊢
  have hl : lv_has ls 1 [(0, .ref h)] := hl
  refine lv_aload_n hx hb dX3_init_0 rfl (lv_at hl 0 rfl) ?_
  refine W.objInit hx hb hown (hts (.methodLink RX3 3 objectInit) (mo_X3_init 0 rfl)) (hts (.instanceMethod objectInit) (mo_X3_init 1 rfl)) (hts (.code objectInit ⟨#[0xb1]⟩ 1 none) (mo_X3_init 2 rfl)) rfl (by rw [hml]; exact hl.1) rfl dX3_init_1 (Nat.le_of_ble_eq_true rfl) (Nat.le_of_ble_eq_true rfl) ?_
  refine W.eq (g2 := F0 m 4 ls []) rfl ?_
  refine lv_aload_n hx hb dX3_init_4 rfl (lv_at hl 0 rfl) ?_
  refine lv_iconst (v := 4) hx hb dX3_init_5 (by decide) ?_
  refine va_newa (atype := .int) (ty := .int) (a0 := (4, .inl (fun _ => 0))) hx hb (hts (.arrayClass .int) (mo_X3_init 3 rfl)) rfl hK hP hD hS hA (fun _ => rfl) (by decide) (N' := 4) (by decide) (by decide) (Nat.le_of_ble_eq_true rfl) (Nat.le_of_ble_eq_true rfl) dX3_init_6 (fun q_1 k_2 H hK hP hD hS => ?_)
  have hP : va_P D vwCl [(h, .inr (3, [.null, .null, .int 0])), (q_1, .inl (k_2, 4, .inl (fun _ => 0)))] H := hP
  have hD : va_D A [(h, .inr (3, [.null, .null, .int 0])), (q_1, .inl (k_2, 4, .inl (fun _ => 0)))] := hD
  have hK : va_K D vwCl [(k_2, .int)] s := hK
  refine W.widen (k := 1) (n := 4) (by decide) (Nat.le_of_ble_eq_true rfl) ?_
  refine va_putF (D := D) (ci := 3) (v := .ref q_1) (ty := .array .int) (C := RX3) (T := TX3) (N := 3) hx hb hts hiX3 tyX3 tyX3_ok nmX3 hown hK hP hD hS 0 rfl rfl 0 (by decide) (hts (.fieldLink RX3 9 "DynamicLogicProver$Model" "truths" "[I") (mo_X3_init 4 rfl)) (fun _ h9 => h9) rfl hin rfl (tyX3_ok 0 (by decide)) rfl rfl (Nat.le_of_ble_eq_true rfl) dX3_init_8 (fun H locs hP hD hS => ?_)
  have hP : va_P D vwCl [(h, .inr (3, [.ref q_1, .null, .int 0])), (q_1, .inl (k_2, 4, .inl (fun _ => 0)))] H := hP
  have hD : va_D A [(h, .inr (3, [.ref q_1, .null, .int 0])), (q_1, .inl (k_2, 4, .inl (fun _ => 0)))] := hD
  refine lv_aload_n hx hb dX3_init_11 rfl (lv_at hl 0 rfl) ?_
  refine lv_bipush (v := 18) hx hb dX3_init_12 (by decide) ?_
  refine va_newa (atype := .int) (ty := .int) (a0 := (18, .inl (fun _ => 0))) hx hb (hts (.arrayClass .int) (mo_X3_init 3 rfl)) rfl hK hP hD hS hA (fun _ => rfl) (by decide) (N' := 18) (by decide) (by decide) (Nat.le_of_ble_eq_true rfl) (Nat.le_of_ble_eq_true rfl) dX3_init_14 (fun q_3 k_4 H hK hP hD hS => ?_)
  have hP : va_P D vwCl [(h, .inr (3, [.ref q_1, .null, .int 0])), (q_1, .inl (k_2, 4, .inl (fun _ => 0))), (q_3, .inl (k_4, 18, .inl (fun _ => 0)))] H := hP
  have hD : va_D A [(h, .inr (3, [.ref q_1, .null, .int 0])), (q_1, .inl (k_2, 4, .inl (fun _ => 0))), (q_3, .inl (k_4, 18, .inl (fun _ => 0)))] := hD
  have hK : va_K D vwCl [(k_2, .int), (k_4, .int)] s := hK
  refine W.widen (k := 2) (n := 22) (by decide) (Nat.le_of_ble_eq_true rfl) ?_
  refine va_putF (D := D) (ci := 3) (v := .ref q_3) (ty := .array .int) (C := RX3) (T := TX3) (N := 3) hx hb hts hiX3 tyX3 tyX3_ok nmX3 hown hK hP hD hS 0 rfl rfl 1 (by decide) (hts (.fieldLink RX3 15 "DynamicLogicProver$Model" "moves" "[I") (mo_X3_init 5 rfl)) (fun _ h9 => h9) rfl hin rfl (tyX3_ok 1 (by decide)) rfl rfl (Nat.le_of_ble_eq_true rfl) dX3_init_16 (fun H locs hP hD hS => ?_)
  have hP : va_P D vwCl [(h, .inr (3, [.ref q_1, .ref q_3, .int 0])), (q_1, .inl (k_2, 4, .inl (fun _ => 0))), (q_3, .inl (k_4, 18, .inl (fun _ => 0)))] H := hP
  have hD : va_D A [(h, .inr (3, [.ref q_1, .ref q_3, .int 0])), (q_1, .inl (k_2, 4, .inl (fun _ => 0))), (q_3, .inl (k_4, 18, .inl (fun _ => 0)))] := hD
  refine lv_aload_n hx hb dX3_init_19 rfl (lv_at hl 0 rfl) ?_
  refine lv_iconst (v := 1) hx hb dX3_init_20 (by decide) ?_
  refine va_put (D := D) (ci := 3) (v := .int 1) (ty := .int) (C := RX3) (T := TX3) (N := 3) hx hb hts hiX3 tyX3 tyX3_ok nmX3 hown hK hP hD hS 0 rfl rfl 2 (by decide) (hts (.fieldLink RX3 18 "DynamicLogicProver$Model" "worlds" "I") (mo_X3_init 6 rfl)) (fun _ h9 => h9) rfl (tyX3_ok 2 (by decide)) rfl rfl (Nat.le_of_ble_eq_true rfl) dX3_init_21 (fun H locs hP hD hS => ?_)
  have hP : va_P D vwCl [(h, .inr (3, [.ref q_1, .ref q_3, .int 1])), (q_1, .inl (k_2, 4, .inl (fun _ => 0))), (q_3, .inl (k_4, 18, .inl (fun _ => 0)))] H := hP
  have hD : va_D A [(h, .inr (3, [.ref q_1, .ref q_3, .int 1])), (q_1, .inl (k_2, 4, .inl (fun _ => 0))), (q_3, .inl (k_4, 18, .inl (fun _ => 0)))] := hD
  have hP9 := hP.sub (ws' := [(h, .inr (3, [.ref q_1, .ref q_3, .int 1])), (q_1, .inl (k_2, 4, .inl (fun _ => 0))), (q_3, .inl (k_4, 18, .inl (fun _ => 0)))]) [0, 1, 2] rfl
  have hD9 := hD.sub (ws' := [(h, .inr (3, [.ref q_1, .ref q_3, .int 1])), (q_1, .inl (k_2, 4, .inl (fun _ => 0))), (q_3, .inl (k_4, 18, .inl (fun _ => 0)))]) [0, 1, 2] (by decide) rfl
  have hK9 := hK.sub (tys' := [(k_2, .int), (k_4, .int)]) [0, 1] rfl
  refine W.widen (k := 2) (n := 22) (Nat.le_of_ble_eq_true rfl) (Nat.le_of_ble_eq_true rfl) ?_
  exact W.vret hx hb hr (fun tZ htZ hW => ⟨⟨(q_1, q_3, k_2, k_4), rfl, trivial, by rw [htZ]; exact hP9, va_K.moved hW.alike hK9, hD9⟩, hS.F htZ⟩) hS.2.2 dX3_init_24
theorem dX3_size_0 : decode cX3_size 0 = .ok (.aload_n 0, 1) := by decide +kernel
theorem dX3_size_1 : decode cX3_size 1 = .ok (.getfield 18, 3) := by decide +kernel
theorem dX3_size_4 : decode cX3_size 4 = .ok (.ireturn, 1) := by decide +kernel
def wo_X3_size : List Cond := [.fieldLink RX3 18 "DynamicLogicProver$Model" "worlds" "I"]
def wd_X3_size : List Cond := .code yX3_size cX3_size 1 (some .int) :: (wo_X3_size ++ (wsX30 ++ ([] : List Cond)))
theorem mo_X3_size {w : Cond} (i : Nat) (h : wo_X3_size[i]? = some w) : w ∈ wd_X3_size := List.mem_cons_of_mem _ (List.mem_append_left _ (List.mem_of_getElem? h))
theorem mb_X3_size_0 : ∀ w ∈ wsX30, w ∈ wd_X3_size := fun w h => List.mem_cons_of_mem _ (List.mem_append_right _ (List.mem_append_left _ h))
theorem hd_X3_size : yX3_size.cls ≠ "java/lang/invoke/MethodHandle" ∧ yX3_size.cls ≠ "java/lang/invoke/VarHandle" ∧ (parseMethodDescriptor yX3_size.desc).map (fun d => d.parameters.length) = some 0 := by decide +kernel
set_option maxRecDepth 20000 in
theorem gw_X3_size : wd_X3_size.all goodWord = true := by decide +kernel
abbrev qc_X3_size (D : va_G) (h : Nat) (t : Nat) (v : Nat) (n : Int32) (A : Nat → Prop) : Array Value → State → Outcome → State → Prop := va_Qi (fun (r : Int32) (uZ : Unit) => r = n) (fun uZ tZ => kc_pos D A [(h, .inr (3, [.ref t, .ref v, .int n]))] [] tZ) A
set_option maxHeartbeats 4000000 in
set_option maxRecDepth 100000 in
theorem ct_X3_size (l : Launch) (D : va_G) (h : Nat) (t : Nat) (v : Nat) (n : Int32) (sz : Nat)  : Met l yX3_size wd_X3_size ({ frames := 0, cells := 0, slots := 0, locals := 0 }) (va_Pc [.ref h] (kc_pre D [] [(h, .inr (3, [.ref t, .ref v, .int n]))] sz)) (qc_X3_size D h t v n (va_A [(h, .inr (3, [.ref t, .ref v, .int n]))] sz)) 0 0 (va_A [(h, .inr (3, [.ref t, .ref v, .int n]))] sz) := by
  refine Met.ofW (cc := cX3_size) (maxL := 1) (ret := (some .int)) (by decide) rfl ?_
  intro p e s m args below meth c s₁ B hml hv
  obtain ⟨rfl, hsz, hP, hK, hN, hD0⟩ := hv
  have hx := B.exec
  have hb := B.bytes
  have hr := B.returns
  have hts := atoms_spec (ws := wd_X3_size) B.pre
  have hown : s.vm.findClass RX3 = some m.cls := findClass_of_methodNamed B.named
  have hlocks := B.notSynchronized
  subst hsz
  have hD := hD0.self (sz := s.heap.size)
  generalize hAe : va_A [(h, .inr (3, [.ref t, .ref v, .int n]))] s.heap.size = A at hD ⊢
  have hA : ∀ q : Nat, s.heap.size ≤ q → A q := fun q h => by rw [← hAe]; exact Or.inr h
  have hS : va_S A s.heap s.heap [] := va_S.rf
  have hiX3 : ∀ w ∈ wsX30, w ∈ wd_X3_size := mb_X3_size_0
  have hl := lv_entry ([.ref h]) (n := 1) (Nat.le_of_ble_eq_true rfl)
  rw [lg_entry_eq]
  generalize (lg_sl ([.ref h]) ++ List.replicate (1 - (lg_sl ([.ref h])).length) Slot.unset).toArray = ls at hl ⊢
  have hl : lv_has ls 1 [(0, .ref h)] := hl
  refine lv_aload_n hx hb dX3_size_0 rfl (lv_at hl 0 rfl) ?_
  refine va_get (D := D) (ci := 3) (v := .int n) (C := RX3) (T := TX3) (N := 3) hx hb hts hiX3 hown hK hP 0 rfl rfl 2 (by decide) (hts (.fieldLink RX3 18 "DynamicLogicProver$Model" "worlds" "I") (mo_X3_size 0 rfl)) (fun _ h9 => h9) rfl dX3_size_1 ?_
  have hP9 := hP.sub (ws' := [(h, .inr (3, [.ref t, .ref v, .int n]))]) [0] rfl
  have hD9 := hD.sub (ws' := [(h, .inr (3, [.ref t, .ref v, .int n]))]) [0] (by decide) rfl
  have hK9 := hK.sub (tys' := []) [] rfl
  exact W.iret (v := n) hx hb hr (fun tZ htZ hW => ⟨⟨n, (), rfl, rfl, by rw [htZ]; exact hP9, va_K.moved hW.alike hK9, hD9⟩, hS.F htZ⟩) hS.2.2 dX3_size_4
theorem dX3_has_0 : decode cX3_has 0 = .ok (.iload_n 1, 1) := by decide +kernel
theorem dX3_has_1 : decode cX3_has 1 = .ok (.ifCond .lt 15, 3) := by decide +kernel
theorem dX3_has_4 : decode cX3_has 4 = .ok (.iload_n 1, 1) := by decide +kernel
theorem dX3_has_5 : decode cX3_has 5 = .ok (.aload_n 0, 1) := by decide +kernel
theorem dX3_has_6 : decode cX3_has 6 = .ok (.getfield 18, 3) := by decide +kernel
theorem dX3_has_9 : decode cX3_has 9 = .ok (.if_icmp .ge 7, 3) := by decide +kernel
theorem dX3_has_12 : decode cX3_has 12 = .ok (.iconst 1, 1) := by decide +kernel
theorem dX3_has_13 : decode cX3_has 13 = .ok (.goto 4, 3) := by decide +kernel
theorem dX3_has_16 : decode cX3_has 16 = .ok (.iconst 0, 1) := by decide +kernel
theorem dX3_has_17 : decode cX3_has 17 = .ok (.ireturn, 1) := by decide +kernel
def wo_X3_has : List Cond := [.fieldLink RX3 18 "DynamicLogicProver$Model" "worlds" "I"]
def wd_X3_has : List Cond := .code yX3_has cX3_has 2 (some .boolean) :: (wo_X3_has ++ (wsX30 ++ ([] : List Cond)))
theorem mo_X3_has {w : Cond} (i : Nat) (h : wo_X3_has[i]? = some w) : w ∈ wd_X3_has := List.mem_cons_of_mem _ (List.mem_append_left _ (List.mem_of_getElem? h))
theorem mb_X3_has_0 : ∀ w ∈ wsX30, w ∈ wd_X3_has := fun w h => List.mem_cons_of_mem _ (List.mem_append_right _ (List.mem_append_left _ h))
theorem hd_X3_has : yX3_has.cls ≠ "java/lang/invoke/MethodHandle" ∧ yX3_has.cls ≠ "java/lang/invoke/VarHandle" ∧ (parseMethodDescriptor yX3_has.desc).map (fun d => d.parameters.length) = some 1 := by decide +kernel
set_option maxRecDepth 20000 in
theorem gw_X3_has : wd_X3_has.all goodWord = true := by decide +kernel
abbrev qc_X3_has (D : va_G) (h : Nat) (t : Nat) (v : Nat) (n : Int32) (w : Int32) (A : Nat → Prop) : Array Value → State → Outcome → State → Prop := va_Qi (fun (r : Int32) (uZ : Unit) => (r = 1 ∧ (0 ≤ w ∧ w < n)) ∨ (r = 0 ∧ ¬ (0 ≤ w ∧ w < n))) (fun uZ tZ => kc_pos D A [(h, .inr (3, [.ref t, .ref v, .int n]))] [] tZ) A
set_option maxHeartbeats 4000000 in
set_option maxRecDepth 100000 in
theorem ct_X3_has (l : Launch) (D : va_G) (h : Nat) (t : Nat) (v : Nat) (n : Int32) (w : Int32) (sz : Nat)  : Met l yX3_has wd_X3_has ({ frames := 0, cells := 0, slots := 0, locals := 0 }) (va_Pc [.ref h, .int w] (kc_pre D [] [(h, .inr (3, [.ref t, .ref v, .int n]))] sz)) (qc_X3_has D h t v n w (va_A [(h, .inr (3, [.ref t, .ref v, .int n]))] sz)) 0 0 (va_A [(h, .inr (3, [.ref t, .ref v, .int n]))] sz) := by
  refine Met.ofW (cc := cX3_has) (maxL := 2) (ret := (some .boolean)) (by decide) rfl ?_
  intro p e s m args below meth c s₁ B hml hv
  obtain ⟨rfl, hsz, hP, hK, hN, hD0⟩ := hv
  have hx := B.exec
  have hb := B.bytes
  have hr := B.returns
  have hts := atoms_spec (ws := wd_X3_has) B.pre
  have hown : s.vm.findClass RX3 = some m.cls := findClass_of_methodNamed B.named
  have hlocks := B.notSynchronized
  subst hsz
  have hD := hD0.self (sz := s.heap.size)
  generalize hAe : va_A [(h, .inr (3, [.ref t, .ref v, .int n]))] s.heap.size = A at hD ⊢
  have hA : ∀ q : Nat, s.heap.size ≤ q → A q := fun q h => by rw [← hAe]; exact Or.inr h
  have hS : va_S A s.heap s.heap [] := va_S.rf
  have hiX3 : ∀ w ∈ wsX30, w ∈ wd_X3_has := mb_X3_has_0
  have hl := lv_entry ([.ref h, .int w]) (n := 2) (Nat.le_of_ble_eq_true rfl)
  rw [lg_entry_eq]
  generalize (lg_sl ([.ref h, .int w]) ++ List.replicate (2 - (lg_sl ([.ref h, .int w])).length) Slot.unset).toArray = ls at hl ⊢
  have hl : lv_has ls 2 [(0, .ref h), (1, .int w)] := hl
  refine lv_iload_n hx hb dX3_has_0 rfl (lv_at hl 1 rfl) ?_
  refine lv_if_lt (tgt := 16) hx hb dX3_has_1 (by decide) (fun c_1 => ?_) (fun c_1 => ?_)
  · refine lv_iconst (v := 0) hx hb dX3_has_16 (by decide) ?_
    have hP9 := hP.sub (ws' := [(h, .inr (3, [.ref t, .ref v, .int n]))]) [0] rfl
    have hD9 := hD.sub (ws' := [(h, .inr (3, [.ref t, .ref v, .int n]))]) [0] (by decide) rfl
    have hK9 := hK.sub (tys' := []) [] rfl
    exact W.zret (v := 0) (ty := .boolean) hx hb hr rfl (fun tZ htZ hW => ⟨⟨0, (), rfl, (Or.inr ⟨rfl, by (try simp only [fa_lt, fa_le, fa_eq]); (try simp only [fa_lt, fa_le, fa_eq] at c_1); (try simp only [ti_0] at *); omega⟩), by rw [htZ]; exact hP9, va_K.moved hW.alike hK9, hD9⟩, hS.F htZ⟩) hS.2.2 dX3_has_17
  · refine lv_iload_n hx hb dX3_has_4 rfl (lv_at hl 1 rfl) ?_
    refine lv_aload_n hx hb dX3_has_5 rfl (lv_at hl 0 rfl) ?_
    refine va_get (D := D) (ci := 3) (v := .int n) (C := RX3) (T := TX3) (N := 3) hx hb hts hiX3 hown hK hP 0 rfl rfl 2 (by decide) (hts (.fieldLink RX3 18 "DynamicLogicProver$Model" "worlds" "I") (mo_X3_has 0 rfl)) (fun _ h9 => h9) rfl dX3_has_6 ?_
    refine lv_icmp_ge (tgt := 16) hx hb dX3_has_9 (by decide) (fun c_2 => ?_) (fun c_2 => ?_)
    · refine lv_iconst (v := 0) hx hb dX3_has_16 (by decide) ?_
      have hP9 := hP.sub (ws' := [(h, .inr (3, [.ref t, .ref v, .int n]))]) [0] rfl
      have hD9 := hD.sub (ws' := [(h, .inr (3, [.ref t, .ref v, .int n]))]) [0] (by decide) rfl
      have hK9 := hK.sub (tys' := []) [] rfl
      exact W.zret (v := 0) (ty := .boolean) hx hb hr rfl (fun tZ htZ hW => ⟨⟨0, (), rfl, (Or.inr ⟨rfl, by (try simp only [fa_lt, fa_le, fa_eq]); (try simp only [fa_lt, fa_le, fa_eq] at c_1); (try simp only [fa_lt, fa_le, fa_eq] at c_2); (try simp only [ti_0] at *); omega⟩), by rw [htZ]; exact hP9, va_K.moved hW.alike hK9, hD9⟩, hS.F htZ⟩) hS.2.2 dX3_has_17
    · refine lv_iconst (v := 1) hx hb dX3_has_12 (by decide) ?_
      refine lv_goto (tgt := 17) hx hb dX3_has_13 (by decide) ?_
      have hP9 := hP.sub (ws' := [(h, .inr (3, [.ref t, .ref v, .int n]))]) [0] rfl
      have hD9 := hD.sub (ws' := [(h, .inr (3, [.ref t, .ref v, .int n]))]) [0] (by decide) rfl
      have hK9 := hK.sub (tys' := []) [] rfl
      exact W.zret (v := 1) (ty := .boolean) hx hb hr rfl (fun tZ htZ hW => ⟨⟨1, (), rfl, (Or.inl ⟨rfl, by (try simp only [fa_lt, fa_le, fa_eq]); (try simp only [fa_lt, fa_le, fa_eq] at c_1); (try simp only [fa_lt, fa_le, fa_eq] at c_2); (try simp only [ti_0] at *); omega⟩), by rw [htZ]; exact hP9, va_K.moved hW.alike hK9, hD9⟩, hS.F htZ⟩) hS.2.2 dX3_has_17
theorem dX3_reset_0 : decode cX3_reset 0 = .ok (.aload_n 0, 1) := by decide +kernel
theorem dX3_reset_1 : decode cX3_reset 1 = .ok (.iload_n 1, 1) := by decide +kernel
theorem dX3_reset_2 : decode cX3_reset 2 = .ok (.putfield 18, 3) := by decide +kernel
theorem dX3_reset_5 : decode cX3_reset 5 = .ok (.aload_n 0, 1) := by decide +kernel
theorem dX3_reset_6 : decode cX3_reset 6 = .ok (.getfield 9, 3) := by decide +kernel
theorem dX3_reset_9 : decode cX3_reset 9 = .ok (.iconst 0, 1) := by decide +kernel
theorem dX3_reset_10 : decode cX3_reset 10 = .ok (.invokestatic 22, 3) := by decide +kernel
theorem dX3_reset_13 : decode cX3_reset 13 = .ok (.aload_n 0, 1) := by decide +kernel
theorem dX3_reset_14 : decode cX3_reset 14 = .ok (.getfield 15, 3) := by decide +kernel
theorem dX3_reset_17 : decode cX3_reset 17 = .ok (.iconst 0, 1) := by decide +kernel
theorem dX3_reset_18 : decode cX3_reset 18 = .ok (.invokestatic 22, 3) := by decide +kernel
theorem dX3_reset_21 : decode cX3_reset 21 = .ok (.return_, 1) := by decide +kernel
def wo_X3_reset : List Cond := [.fieldLink RX3 18 "DynamicLogicProver$Model" "worlds" "I", .fieldLink RX3 9 "DynamicLogicProver$Model" "truths" "[I", .methodLink RX3 22 yJ7_fill_53178, .static yJ7_fill_53178, .initialized RJ7, .fieldLink RX3 15 "DynamicLogicProver$Model" "moves" "[I"]
def wd_X3_reset : List Cond := .code yX3_reset cX3_reset 2 none :: (wo_X3_reset ++ (wd_J7_fill_53178 ++ (wsX30 ++ ([] : List Cond))))
theorem mo_X3_reset {w : Cond} (i : Nat) (h : wo_X3_reset[i]? = some w) : w ∈ wd_X3_reset := List.mem_cons_of_mem _ (List.mem_append_left _ (List.mem_of_getElem? h))
theorem mb_X3_reset_0 : ∀ w ∈ wd_J7_fill_53178, w ∈ wd_X3_reset := fun w h => List.mem_cons_of_mem _ (List.mem_append_right _ (List.mem_append_left _ h))
theorem mb_X3_reset_1 : ∀ w ∈ wsX30, w ∈ wd_X3_reset := fun w h => List.mem_cons_of_mem _ (List.mem_append_right _ (List.mem_append_right _ (List.mem_append_left _ h)))
theorem hd_X3_reset : yX3_reset.cls ≠ "java/lang/invoke/MethodHandle" ∧ yX3_reset.cls ≠ "java/lang/invoke/VarHandle" ∧ (parseMethodDescriptor yX3_reset.desc).map (fun d => d.parameters.length) = some 1 := by decide +kernel
set_option maxRecDepth 20000 in
theorem gw_X3_reset : wd_X3_reset.all goodWord = true := by decide +kernel
abbrev qc_X3_reset (D : va_G) (h : Nat) (t : Nat) (v : Nat) (kt : ClassId) (kv : ClassId) (f : Nat → Int32) (g : Nat → Int32) (n : Int32) (k : Int32) (A : Nat → Prop) : Array Value → State → Outcome → State → Prop := va_Qv (fun (uZ : (Nat → Int32) × (Nat → Int32)) => True) (fun uZ tZ => kc_pos D A [(h, .inr (3, [.ref t, .ref v, .int k])), (t, .inl (kt, 4, .inl uZ.1)), (v, .inl (kv, 18, .inl uZ.2))] [] tZ) A
set_option maxHeartbeats 4000000 in
set_option maxRecDepth 100000 in
theorem ct_X3_reset (l : Launch) (D : va_G) (h : Nat) (t : Nat) (v : Nat) (kt : ClassId) (kv : ClassId) (f : Nat → Int32) (g : Nat → Int32) (n : Int32) (k : Int32) (sz : Nat)  : Met l yX3_reset wd_X3_reset ({ frames := 1, cells := 0, slots := 0, locals := 23 }) (va_Pc [.ref h, .int k] (kc_pre D [(kt, .int), (kv, .int)] [(h, .inr (3, [.ref t, .ref v, .int n])), (t, .inl (kt, 4, .inl f)), (v, .inl (kv, 18, .inl g))] sz)) (qc_X3_reset D h t v kt kv f g n k (va_A [(h, .inr (3, [.ref t, .ref v, .int n])), (t, .inl (kt, 4, .inl f)), (v, .inl (kv, 18, .inl g))] sz)) 0 0 (va_A [(h, .inr (3, [.ref t, .ref v, .int n])), (t, .inl (kt, 4, .inl f)), (v, .inl (kv, 18, .inl g))] sz) := by
  refine Met.ofW (cc := cX3_reset) (maxL := 2) (ret := none) (by decide) rfl ?_
  intro p e s m args below meth c s₁ B hml hv
  obtain ⟨rfl, hsz, hP, hK, hN, hD0⟩ := hv
  have hx := B.exec
  have hb := B.bytes
  have hr := B.returns
  have hts := atoms_spec (ws := wd_X3_reset) B.pre
  have hown : s.vm.findClass RX3 = some m.cls := findClass_of_methodNamed B.named
  have hlocks := B.notSynchronized
  subst hsz
  have hD := hD0.self (sz := s.heap.size)
  generalize hAe : va_A [(h, .inr (3, [.ref t, .ref v, .int n])), (t, .inl (kt, 4, .inl f)), (v, .inl (kv, 18, .inl g))] s.heap.size = A at hD ⊢
  have hA : ∀ q : Nat, s.heap.size ≤ q → A q := fun q h => by rw [← hAe]; exact Or.inr h
  have hS : va_S A s.heap s.heap [] := va_S.rf
  have hiX3 : ∀ w ∈ wsX30, w ∈ wd_X3_reset := mb_X3_reset_1
  have hl := lv_entry ([.ref h, .int k]) (n := 2) (Nat.le_of_ble_eq_true rfl)
  rw [lg_entry_eq]
  generalize (lg_sl ([.ref h, .int k]) ++ List.replicate (2 - (lg_sl ([.ref h, .int k])).length) Slot.unset).toArray = ls at hl ⊢
  have hl : lv_has ls 2 [(0, .ref h), (1, .int k)] := hl
  refine lv_aload_n hx hb dX3_reset_0 rfl (lv_at hl 0 rfl) ?_
  refine lv_iload_n hx hb dX3_reset_1 rfl (lv_at hl 1 rfl) ?_
  refine va_put (D := D) (ci := 3) (v := .int k) (ty := .int) (C := RX3) (T := TX3) (N := 3) hx hb hts hiX3 tyX3 tyX3_ok nmX3 hown hK hP hD hS 0 rfl rfl 2 (by decide) (hts (.fieldLink RX3 18 "DynamicLogicProver$Model" "worlds" "I") (mo_X3_reset 0 rfl)) (fun _ h9 => h9) rfl (tyX3_ok 2 (by decide)) rfl rfl (Nat.le_of_ble_eq_true rfl) dX3_reset_2 (fun H locs hP hD hS => ?_)
  have hP : va_P D vwCl [(h, .inr (3, [.ref t, .ref v, .int k])), (t, .inl (kt, 4, .inl f)), (v, .inl (kv, 18, .inl g))] H := hP
  have hD : va_D A [(h, .inr (3, [.ref t, .ref v, .int k])), (t, .inl (kt, 4, .inl f)), (v, .inl (kv, 18, .inl g))] := hD
  refine lv_aload_n hx hb dX3_reset_5 rfl (lv_at hl 0 rfl) ?_
  refine va_get (D := D) (ci := 3) (v := .ref t) (C := RX3) (T := TX3) (N := 3) hx hb hts hiX3 hown hK hP 0 rfl rfl 0 (by decide) (hts (.fieldLink RX3 9 "DynamicLogicProver$Model" "truths" "[I") (mo_X3_reset 1 rfl)) (fun _ h9 => h9) rfl dX3_reset_6 ?_
  refine lv_iconst (v := 0) hx hb dX3_reset_9 (by decide) ?_
  refine kc_Sv (As := [.ref t, .int 0]) (rest := []) (wr := [(h, .inr (3, [.ref t, .ref v, .int k])), (v, .inl (kv, 18, .inl g))]) ⟨hx, hb, hml, hown, hts⟩ (ct_J7_fill_53178 l D t kt 4 f 0 _ (by decide)) (va_cwS 2 hts (kg_S (mo_X3_reset 2 rfl) (mo_X3_reset 3 rfl) (mo_X3_reset 4 rfl) (goodIn_sub mb_X3_reset_0 gw_J7_fill_53178)) rfl rfl rfl hd_J7_fill_53178 ⟨Nat.le_of_ble_eq_true rfl, Nat.le_of_ble_eq_true rfl⟩) hK hN hP hD hS hA [1] [0, 2] [0] rfl rfl (by decide) (by decide) (by decide) rfl rfl hl.1 rfl (Nat.le_of_ble_eq_true rfl) dX3_reset_10 ⟨Nat.le_of_ble_eq_true rfl, Nat.le_of_ble_eq_true rfl⟩ (fun u_2 H locs w_3 hP hD hK1 hS => ?_)
  obtain ⟨o_4, rfl⟩ : ∃ z, z = u_2 := ⟨_, rfl⟩
  have hP : va_P D vwCl [(h, .inr (3, [.ref t, .ref v, .int k])), (v, .inl (kv, 18, .inl g)), (t, .inl (kt, 4, .inl o_4))] H := hP
  have hD : va_D A [(h, .inr (3, [.ref t, .ref v, .int k])), (v, .inl (kv, 18, .inl g)), (t, .inl (kt, 4, .inl o_4))] := hD
  have w_3 : ∀ k, k < 4 → o_4 k = 0 := w_3
  refine lv_aload_n hx hb dX3_reset_13 rfl (lv_at hl 0 rfl) ?_
  refine va_get (D := D) (ci := 3) (v := .ref v) (C := RX3) (T := TX3) (N := 3) hx hb hts hiX3 hown hK hP 0 rfl rfl 1 (by decide) (hts (.fieldLink RX3 15 "DynamicLogicProver$Model" "moves" "[I") (mo_X3_reset 5 rfl)) (fun _ h9 => h9) rfl dX3_reset_14 ?_
  refine lv_iconst (v := 0) hx hb dX3_reset_17 (by decide) ?_
  refine kc_Sv (As := [.ref v, .int 0]) (rest := []) (wr := [(h, .inr (3, [.ref t, .ref v, .int k])), (t, .inl (kt, 4, .inl o_4))]) ⟨hx, hb, hml, hown, hts⟩ (ct_J7_fill_53178 l D v kv 18 g 0 _ (by decide)) (va_cwS 2 hts (kg_S (mo_X3_reset 2 rfl) (mo_X3_reset 3 rfl) (mo_X3_reset 4 rfl) (goodIn_sub mb_X3_reset_0 gw_J7_fill_53178)) rfl rfl rfl hd_J7_fill_53178 ⟨Nat.le_of_ble_eq_true rfl, Nat.le_of_ble_eq_true rfl⟩) hK hN hP hD hS hA [1] [0, 2] [1] rfl rfl (by decide) (by decide) (by decide) rfl rfl hl.1 rfl (Nat.le_of_ble_eq_true rfl) dX3_reset_18 ⟨Nat.le_of_ble_eq_true rfl, Nat.le_of_ble_eq_true rfl⟩ (fun u_6 H locs w_7 hP hD hK1 hS => ?_)
  obtain ⟨o_8, rfl⟩ : ∃ z, z = u_6 := ⟨_, rfl⟩
  have hP : va_P D vwCl [(h, .inr (3, [.ref t, .ref v, .int k])), (t, .inl (kt, 4, .inl o_4)), (v, .inl (kv, 18, .inl o_8))] H := hP
  have hD : va_D A [(h, .inr (3, [.ref t, .ref v, .int k])), (t, .inl (kt, 4, .inl o_4)), (v, .inl (kv, 18, .inl o_8))] := hD
  have w_7 : ∀ k, k < 18 → o_8 k = 0 := w_7
  have hP9 := hP.sub (ws' := [(h, .inr (3, [.ref t, .ref v, .int k])), (t, .inl (kt, 4, .inl o_4)), (v, .inl (kv, 18, .inl o_8))]) [0, 1, 2] rfl
  have hD9 := hD.sub (ws' := [(h, .inr (3, [.ref t, .ref v, .int k])), (t, .inl (kt, 4, .inl o_4)), (v, .inl (kv, 18, .inl o_8))]) [0, 1, 2] (by decide) rfl
  have hK9 := hK.sub (tys' := []) [] rfl
  exact W.vret hx hb hr (fun tZ htZ hW => ⟨⟨(o_4, o_8), rfl, trivial, by rw [htZ]; exact hP9, va_K.moved hW.alike hK9, hD9⟩, hS.F htZ⟩) hS.2.2 dX3_reset_21
theorem dX3_truths_0 : decode cX3_truths 0 = .ok (.aload_n 0, 1) := by decide +kernel
theorem dX3_truths_1 : decode cX3_truths 1 = .ok (.getfield 9, 3) := by decide +kernel
theorem dX3_truths_4 : decode cX3_truths 4 = .ok (.iload_n 1, 1) := by decide +kernel
theorem dX3_truths_5 : decode cX3_truths 5 = .ok (.invokestatic 34, 3) := by decide +kernel
theorem dX3_truths_8 : decode cX3_truths 8 = .ok (.ireturn, 1) := by decide +kernel
def wo_X3_truths : List Cond := [.fieldLink RX3 9 "DynamicLogicProver$Model" "truths" "[I", .initialized RX11, .static yX11_at]
def wd_X3_truths : List Cond := .code yX3_truths cX3_truths 2 (some .int) :: (wo_X3_truths ++ (wd_X11_at ++ (wsX30 ++ ([] : List Cond))))
theorem mo_X3_truths {w : Cond} (i : Nat) (h : wo_X3_truths[i]? = some w) : w ∈ wd_X3_truths := List.mem_cons_of_mem _ (List.mem_append_left _ (List.mem_of_getElem? h))
theorem mb_X3_truths_0 : ∀ w ∈ wd_X11_at, w ∈ wd_X3_truths := fun w h => List.mem_cons_of_mem _ (List.mem_append_right _ (List.mem_append_left _ h))
theorem mb_X3_truths_1 : ∀ w ∈ wsX30, w ∈ wd_X3_truths := fun w h => List.mem_cons_of_mem _ (List.mem_append_right _ (List.mem_append_right _ (List.mem_append_left _ h)))
theorem hd_X3_truths : yX3_truths.cls ≠ "java/lang/invoke/MethodHandle" ∧ yX3_truths.cls ≠ "java/lang/invoke/VarHandle" ∧ (parseMethodDescriptor yX3_truths.desc).map (fun d => d.parameters.length) = some 1 := by decide +kernel
set_option maxRecDepth 20000 in
theorem gw_X3_truths : wd_X3_truths.all goodWord = true := by decide +kernel
abbrev qc_X3_truths (D : va_G) (h : Nat) (t : Nat) (v : Nat) (kt : ClassId) (f : Nat → Int32) (n : Int32) (i : Int32) (A : Nat → Prop) : Array Value → State → Outcome → State → Prop := va_Qi (fun (r : Int32) (uZ : Unit) => r = at_v f 4 i) (fun uZ tZ => kc_pos D A [(h, .inr (3, [.ref t, .ref v, .int n])), (t, .inl (kt, 4, .inl f))] [] tZ) A
set_option maxHeartbeats 4000000 in
set_option maxRecDepth 100000 in
theorem ct_X3_truths (l : Launch) (D : va_G) (h : Nat) (t : Nat) (v : Nat) (kt : ClassId) (f : Nat → Int32) (n : Int32) (i : Int32) (sz : Nat)  : Met l yX3_truths wd_X3_truths ({ frames := 1, cells := 0, slots := 0, locals := 21 }) (va_Pc [.ref h, .int i] (kc_pre D [(kt, .int)] [(h, .inr (3, [.ref t, .ref v, .int n])), (t, .inl (kt, 4, .inl f))] sz)) (qc_X3_truths D h t v kt f n i (va_A [(h, .inr (3, [.ref t, .ref v, .int n])), (t, .inl (kt, 4, .inl f))] sz)) 0 0 (va_A [(h, .inr (3, [.ref t, .ref v, .int n])), (t, .inl (kt, 4, .inl f))] sz) := by
  refine Met.ofW (cc := cX3_truths) (maxL := 2) (ret := (some .int)) (by decide) rfl ?_
  intro p e s m args below meth c s₁ B hml hv
  obtain ⟨rfl, hsz, hP, hK, hN, hD0⟩ := hv
  have hx := B.exec
  have hb := B.bytes
  have hr := B.returns
  have hts := atoms_spec (ws := wd_X3_truths) B.pre
  have hown : s.vm.findClass RX3 = some m.cls := findClass_of_methodNamed B.named
  have hlocks := B.notSynchronized
  subst hsz
  have hD := hD0.self (sz := s.heap.size)
  generalize hAe : va_A [(h, .inr (3, [.ref t, .ref v, .int n])), (t, .inl (kt, 4, .inl f))] s.heap.size = A at hD ⊢
  have hA : ∀ q : Nat, s.heap.size ≤ q → A q := fun q h => by rw [← hAe]; exact Or.inr h
  have hS : va_S A s.heap s.heap [] := va_S.rf
  have hiX3 : ∀ w ∈ wsX30, w ∈ wd_X3_truths := mb_X3_truths_1
  have hl := lv_entry ([.ref h, .int i]) (n := 2) (Nat.le_of_ble_eq_true rfl)
  rw [lg_entry_eq]
  generalize (lg_sl ([.ref h, .int i]) ++ List.replicate (2 - (lg_sl ([.ref h, .int i])).length) Slot.unset).toArray = ls at hl ⊢
  have hl : lv_has ls 2 [(0, .ref h), (1, .int i)] := hl
  refine lv_aload_n hx hb dX3_truths_0 rfl (lv_at hl 0 rfl) ?_
  refine va_get (D := D) (ci := 3) (v := .ref t) (C := RX3) (T := TX3) (N := 3) hx hb hts hiX3 hown hK hP 0 rfl rfl 0 (by decide) (hts (.fieldLink RX3 9 "DynamicLogicProver$Model" "truths" "[I") (mo_X3_truths 0 rfl)) (fun _ h9 => h9) rfl dX3_truths_1 ?_
  refine lv_iload_n hx hb dX3_truths_4 rfl (lv_at hl 1 rfl) ?_
  refine kc_Ni (As := [.ref t, .int i]) (rest := []) (wr := [(h, .inr (3, [.ref t, .ref v, .int n]))]) ⟨hx, hb, hml, hown, hts⟩ (ct_X11_at l D t kt 4 f i _ (by decide)) ⟨va_cnB 2 hts (goodIn_sub mb_X3_truths_0 gw_X11_at) rfl rfl rfl (hN.1 (RX3, 34, yX11_at) (List.mem_of_getElem? (i := 13) rfl)) (hts (.initialized RX11) (mo_X3_truths 1 rfl)) hd_X11_at ⟨Nat.le_of_ble_eq_true rfl, Nat.le_of_ble_eq_true rfl⟩, (hts (.static yX11_at) (mo_X3_truths 2 rfl)), trivial⟩ hK hN hP hD hS hA [1] [0] [0] rfl rfl (by decide) (by decide) (by decide) rfl rfl hl.1 rfl (Nat.le_of_ble_eq_true rfl) dX3_truths_5 ⟨Nat.le_of_ble_eq_true rfl, Nat.le_of_ble_eq_true rfl⟩ (fun r_1 u_2 H locs w_3 hP hD hK1 hS => ?_)
  have hP : va_P D vwCl [(h, .inr (3, [.ref t, .ref v, .int n])), (t, .inl (kt, 4, .inl f))] H := hP
  have hD : va_D A [(h, .inr (3, [.ref t, .ref v, .int n])), (t, .inl (kt, 4, .inl f))] := hD
  have w_3 : r_1 = at_v f 4 i := w_3
  have hP9 := hP.sub (ws' := [(h, .inr (3, [.ref t, .ref v, .int n])), (t, .inl (kt, 4, .inl f))]) [0, 1] rfl
  have hD9 := hD.sub (ws' := [(h, .inr (3, [.ref t, .ref v, .int n])), (t, .inl (kt, 4, .inl f))]) [0, 1] (by decide) rfl
  have hK9 := hK.sub (tys' := []) [] rfl
  exact W.iret (v := r_1) hx hb hr (fun tZ htZ hW => ⟨⟨r_1, (), rfl, w_3, by rw [htZ]; exact hP9, va_K.moved hW.alike hK9, hD9⟩, hS.F htZ⟩) hS.2.2 dX3_truths_8
theorem dX3_all_0 : decode cX3_all 0 = .ok (.iconst 1, 1) := by decide +kernel
theorem dX3_all_1 : decode cX3_all 1 = .ok (.aload_n 0, 1) := by decide +kernel
theorem dX3_all_2 : decode cX3_all 2 = .ok (.getfield 18, 3) := by decide +kernel
theorem dX3_all_5 : decode cX3_all 5 = .ok (.ishl, 1) := by decide +kernel
theorem dX3_all_6 : decode cX3_all 6 = .ok (.iconst 1, 1) := by decide +kernel
theorem dX3_all_7 : decode cX3_all 7 = .ok (.isub, 1) := by decide +kernel
theorem dX3_all_8 : decode cX3_all 8 = .ok (.ireturn, 1) := by decide +kernel
def wo_X3_all : List Cond := [.fieldLink RX3 18 "DynamicLogicProver$Model" "worlds" "I"]
def wd_X3_all : List Cond := .code yX3_all cX3_all 1 (some .int) :: (wo_X3_all ++ (wsX30 ++ ([] : List Cond)))
theorem mo_X3_all {w : Cond} (i : Nat) (h : wo_X3_all[i]? = some w) : w ∈ wd_X3_all := List.mem_cons_of_mem _ (List.mem_append_left _ (List.mem_of_getElem? h))
theorem mb_X3_all_0 : ∀ w ∈ wsX30, w ∈ wd_X3_all := fun w h => List.mem_cons_of_mem _ (List.mem_append_right _ (List.mem_append_left _ h))
theorem hd_X3_all : yX3_all.cls ≠ "java/lang/invoke/MethodHandle" ∧ yX3_all.cls ≠ "java/lang/invoke/VarHandle" ∧ (parseMethodDescriptor yX3_all.desc).map (fun d => d.parameters.length) = some 0 := by decide +kernel
set_option maxRecDepth 20000 in
theorem gw_X3_all : wd_X3_all.all goodWord = true := by decide +kernel
abbrev qc_X3_all (D : va_G) (h : Nat) (t : Nat) (v : Nat) (n : Int32) (A : Nat → Prop) : Array Value → State → Outcome → State → Prop := va_Qi (fun (r : Int32) (uZ : Unit) => True) (fun uZ tZ => kc_pos D A [(h, .inr (3, [.ref t, .ref v, .int n]))] [] tZ) A
set_option maxHeartbeats 4000000 in
set_option maxRecDepth 100000 in
theorem ct_X3_all (l : Launch) (D : va_G) (h : Nat) (t : Nat) (v : Nat) (n : Int32) (sz : Nat)  : Met l yX3_all wd_X3_all ({ frames := 0, cells := 0, slots := 0, locals := 0 }) (va_Pc [.ref h] (kc_pre D [] [(h, .inr (3, [.ref t, .ref v, .int n]))] sz)) (qc_X3_all D h t v n (va_A [(h, .inr (3, [.ref t, .ref v, .int n]))] sz)) 0 0 (va_A [(h, .inr (3, [.ref t, .ref v, .int n]))] sz) := by
  refine Met.ofW (cc := cX3_all) (maxL := 1) (ret := (some .int)) (by decide) rfl ?_
  intro p e s m args below meth c s₁ B hml hv
  obtain ⟨rfl, hsz, hP, hK, hN, hD0⟩ := hv
  have hx := B.exec
  have hb := B.bytes
  have hr := B.returns
  have hts := atoms_spec (ws := wd_X3_all) B.pre
  have hown : s.vm.findClass RX3 = some m.cls := findClass_of_methodNamed B.named
  have hlocks := B.notSynchronized
  subst hsz
  have hD := hD0.self (sz := s.heap.size)
  generalize hAe : va_A [(h, .inr (3, [.ref t, .ref v, .int n]))] s.heap.size = A at hD ⊢
  have hA : ∀ q : Nat, s.heap.size ≤ q → A q := fun q h => by rw [← hAe]; exact Or.inr h
  have hS : va_S A s.heap s.heap [] := va_S.rf
  have hiX3 : ∀ w ∈ wsX30, w ∈ wd_X3_all := mb_X3_all_0
  have hl := lv_entry ([.ref h]) (n := 1) (Nat.le_of_ble_eq_true rfl)
  rw [lg_entry_eq]
  generalize (lg_sl ([.ref h]) ++ List.replicate (1 - (lg_sl ([.ref h])).length) Slot.unset).toArray = ls at hl ⊢
  have hl : lv_has ls 1 [(0, .ref h)] := hl
  refine lv_iconst (v := 1) hx hb dX3_all_0 (by decide) ?_
  refine lv_aload_n hx hb dX3_all_1 rfl (lv_at hl 0 rfl) ?_
  refine va_get (D := D) (ci := 3) (v := .int n) (C := RX3) (T := TX3) (N := 3) hx hb hts hiX3 hown hK hP 0 rfl rfl 2 (by decide) (hts (.fieldLink RX3 18 "DynamicLogicProver$Model" "worlds" "I") (mo_X3_all 0 rfl)) (fun _ h9 => h9) rfl dX3_all_2 ?_
  refine lv_ishl hx hb dX3_all_5 ?_
  refine lv_topi (fun x_1 ex_1 => ?_)
  refine lv_iconst (v := 1) hx hb dX3_all_6 (by decide) ?_
  refine lv_isub hx hb dX3_all_7 ?_
  refine lv_topi (fun x_2 ex_2 => ?_)
  have hP9 := hP.sub (ws' := [(h, .inr (3, [.ref t, .ref v, .int n]))]) [0] rfl
  have hD9 := hD.sub (ws' := [(h, .inr (3, [.ref t, .ref v, .int n]))]) [0] (by decide) rfl
  have hK9 := hK.sub (tys' := []) [] rfl
  exact W.iret (v := x_2) hx hb hr (fun tZ htZ hW => ⟨⟨x_2, (), rfl, trivial, by rw [htZ]; exact hP9, va_K.moved hW.alike hK9, hD9⟩, hS.F htZ⟩) hS.2.2 dX3_all_8
theorem dX3_putTruth_0 : decode cX3_putTruth 0 = .ok (.aload_n 0, 1) := by decide +kernel
theorem dX3_putTruth_1 : decode cX3_putTruth 1 = .ok (.getfield 9, 3) := by decide +kernel
theorem dX3_putTruth_4 : decode cX3_putTruth 4 = .ok (.iload_n 1, 1) := by decide +kernel
theorem dX3_putTruth_5 : decode cX3_putTruth 5 = .ok (.invokestatic 34, 3) := by decide +kernel
theorem dX3_putTruth_8 : decode cX3_putTruth 8 = .ok (.iconst 1, 1) := by decide +kernel
theorem dX3_putTruth_9 : decode cX3_putTruth 9 = .ok (.iload_n 2, 1) := by decide +kernel
theorem dX3_putTruth_10 : decode cX3_putTruth 10 = .ok (.ishl, 1) := by decide +kernel
theorem dX3_putTruth_11 : decode cX3_putTruth 11 = .ok (.iconst (-1), 1) := by decide +kernel
theorem dX3_putTruth_12 : decode cX3_putTruth 12 = .ok (.ixor, 1) := by decide +kernel
theorem dX3_putTruth_13 : decode cX3_putTruth 13 = .ok (.iand, 1) := by decide +kernel
theorem dX3_putTruth_14 : decode cX3_putTruth 14 = .ok (.istore 4, 2) := by decide +kernel
theorem dX3_putTruth_16 : decode cX3_putTruth 16 = .ok (.aload_n 0, 1) := by decide +kernel
theorem dX3_putTruth_17 : decode cX3_putTruth 17 = .ok (.getfield 9, 3) := by decide +kernel
theorem dX3_putTruth_20 : decode cX3_putTruth 20 = .ok (.iload_n 1, 1) := by decide +kernel
theorem dX3_putTruth_21 : decode cX3_putTruth 21 = .ok (.iload_n 3, 1) := by decide +kernel
theorem dX3_putTruth_22 : decode cX3_putTruth 22 = .ok (.ifCond .eq 12, 3) := by decide +kernel
theorem dX3_putTruth_25 : decode cX3_putTruth 25 = .ok (.iload 4, 2) := by decide +kernel
theorem dX3_putTruth_27 : decode cX3_putTruth 27 = .ok (.iconst 1, 1) := by decide +kernel
theorem dX3_putTruth_28 : decode cX3_putTruth 28 = .ok (.iload_n 2, 1) := by decide +kernel
theorem dX3_putTruth_29 : decode cX3_putTruth 29 = .ok (.ishl, 1) := by decide +kernel
theorem dX3_putTruth_30 : decode cX3_putTruth 30 = .ok (.ior, 1) := by decide +kernel
theorem dX3_putTruth_31 : decode cX3_putTruth 31 = .ok (.goto 5, 3) := by decide +kernel
theorem dX3_putTruth_34 : decode cX3_putTruth 34 = .ok (.iload 4, 2) := by decide +kernel
theorem dX3_putTruth_36 : decode cX3_putTruth 36 = .ok (.invokestatic 38, 3) := by decide +kernel
theorem dX3_putTruth_39 : decode cX3_putTruth 39 = .ok (.return_, 1) := by decide +kernel
def wo_X3_putTruth : List Cond := [.fieldLink RX3 9 "DynamicLogicProver$Model" "truths" "[I", .initialized RX11, .static yX11_at, .static yX11_put]
def wd_X3_putTruth : List Cond := .code yX3_putTruth cX3_putTruth 5 none :: (wo_X3_putTruth ++ (wd_X11_at ++ (wd_X11_put ++ (wsX30 ++ ([] : List Cond)))))
theorem mo_X3_putTruth {w : Cond} (i : Nat) (h : wo_X3_putTruth[i]? = some w) : w ∈ wd_X3_putTruth := List.mem_cons_of_mem _ (List.mem_append_left _ (List.mem_of_getElem? h))
theorem mb_X3_putTruth_0 : ∀ w ∈ wd_X11_at, w ∈ wd_X3_putTruth := fun w h => List.mem_cons_of_mem _ (List.mem_append_right _ (List.mem_append_left _ h))
theorem mb_X3_putTruth_1 : ∀ w ∈ wd_X11_put, w ∈ wd_X3_putTruth := fun w h => List.mem_cons_of_mem _ (List.mem_append_right _ (List.mem_append_right _ (List.mem_append_left _ h)))
theorem mb_X3_putTruth_2 : ∀ w ∈ wsX30, w ∈ wd_X3_putTruth := fun w h => List.mem_cons_of_mem _ (List.mem_append_right _ (List.mem_append_right _ (List.mem_append_right _ (List.mem_append_left _ h))))
theorem hd_X3_putTruth : yX3_putTruth.cls ≠ "java/lang/invoke/MethodHandle" ∧ yX3_putTruth.cls ≠ "java/lang/invoke/VarHandle" ∧ (parseMethodDescriptor yX3_putTruth.desc).map (fun d => d.parameters.length) = some 3 := by decide +kernel
set_option maxRecDepth 20000 in
theorem gw_X3_putTruth : wd_X3_putTruth.all goodWord = true := by decide +kernel
abbrev qc_X3_putTruth (D : va_G) (h : Nat) (t : Nat) (v : Nat) (kt : ClassId) (f : Nat → Int32) (n : Int32) (i : Int32) (w : Int32) (b : Int32) (A : Nat → Prop) : Array Value → State → Outcome → State → Prop := va_Qv (fun (uZ : (Nat → Int32)) => True) (fun uZ tZ => kc_pos D A [(h, .inr (3, [.ref t, .ref v, .int n])), (t, .inl (kt, 4, .inl uZ))] [] tZ) A
set_option maxHeartbeats 4000000 in
set_option maxRecDepth 100000 in
theorem ct_X3_putTruth (l : Launch) (D : va_G) (h : Nat) (t : Nat) (v : Nat) (kt : ClassId) (f : Nat → Int32) (n : Int32) (i : Int32) (w : Int32) (b : Int32) (sz : Nat)  : Met l yX3_putTruth wd_X3_putTruth ({ frames := 1, cells := 0, slots := 0, locals := 22 }) (va_Pc [.ref h, .int i, .int w, .int b] (kc_pre D [(kt, .int)] [(h, .inr (3, [.ref t, .ref v, .int n])), (t, .inl (kt, 4, .inl f))] sz)) (qc_X3_putTruth D h t v kt f n i w b (va_A [(h, .inr (3, [.ref t, .ref v, .int n])), (t, .inl (kt, 4, .inl f))] sz)) 0 0 (va_A [(h, .inr (3, [.ref t, .ref v, .int n])), (t, .inl (kt, 4, .inl f))] sz) := by
  refine Met.ofW (cc := cX3_putTruth) (maxL := 5) (ret := none) (by decide) rfl ?_
  intro p e s m args below meth c s₁ B hml hv
  obtain ⟨rfl, hsz, hP, hK, hN, hD0⟩ := hv
  have hx := B.exec
  have hb := B.bytes
  have hr := B.returns
  have hts := atoms_spec (ws := wd_X3_putTruth) B.pre
  have hown : s.vm.findClass RX3 = some m.cls := findClass_of_methodNamed B.named
  have hlocks := B.notSynchronized
  subst hsz
  have hD := hD0.self (sz := s.heap.size)
  generalize hAe : va_A [(h, .inr (3, [.ref t, .ref v, .int n])), (t, .inl (kt, 4, .inl f))] s.heap.size = A at hD ⊢
  have hA : ∀ q : Nat, s.heap.size ≤ q → A q := fun q h => by rw [← hAe]; exact Or.inr h
  have hS : va_S A s.heap s.heap [] := va_S.rf
  have hiX3 : ∀ w ∈ wsX30, w ∈ wd_X3_putTruth := mb_X3_putTruth_2
  have hl := lv_entry ([.ref h, .int i, .int w, .int b]) (n := 5) (Nat.le_of_ble_eq_true rfl)
  rw [lg_entry_eq]
  generalize (lg_sl ([.ref h, .int i, .int w, .int b]) ++ List.replicate (5 - (lg_sl ([.ref h, .int i, .int w, .int b])).length) Slot.unset).toArray = ls at hl ⊢
  have hl : lv_has ls 5 [(0, .ref h), (1, .int i), (2, .int w), (3, .int b)] := hl
  refine lv_aload_n hx hb dX3_putTruth_0 rfl (lv_at hl 0 rfl) ?_
  refine va_get (D := D) (ci := 3) (v := .ref t) (C := RX3) (T := TX3) (N := 3) hx hb hts hiX3 hown hK hP 0 rfl rfl 0 (by decide) (hts (.fieldLink RX3 9 "DynamicLogicProver$Model" "truths" "[I") (mo_X3_putTruth 0 rfl)) (fun _ h9 => h9) rfl dX3_putTruth_1 ?_
  refine lv_iload_n hx hb dX3_putTruth_4 rfl (lv_at hl 1 rfl) ?_
  refine kc_Ni (As := [.ref t, .int i]) (rest := []) (wr := [(h, .inr (3, [.ref t, .ref v, .int n]))]) ⟨hx, hb, hml, hown, hts⟩ (ct_X11_at l D t kt 4 f i _ (by decide)) ⟨va_cnB 2 hts (goodIn_sub mb_X3_putTruth_0 gw_X11_at) rfl rfl rfl (hN.1 (RX3, 34, yX11_at) (List.mem_of_getElem? (i := 13) rfl)) (hts (.initialized RX11) (mo_X3_putTruth 1 rfl)) hd_X11_at ⟨Nat.le_of_ble_eq_true rfl, Nat.le_of_ble_eq_true rfl⟩, (hts (.static yX11_at) (mo_X3_putTruth 2 rfl)), trivial⟩ hK hN hP hD hS hA [1] [0] [0] rfl rfl (by decide) (by decide) (by decide) rfl rfl hl.1 rfl (Nat.le_of_ble_eq_true rfl) dX3_putTruth_5 ⟨Nat.le_of_ble_eq_true rfl, Nat.le_of_ble_eq_true rfl⟩ (fun r_1 u_2 H locs w_3 hP hD hK1 hS => ?_)
  have hP : va_P D vwCl [(h, .inr (3, [.ref t, .ref v, .int n])), (t, .inl (kt, 4, .inl f))] H := hP
  have hD : va_D A [(h, .inr (3, [.ref t, .ref v, .int n])), (t, .inl (kt, 4, .inl f))] := hD
  have w_3 : r_1 = at_v f 4 i := w_3
  refine lv_iconst (v := 1) hx hb dX3_putTruth_8 (by decide) ?_
  refine lv_iload_n hx hb dX3_putTruth_9 rfl (lv_at hl 2 rfl) ?_
  refine lv_ishl hx hb dX3_putTruth_10 ?_
  refine lv_topi (fun x_4 ex_4 => ?_)
  refine lv_iconst (v := (-1)) hx hb dX3_putTruth_11 (by decide) ?_
  refine lv_ixor hx hb dX3_putTruth_12 ?_
  refine lv_topi (fun x_5 ex_5 => ?_)
  refine lv_iand hx hb dX3_putTruth_13 ?_
  refine lv_topi (fun x_6 ex_6 => ?_)
  refine lv_istore (lv' := [(4, .int x_6), (0, .ref h), (1, .int i), (2, .int w), (3, .int b)]) hx hb dX3_putTruth_14 hl (by decide) rfl (fun ls hl => ?_)
  refine lv_aload_n hx hb dX3_putTruth_16 rfl (lv_at hl 1 rfl) ?_
  refine va_get (D := D) (ci := 3) (v := .ref t) (C := RX3) (T := TX3) (N := 3) hx hb hts hiX3 hown hK hP 0 rfl rfl 0 (by decide) (hts (.fieldLink RX3 9 "DynamicLogicProver$Model" "truths" "[I") (mo_X3_putTruth 0 rfl)) (fun _ h9 => h9) rfl dX3_putTruth_17 ?_
  refine lv_iload_n hx hb dX3_putTruth_20 rfl (lv_at hl 2 rfl) ?_
  refine lv_iload_n hx hb dX3_putTruth_21 rfl (lv_at hl 4 rfl) ?_
  refine lv_if_eq (tgt := 34) hx hb dX3_putTruth_22 (by decide) (fun c_7 => ?_) (fun c_7 => ?_)
  · refine lv_iload hx hb dX3_putTruth_34 (lv_at hl 0 rfl) ?_
    refine kc_Nv (As := [.ref t, .int i, .int x_6]) (rest := []) (wr := [(h, .inr (3, [.ref t, .ref v, .int n]))]) ⟨hx, hb, hml, hown, hts⟩ (ct_X11_put l D t kt 4 f i x_6 _ (by decide)) ⟨va_cnB 3 hts (goodIn_sub mb_X3_putTruth_1 gw_X11_put) rfl rfl rfl (hN.1 (RX3, 38, yX11_put) (List.mem_of_getElem? (i := 14) rfl)) (hts (.initialized RX11) (mo_X3_putTruth 1 rfl)) hd_X11_put ⟨Nat.le_of_ble_eq_true rfl, Nat.le_of_ble_eq_true rfl⟩, (hts (.static yX11_put) (mo_X3_putTruth 3 rfl)), trivial⟩ hK hN hP hD hS hA [1] [0] [0] rfl rfl (by decide) (by decide) (by decide) rfl rfl hl.1 rfl (Nat.le_of_ble_eq_true rfl) dX3_putTruth_36 ⟨Nat.le_of_ble_eq_true rfl, Nat.le_of_ble_eq_true rfl⟩ (fun u_9 H locs w_10 hP hD hK1 hS => ?_)
    obtain ⟨o_11, rfl⟩ : ∃ z, z = u_9 := ⟨_, rfl⟩
    have hP : va_P D vwCl [(h, .inr (3, [.ref t, .ref v, .int n])), (t, .inl (kt, 4, .inl o_11))] H := hP
    have hD : va_D A [(h, .inr (3, [.ref t, .ref v, .int n])), (t, .inl (kt, 4, .inl o_11))] := hD
    have w_10 : o_11 = put_v f 4 i x_6 := w_10
    have hP9 := hP.sub (ws' := [(h, .inr (3, [.ref t, .ref v, .int n])), (t, .inl (kt, 4, .inl o_11))]) [0, 1] rfl
    have hD9 := hD.sub (ws' := [(h, .inr (3, [.ref t, .ref v, .int n])), (t, .inl (kt, 4, .inl o_11))]) [0, 1] (by decide) rfl
    have hK9 := hK.sub (tys' := []) [] rfl
    exact W.vret hx hb hr (fun tZ htZ hW => ⟨⟨o_11, rfl, trivial, by rw [htZ]; exact hP9, va_K.moved hW.alike hK9, hD9⟩, hS.F htZ⟩) hS.2.2 dX3_putTruth_39
  · refine lv_iload hx hb dX3_putTruth_25 (lv_at hl 0 rfl) ?_
    refine lv_iconst (v := 1) hx hb dX3_putTruth_27 (by decide) ?_
    refine lv_iload_n hx hb dX3_putTruth_28 rfl (lv_at hl 3 rfl) ?_
    refine lv_ishl hx hb dX3_putTruth_29 ?_
    refine lv_topi (fun x_12 ex_12 => ?_)
    refine lv_ior hx hb dX3_putTruth_30 ?_
    refine lv_topi (fun x_13 ex_13 => ?_)
    refine lv_goto (tgt := 36) hx hb dX3_putTruth_31 (by decide) ?_
    refine kc_Nv (As := [.ref t, .int i, .int x_13]) (rest := []) (wr := [(h, .inr (3, [.ref t, .ref v, .int n]))]) ⟨hx, hb, hml, hown, hts⟩ (ct_X11_put l D t kt 4 f i x_13 _ (by decide)) ⟨va_cnB 3 hts (goodIn_sub mb_X3_putTruth_1 gw_X11_put) rfl rfl rfl (hN.1 (RX3, 38, yX11_put) (List.mem_of_getElem? (i := 14) rfl)) (hts (.initialized RX11) (mo_X3_putTruth 1 rfl)) hd_X11_put ⟨Nat.le_of_ble_eq_true rfl, Nat.le_of_ble_eq_true rfl⟩, (hts (.static yX11_put) (mo_X3_putTruth 3 rfl)), trivial⟩ hK hN hP hD hS hA [1] [0] [0] rfl rfl (by decide) (by decide) (by decide) rfl rfl hl.1 rfl (Nat.le_of_ble_eq_true rfl) dX3_putTruth_36 ⟨Nat.le_of_ble_eq_true rfl, Nat.le_of_ble_eq_true rfl⟩ (fun u_15 H locs w_16 hP hD hK1 hS => ?_)
    obtain ⟨o_17, rfl⟩ : ∃ z, z = u_15 := ⟨_, rfl⟩
    have hP : va_P D vwCl [(h, .inr (3, [.ref t, .ref v, .int n])), (t, .inl (kt, 4, .inl o_17))] H := hP
    have hD : va_D A [(h, .inr (3, [.ref t, .ref v, .int n])), (t, .inl (kt, 4, .inl o_17))] := hD
    have w_16 : o_17 = put_v f 4 i x_13 := w_16
    have hP9 := hP.sub (ws' := [(h, .inr (3, [.ref t, .ref v, .int n])), (t, .inl (kt, 4, .inl o_17))]) [0, 1] rfl
    have hD9 := hD.sub (ws' := [(h, .inr (3, [.ref t, .ref v, .int n])), (t, .inl (kt, 4, .inl o_17))]) [0, 1] (by decide) rfl
    have hK9 := hK.sub (tys' := []) [] rfl
    exact W.vret hx hb hr (fun tZ htZ hW => ⟨⟨o_17, rfl, trivial, by rw [htZ]; exact hP9, va_K.moved hW.alike hK9, hD9⟩, hS.F htZ⟩) hS.2.2 dX3_putTruth_39
theorem dX3_putMove_0 : decode cX3_putMove 0 = .ok (.iload_n 1, 1) := by decide +kernel
theorem dX3_putMove_1 : decode cX3_putMove 1 = .ok (.bipush 6, 2) := by decide +kernel
theorem dX3_putMove_3 : decode cX3_putMove 3 = .ok (.imul, 1) := by decide +kernel
theorem dX3_putMove_4 : decode cX3_putMove 4 = .ok (.iload_n 2, 1) := by decide +kernel
theorem dX3_putMove_5 : decode cX3_putMove 5 = .ok (.iadd, 1) := by decide +kernel
theorem dX3_putMove_6 : decode cX3_putMove 6 = .ok (.istore 5, 2) := by decide +kernel
theorem dX3_putMove_8 : decode cX3_putMove 8 = .ok (.aload_n 0, 1) := by decide +kernel
theorem dX3_putMove_9 : decode cX3_putMove 9 = .ok (.getfield 15, 3) := by decide +kernel
theorem dX3_putMove_12 : decode cX3_putMove 12 = .ok (.iload 5, 2) := by decide +kernel
theorem dX3_putMove_14 : decode cX3_putMove 14 = .ok (.invokestatic 34, 3) := by decide +kernel
theorem dX3_putMove_17 : decode cX3_putMove 17 = .ok (.iconst 1, 1) := by decide +kernel
theorem dX3_putMove_18 : decode cX3_putMove 18 = .ok (.iload_n 3, 1) := by decide +kernel
theorem dX3_putMove_19 : decode cX3_putMove 19 = .ok (.ishl, 1) := by decide +kernel
theorem dX3_putMove_20 : decode cX3_putMove 20 = .ok (.iconst (-1), 1) := by decide +kernel
theorem dX3_putMove_21 : decode cX3_putMove 21 = .ok (.ixor, 1) := by decide +kernel
theorem dX3_putMove_22 : decode cX3_putMove 22 = .ok (.iand, 1) := by decide +kernel
theorem dX3_putMove_23 : decode cX3_putMove 23 = .ok (.istore 6, 2) := by decide +kernel
theorem dX3_putMove_25 : decode cX3_putMove 25 = .ok (.aload_n 0, 1) := by decide +kernel
theorem dX3_putMove_26 : decode cX3_putMove 26 = .ok (.getfield 15, 3) := by decide +kernel
theorem dX3_putMove_29 : decode cX3_putMove 29 = .ok (.iload 5, 2) := by decide +kernel
theorem dX3_putMove_31 : decode cX3_putMove 31 = .ok (.iload 4, 2) := by decide +kernel
theorem dX3_putMove_33 : decode cX3_putMove 33 = .ok (.ifCond .eq 12, 3) := by decide +kernel
theorem dX3_putMove_36 : decode cX3_putMove 36 = .ok (.iload 6, 2) := by decide +kernel
theorem dX3_putMove_38 : decode cX3_putMove 38 = .ok (.iconst 1, 1) := by decide +kernel
theorem dX3_putMove_39 : decode cX3_putMove 39 = .ok (.iload_n 3, 1) := by decide +kernel
theorem dX3_putMove_40 : decode cX3_putMove 40 = .ok (.ishl, 1) := by decide +kernel
theorem dX3_putMove_41 : decode cX3_putMove 41 = .ok (.ior, 1) := by decide +kernel
theorem dX3_putMove_42 : decode cX3_putMove 42 = .ok (.goto 5, 3) := by decide +kernel
theorem dX3_putMove_45 : decode cX3_putMove 45 = .ok (.iload 6, 2) := by decide +kernel
theorem dX3_putMove_47 : decode cX3_putMove 47 = .ok (.invokestatic 38, 3) := by decide +kernel
theorem dX3_putMove_50 : decode cX3_putMove 50 = .ok (.return_, 1) := by decide +kernel
def wo_X3_putMove : List Cond := [.fieldLink RX3 15 "DynamicLogicProver$Model" "moves" "[I", .initialized RX11, .static yX11_at, .static yX11_put]
def wd_X3_putMove : List Cond := .code yX3_putMove cX3_putMove 7 none :: (wo_X3_putMove ++ (wd_X11_at ++ (wd_X11_put ++ (wsX30 ++ ([] : List Cond)))))
theorem mo_X3_putMove {w : Cond} (i : Nat) (h : wo_X3_putMove[i]? = some w) : w ∈ wd_X3_putMove := List.mem_cons_of_mem _ (List.mem_append_left _ (List.mem_of_getElem? h))
theorem mb_X3_putMove_0 : ∀ w ∈ wd_X11_at, w ∈ wd_X3_putMove := fun w h => List.mem_cons_of_mem _ (List.mem_append_right _ (List.mem_append_left _ h))
theorem mb_X3_putMove_1 : ∀ w ∈ wd_X11_put, w ∈ wd_X3_putMove := fun w h => List.mem_cons_of_mem _ (List.mem_append_right _ (List.mem_append_right _ (List.mem_append_left _ h)))
theorem mb_X3_putMove_2 : ∀ w ∈ wsX30, w ∈ wd_X3_putMove := fun w h => List.mem_cons_of_mem _ (List.mem_append_right _ (List.mem_append_right _ (List.mem_append_right _ (List.mem_append_left _ h))))
theorem hd_X3_putMove : yX3_putMove.cls ≠ "java/lang/invoke/MethodHandle" ∧ yX3_putMove.cls ≠ "java/lang/invoke/VarHandle" ∧ (parseMethodDescriptor yX3_putMove.desc).map (fun d => d.parameters.length) = some 4 := by decide +kernel
set_option maxRecDepth 20000 in
theorem gw_X3_putMove : wd_X3_putMove.all goodWord = true := by decide +kernel
abbrev qc_X3_putMove (D : va_G) (h : Nat) (t : Nat) (v : Nat) (kv : ClassId) (g : Nat → Int32) (n : Int32) (i : Int32) (w : Int32) (o : Int32) (b : Int32) (A : Nat → Prop) : Array Value → State → Outcome → State → Prop := va_Qv (fun (uZ : (Nat → Int32)) => True) (fun uZ tZ => kc_pos D A [(h, .inr (3, [.ref t, .ref v, .int n])), (v, .inl (kv, 18, .inl uZ))] [] tZ) A
set_option maxHeartbeats 4000000 in
set_option maxRecDepth 100000 in
theorem ct_X3_putMove (l : Launch) (D : va_G) (h : Nat) (t : Nat) (v : Nat) (kv : ClassId) (g : Nat → Int32) (n : Int32) (i : Int32) (w : Int32) (o : Int32) (b : Int32) (sz : Nat)  : Met l yX3_putMove wd_X3_putMove ({ frames := 1, cells := 0, slots := 0, locals := 22 }) (va_Pc [.ref h, .int i, .int w, .int o, .int b] (kc_pre D [(kv, .int)] [(h, .inr (3, [.ref t, .ref v, .int n])), (v, .inl (kv, 18, .inl g))] sz)) (qc_X3_putMove D h t v kv g n i w o b (va_A [(h, .inr (3, [.ref t, .ref v, .int n])), (v, .inl (kv, 18, .inl g))] sz)) 0 0 (va_A [(h, .inr (3, [.ref t, .ref v, .int n])), (v, .inl (kv, 18, .inl g))] sz) := by
  refine Met.ofW (cc := cX3_putMove) (maxL := 7) (ret := none) (by decide) rfl ?_
  intro p e s m args below meth c s₁ B hml hv
  obtain ⟨rfl, hsz, hP, hK, hN, hD0⟩ := hv
  have hx := B.exec
  have hb := B.bytes
  have hr := B.returns
  have hts := atoms_spec (ws := wd_X3_putMove) B.pre
  have hown : s.vm.findClass RX3 = some m.cls := findClass_of_methodNamed B.named
  have hlocks := B.notSynchronized
  subst hsz
  have hD := hD0.self (sz := s.heap.size)
  generalize hAe : va_A [(h, .inr (3, [.ref t, .ref v, .int n])), (v, .inl (kv, 18, .inl g))] s.heap.size = A at hD ⊢
  have hA : ∀ q : Nat, s.heap.size ≤ q → A q := fun q h => by rw [← hAe]; exact Or.inr h
  have hS : va_S A s.heap s.heap [] := va_S.rf
  have hiX3 : ∀ w ∈ wsX30, w ∈ wd_X3_putMove := mb_X3_putMove_2
  have hl := lv_entry ([.ref h, .int i, .int w, .int o, .int b]) (n := 7) (Nat.le_of_ble_eq_true rfl)
  rw [lg_entry_eq]
  generalize (lg_sl ([.ref h, .int i, .int w, .int o, .int b]) ++ List.replicate (7 - (lg_sl ([.ref h, .int i, .int w, .int o, .int b])).length) Slot.unset).toArray = ls at hl ⊢
  have hl : lv_has ls 7 [(0, .ref h), (1, .int i), (2, .int w), (3, .int o), (4, .int b)] := hl
  refine lv_iload_n hx hb dX3_putMove_0 rfl (lv_at hl 1 rfl) ?_
  refine lv_bipush (v := 6) hx hb dX3_putMove_1 (by decide) ?_
  refine lv_imul hx hb dX3_putMove_3 ?_
  refine lv_topi (fun x_1 ex_1 => ?_)
  refine lv_iload_n hx hb dX3_putMove_4 rfl (lv_at hl 2 rfl) ?_
  refine lv_iadd hx hb dX3_putMove_5 ?_
  refine lv_topi (fun x_2 ex_2 => ?_)
  refine lv_istore (lv' := [(5, .int x_2), (0, .ref h), (1, .int i), (2, .int w), (3, .int o), (4, .int b)]) hx hb dX3_putMove_6 hl (by decide) rfl (fun ls hl => ?_)
  refine lv_aload_n hx hb dX3_putMove_8 rfl (lv_at hl 1 rfl) ?_
  refine va_get (D := D) (ci := 3) (v := .ref v) (C := RX3) (T := TX3) (N := 3) hx hb hts hiX3 hown hK hP 0 rfl rfl 1 (by decide) (hts (.fieldLink RX3 15 "DynamicLogicProver$Model" "moves" "[I") (mo_X3_putMove 0 rfl)) (fun _ h9 => h9) rfl dX3_putMove_9 ?_
  refine lv_iload hx hb dX3_putMove_12 (lv_at hl 0 rfl) ?_
  refine kc_Ni (As := [.ref v, .int x_2]) (rest := []) (wr := [(h, .inr (3, [.ref t, .ref v, .int n]))]) ⟨hx, hb, hml, hown, hts⟩ (ct_X11_at l D v kv 18 g x_2 _ (by decide)) ⟨va_cnB 2 hts (goodIn_sub mb_X3_putMove_0 gw_X11_at) rfl rfl rfl (hN.1 (RX3, 34, yX11_at) (List.mem_of_getElem? (i := 13) rfl)) (hts (.initialized RX11) (mo_X3_putMove 1 rfl)) hd_X11_at ⟨Nat.le_of_ble_eq_true rfl, Nat.le_of_ble_eq_true rfl⟩, (hts (.static yX11_at) (mo_X3_putMove 2 rfl)), trivial⟩ hK hN hP hD hS hA [1] [0] [0] rfl rfl (by decide) (by decide) (by decide) rfl rfl hl.1 rfl (Nat.le_of_ble_eq_true rfl) dX3_putMove_14 ⟨Nat.le_of_ble_eq_true rfl, Nat.le_of_ble_eq_true rfl⟩ (fun r_3 u_4 H locs w_5 hP hD hK1 hS => ?_)
  have hP : va_P D vwCl [(h, .inr (3, [.ref t, .ref v, .int n])), (v, .inl (kv, 18, .inl g))] H := hP
  have hD : va_D A [(h, .inr (3, [.ref t, .ref v, .int n])), (v, .inl (kv, 18, .inl g))] := hD
  have w_5 : r_3 = at_v g 18 x_2 := w_5
  refine lv_iconst (v := 1) hx hb dX3_putMove_17 (by decide) ?_
  refine lv_iload_n hx hb dX3_putMove_18 rfl (lv_at hl 4 rfl) ?_
  refine lv_ishl hx hb dX3_putMove_19 ?_
  refine lv_topi (fun x_6 ex_6 => ?_)
  refine lv_iconst (v := (-1)) hx hb dX3_putMove_20 (by decide) ?_
  refine lv_ixor hx hb dX3_putMove_21 ?_
  refine lv_topi (fun x_7 ex_7 => ?_)
  refine lv_iand hx hb dX3_putMove_22 ?_
  refine lv_topi (fun x_8 ex_8 => ?_)
  refine lv_istore (lv' := [(6, .int x_8), (5, .int x_2), (0, .ref h), (1, .int i), (2, .int w), (3, .int o), (4, .int b)]) hx hb dX3_putMove_23 hl (by decide) rfl (fun ls hl => ?_)
  refine lv_aload_n hx hb dX3_putMove_25 rfl (lv_at hl 2 rfl) ?_
  refine va_get (D := D) (ci := 3) (v := .ref v) (C := RX3) (T := TX3) (N := 3) hx hb hts hiX3 hown hK hP 0 rfl rfl 1 (by decide) (hts (.fieldLink RX3 15 "DynamicLogicProver$Model" "moves" "[I") (mo_X3_putMove 0 rfl)) (fun _ h9 => h9) rfl dX3_putMove_26 ?_
  refine lv_iload hx hb dX3_putMove_29 (lv_at hl 1 rfl) ?_
  refine lv_iload hx hb dX3_putMove_31 (lv_at hl 6 rfl) ?_
  refine lv_if_eq (tgt := 45) hx hb dX3_putMove_33 (by decide) (fun c_9 => ?_) (fun c_9 => ?_)
  · refine lv_iload hx hb dX3_putMove_45 (lv_at hl 0 rfl) ?_
    refine kc_Nv (As := [.ref v, .int x_2, .int x_8]) (rest := []) (wr := [(h, .inr (3, [.ref t, .ref v, .int n]))]) ⟨hx, hb, hml, hown, hts⟩ (ct_X11_put l D v kv 18 g x_2 x_8 _ (by decide)) ⟨va_cnB 3 hts (goodIn_sub mb_X3_putMove_1 gw_X11_put) rfl rfl rfl (hN.1 (RX3, 38, yX11_put) (List.mem_of_getElem? (i := 14) rfl)) (hts (.initialized RX11) (mo_X3_putMove 1 rfl)) hd_X11_put ⟨Nat.le_of_ble_eq_true rfl, Nat.le_of_ble_eq_true rfl⟩, (hts (.static yX11_put) (mo_X3_putMove 3 rfl)), trivial⟩ hK hN hP hD hS hA [1] [0] [0] rfl rfl (by decide) (by decide) (by decide) rfl rfl hl.1 rfl (Nat.le_of_ble_eq_true rfl) dX3_putMove_47 ⟨Nat.le_of_ble_eq_true rfl, Nat.le_of_ble_eq_true rfl⟩ (fun u_11 H locs w_12 hP hD hK1 hS => ?_)
    obtain ⟨o_13, rfl⟩ : ∃ z, z = u_11 := ⟨_, rfl⟩
    have hP : va_P D vwCl [(h, .inr (3, [.ref t, .ref v, .int n])), (v, .inl (kv, 18, .inl o_13))] H := hP
    have hD : va_D A [(h, .inr (3, [.ref t, .ref v, .int n])), (v, .inl (kv, 18, .inl o_13))] := hD
    have w_12 : o_13 = put_v g 18 x_2 x_8 := w_12
    have hP9 := hP.sub (ws' := [(h, .inr (3, [.ref t, .ref v, .int n])), (v, .inl (kv, 18, .inl o_13))]) [0, 1] rfl
    have hD9 := hD.sub (ws' := [(h, .inr (3, [.ref t, .ref v, .int n])), (v, .inl (kv, 18, .inl o_13))]) [0, 1] (by decide) rfl
    have hK9 := hK.sub (tys' := []) [] rfl
    exact W.vret hx hb hr (fun tZ htZ hW => ⟨⟨o_13, rfl, trivial, by rw [htZ]; exact hP9, va_K.moved hW.alike hK9, hD9⟩, hS.F htZ⟩) hS.2.2 dX3_putMove_50
  · refine lv_iload hx hb dX3_putMove_36 (lv_at hl 0 rfl) ?_
    refine lv_iconst (v := 1) hx hb dX3_putMove_38 (by decide) ?_
    refine lv_iload_n hx hb dX3_putMove_39 rfl (lv_at hl 5 rfl) ?_
    refine lv_ishl hx hb dX3_putMove_40 ?_
    refine lv_topi (fun x_14 ex_14 => ?_)
    refine lv_ior hx hb dX3_putMove_41 ?_
    refine lv_topi (fun x_15 ex_15 => ?_)
    refine lv_goto (tgt := 47) hx hb dX3_putMove_42 (by decide) ?_
    refine kc_Nv (As := [.ref v, .int x_2, .int x_15]) (rest := []) (wr := [(h, .inr (3, [.ref t, .ref v, .int n]))]) ⟨hx, hb, hml, hown, hts⟩ (ct_X11_put l D v kv 18 g x_2 x_15 _ (by decide)) ⟨va_cnB 3 hts (goodIn_sub mb_X3_putMove_1 gw_X11_put) rfl rfl rfl (hN.1 (RX3, 38, yX11_put) (List.mem_of_getElem? (i := 14) rfl)) (hts (.initialized RX11) (mo_X3_putMove 1 rfl)) hd_X11_put ⟨Nat.le_of_ble_eq_true rfl, Nat.le_of_ble_eq_true rfl⟩, (hts (.static yX11_put) (mo_X3_putMove 3 rfl)), trivial⟩ hK hN hP hD hS hA [1] [0] [0] rfl rfl (by decide) (by decide) (by decide) rfl rfl hl.1 rfl (Nat.le_of_ble_eq_true rfl) dX3_putMove_47 ⟨Nat.le_of_ble_eq_true rfl, Nat.le_of_ble_eq_true rfl⟩ (fun u_17 H locs w_18 hP hD hK1 hS => ?_)
    obtain ⟨o_19, rfl⟩ : ∃ z, z = u_17 := ⟨_, rfl⟩
    have hP : va_P D vwCl [(h, .inr (3, [.ref t, .ref v, .int n])), (v, .inl (kv, 18, .inl o_19))] H := hP
    have hD : va_D A [(h, .inr (3, [.ref t, .ref v, .int n])), (v, .inl (kv, 18, .inl o_19))] := hD
    have w_18 : o_19 = put_v g 18 x_2 x_15 := w_18
    have hP9 := hP.sub (ws' := [(h, .inr (3, [.ref t, .ref v, .int n])), (v, .inl (kv, 18, .inl o_19))]) [0, 1] rfl
    have hD9 := hD.sub (ws' := [(h, .inr (3, [.ref t, .ref v, .int n])), (v, .inl (kv, 18, .inl o_19))]) [0, 1] (by decide) rfl
    have hK9 := hK.sub (tys' := []) [] rfl
    exact W.vret hx hb hr (fun tZ htZ hW => ⟨⟨o_19, rfl, trivial, by rw [htZ]; exact hP9, va_K.moved hW.alike hK9, hD9⟩, hS.F htZ⟩) hS.2.2 dX3_putMove_50
theorem dX3_moves_0 : decode cX3_moves 0 = .ok (.aload_n 0, 1) := by decide +kernel
theorem dX3_moves_1 : decode cX3_moves 1 = .ok (.getfield 15, 3) := by decide +kernel
theorem dX3_moves_4 : decode cX3_moves 4 = .ok (.iload_n 1, 1) := by decide +kernel
theorem dX3_moves_5 : decode cX3_moves 5 = .ok (.bipush 6, 2) := by decide +kernel
theorem dX3_moves_7 : decode cX3_moves 7 = .ok (.imul, 1) := by decide +kernel
theorem dX3_moves_8 : decode cX3_moves 8 = .ok (.iload_n 2, 1) := by decide +kernel
theorem dX3_moves_9 : decode cX3_moves 9 = .ok (.iadd, 1) := by decide +kernel
theorem dX3_moves_10 : decode cX3_moves 10 = .ok (.invokestatic 34, 3) := by decide +kernel
theorem dX3_moves_13 : decode cX3_moves 13 = .ok (.ireturn, 1) := by decide +kernel
def wo_X3_moves : List Cond := [.fieldLink RX3 15 "DynamicLogicProver$Model" "moves" "[I", .initialized RX11, .static yX11_at]
def wd_X3_moves : List Cond := .code yX3_moves cX3_moves 3 (some .int) :: (wo_X3_moves ++ (wd_X11_at ++ (wsX30 ++ ([] : List Cond))))
theorem mo_X3_moves {w : Cond} (i : Nat) (h : wo_X3_moves[i]? = some w) : w ∈ wd_X3_moves := List.mem_cons_of_mem _ (List.mem_append_left _ (List.mem_of_getElem? h))
theorem mb_X3_moves_0 : ∀ w ∈ wd_X11_at, w ∈ wd_X3_moves := fun w h => List.mem_cons_of_mem _ (List.mem_append_right _ (List.mem_append_left _ h))
theorem mb_X3_moves_1 : ∀ w ∈ wsX30, w ∈ wd_X3_moves := fun w h => List.mem_cons_of_mem _ (List.mem_append_right _ (List.mem_append_right _ (List.mem_append_left _ h)))
theorem hd_X3_moves : yX3_moves.cls ≠ "java/lang/invoke/MethodHandle" ∧ yX3_moves.cls ≠ "java/lang/invoke/VarHandle" ∧ (parseMethodDescriptor yX3_moves.desc).map (fun d => d.parameters.length) = some 2 := by decide +kernel
set_option maxRecDepth 20000 in
theorem gw_X3_moves : wd_X3_moves.all goodWord = true := by decide +kernel
abbrev qc_X3_moves (D : va_G) (h : Nat) (t : Nat) (v : Nat) (kv : ClassId) (g : Nat → Int32) (n : Int32) (i : Int32) (w : Int32) (A : Nat → Prop) : Array Value → State → Outcome → State → Prop := va_Qi (fun (r : Int32) (uZ : Unit) => r = at_v g 18 (i * 6 + w)) (fun uZ tZ => kc_pos D A [(h, .inr (3, [.ref t, .ref v, .int n])), (v, .inl (kv, 18, .inl g))] [] tZ) A
set_option maxHeartbeats 4000000 in
set_option maxRecDepth 100000 in
theorem ct_X3_moves (l : Launch) (D : va_G) (h : Nat) (t : Nat) (v : Nat) (kv : ClassId) (g : Nat → Int32) (n : Int32) (i : Int32) (w : Int32) (sz : Nat)  : Met l yX3_moves wd_X3_moves ({ frames := 1, cells := 0, slots := 0, locals := 21 }) (va_Pc [.ref h, .int i, .int w] (kc_pre D [(kv, .int)] [(h, .inr (3, [.ref t, .ref v, .int n])), (v, .inl (kv, 18, .inl g))] sz)) (qc_X3_moves D h t v kv g n i w (va_A [(h, .inr (3, [.ref t, .ref v, .int n])), (v, .inl (kv, 18, .inl g))] sz)) 0 0 (va_A [(h, .inr (3, [.ref t, .ref v, .int n])), (v, .inl (kv, 18, .inl g))] sz) := by
  refine Met.ofW (cc := cX3_moves) (maxL := 3) (ret := (some .int)) (by decide) rfl ?_
  intro p e s m args below meth c s₁ B hml hv
  obtain ⟨rfl, hsz, hP, hK, hN, hD0⟩ := hv
  have hx := B.exec
  have hb := B.bytes
  have hr := B.returns
  have hts := atoms_spec (ws := wd_X3_moves) B.pre
  have hown : s.vm.findClass RX3 = some m.cls := findClass_of_methodNamed B.named
  have hlocks := B.notSynchronized
  subst hsz
  have hD := hD0.self (sz := s.heap.size)
  generalize hAe : va_A [(h, .inr (3, [.ref t, .ref v, .int n])), (v, .inl (kv, 18, .inl g))] s.heap.size = A at hD ⊢
  have hA : ∀ q : Nat, s.heap.size ≤ q → A q := fun q h => by rw [← hAe]; exact Or.inr h
  have hS : va_S A s.heap s.heap [] := va_S.rf
  have hiX3 : ∀ w ∈ wsX30, w ∈ wd_X3_moves := mb_X3_moves_1
  have hl := lv_entry ([.ref h, .int i, .int w]) (n := 3) (Nat.le_of_ble_eq_true rfl)
  rw [lg_entry_eq]
  generalize (lg_sl ([.ref h, .int i, .int w]) ++ List.replicate (3 - (lg_sl ([.ref h, .int i, .int w])).length) Slot.unset).toArray = ls at hl ⊢
  have hl : lv_has ls 3 [(0, .ref h), (1, .int i), (2, .int w)] := hl
  refine lv_aload_n hx hb dX3_moves_0 rfl (lv_at hl 0 rfl) ?_
  refine va_get (D := D) (ci := 3) (v := .ref v) (C := RX3) (T := TX3) (N := 3) hx hb hts hiX3 hown hK hP 0 rfl rfl 1 (by decide) (hts (.fieldLink RX3 15 "DynamicLogicProver$Model" "moves" "[I") (mo_X3_moves 0 rfl)) (fun _ h9 => h9) rfl dX3_moves_1 ?_
  refine lv_iload_n hx hb dX3_moves_4 rfl (lv_at hl 1 rfl) ?_
  refine lv_bipush (v := 6) hx hb dX3_moves_5 (by decide) ?_
  refine lv_imul hx hb dX3_moves_7 ?_
  refine lv_topi (fun x_1 ex_1 => ?_)
  refine lv_iload_n hx hb dX3_moves_8 rfl (lv_at hl 2 rfl) ?_
  refine lv_iadd hx hb dX3_moves_9 ?_
  refine lv_topi (fun x_2 ex_2 => ?_)
  refine kc_Ni (As := [.ref v, .int x_2]) (rest := []) (wr := [(h, .inr (3, [.ref t, .ref v, .int n]))]) ⟨hx, hb, hml, hown, hts⟩ (ct_X11_at l D v kv 18 g x_2 _ (by decide)) ⟨va_cnB 2 hts (goodIn_sub mb_X3_moves_0 gw_X11_at) rfl rfl rfl (hN.1 (RX3, 34, yX11_at) (List.mem_of_getElem? (i := 13) rfl)) (hts (.initialized RX11) (mo_X3_moves 1 rfl)) hd_X11_at ⟨Nat.le_of_ble_eq_true rfl, Nat.le_of_ble_eq_true rfl⟩, (hts (.static yX11_at) (mo_X3_moves 2 rfl)), trivial⟩ hK hN hP hD hS hA [1] [0] [0] rfl rfl (by decide) (by decide) (by decide) rfl rfl hl.1 rfl (Nat.le_of_ble_eq_true rfl) dX3_moves_10 ⟨Nat.le_of_ble_eq_true rfl, Nat.le_of_ble_eq_true rfl⟩ (fun r_3 u_4 H locs w_5 hP hD hK1 hS => ?_)
  have hP : va_P D vwCl [(h, .inr (3, [.ref t, .ref v, .int n])), (v, .inl (kv, 18, .inl g))] H := hP
  have hD : va_D A [(h, .inr (3, [.ref t, .ref v, .int n])), (v, .inl (kv, 18, .inl g))] := hD
  have w_5 : r_3 = at_v g 18 x_2 := w_5
  have hP9 := hP.sub (ws' := [(h, .inr (3, [.ref t, .ref v, .int n])), (v, .inl (kv, 18, .inl g))]) [0, 1] rfl
  have hD9 := hD.sub (ws' := [(h, .inr (3, [.ref t, .ref v, .int n])), (v, .inl (kv, 18, .inl g))]) [0, 1] (by decide) rfl
  have hK9 := hK.sub (tys' := []) [] rfl
  exact W.iret (v := r_3) hx hb hr (fun tZ htZ hW => ⟨⟨r_3, (), rfl, (by rw [w_5, ex_2, ex_1]), by rw [htZ]; exact hP9, va_K.moved hW.alike hK9, hD9⟩, hS.F htZ⟩) hS.2.2 dX3_moves_13
theorem dX3_lettersAt_0 : decode cX3_lettersAt 0 = .ok (.iconst 0, 1) := by decide +kernel
theorem dX3_lettersAt_1 : decode cX3_lettersAt 1 = .ok (.istore_n 2, 1) := by decide +kernel
theorem dX3_lettersAt_2 : decode cX3_lettersAt 2 = .ok (.iconst 0, 1) := by decide +kernel
theorem dX3_lettersAt_3 : decode cX3_lettersAt 3 = .ok (.istore_n 3, 1) := by decide +kernel
theorem dX3_lettersAt_4 : decode cX3_lettersAt 4 = .ok (.iload_n 3, 1) := by decide +kernel
theorem dX3_lettersAt_5 : decode cX3_lettersAt 5 = .ok (.iconst 4, 1) := by decide +kernel
theorem dX3_lettersAt_6 : decode cX3_lettersAt 6 = .ok (.if_icmp .ge 26, 3) := by decide +kernel
theorem dX3_lettersAt_9 : decode cX3_lettersAt 9 = .ok (.iload_n 2, 1) := by decide +kernel
theorem dX3_lettersAt_10 : decode cX3_lettersAt 10 = .ok (.aload_n 0, 1) := by decide +kernel
theorem dX3_lettersAt_11 : decode cX3_lettersAt 11 = .ok (.getfield 9, 3) := by decide +kernel
theorem dX3_lettersAt_14 : decode cX3_lettersAt 14 = .ok (.iload_n 3, 1) := by decide +kernel
theorem dX3_lettersAt_15 : decode cX3_lettersAt 15 = .ok (.invokestatic 34, 3) := by decide +kernel
theorem dX3_lettersAt_18 : decode cX3_lettersAt 18 = .ok (.iload_n 1, 1) := by decide +kernel
theorem dX3_lettersAt_19 : decode cX3_lettersAt 19 = .ok (.ishr, 1) := by decide +kernel
theorem dX3_lettersAt_20 : decode cX3_lettersAt 20 = .ok (.iconst 1, 1) := by decide +kernel
theorem dX3_lettersAt_21 : decode cX3_lettersAt 21 = .ok (.iand, 1) := by decide +kernel
theorem dX3_lettersAt_22 : decode cX3_lettersAt 22 = .ok (.iload_n 3, 1) := by decide +kernel
theorem dX3_lettersAt_23 : decode cX3_lettersAt 23 = .ok (.ishl, 1) := by decide +kernel
theorem dX3_lettersAt_24 : decode cX3_lettersAt 24 = .ok (.ior, 1) := by decide +kernel
theorem dX3_lettersAt_25 : decode cX3_lettersAt 25 = .ok (.istore_n 2, 1) := by decide +kernel
theorem dX3_lettersAt_26 : decode cX3_lettersAt 26 = .ok (.iinc 3 1, 3) := by decide +kernel
theorem dX3_lettersAt_29 : decode cX3_lettersAt 29 = .ok (.goto (-25), 3) := by decide +kernel
theorem dX3_lettersAt_32 : decode cX3_lettersAt 32 = .ok (.iload_n 2, 1) := by decide +kernel
theorem dX3_lettersAt_33 : decode cX3_lettersAt 33 = .ok (.ireturn, 1) := by decide +kernel
def wo_X3_lettersAt0 : List Cond := [.fieldLink RX3 9 "DynamicLogicProver$Model" "truths" "[I", .initialized RX11, .static yX11_at]
def wd_X3_lettersAt0 : List Cond := .code yX3_lettersAt cX3_lettersAt 4 (some .int) :: (wo_X3_lettersAt0 ++ (wd_X11_at ++ (wsX30 ++ ([] : List Cond))))
theorem mo_X3_lettersAt0 {w : Cond} (i : Nat) (h : wo_X3_lettersAt0[i]? = some w) : w ∈ wd_X3_lettersAt0 := List.mem_cons_of_mem _ (List.mem_append_left _ (List.mem_of_getElem? h))
theorem mb_X3_lettersAt0_0 : ∀ w ∈ wd_X11_at, w ∈ wd_X3_lettersAt0 := fun w h => List.mem_cons_of_mem _ (List.mem_append_right _ (List.mem_append_left _ h))
theorem mb_X3_lettersAt0_1 : ∀ w ∈ wsX30, w ∈ wd_X3_lettersAt0 := fun w h => List.mem_cons_of_mem _ (List.mem_append_right _ (List.mem_append_right _ (List.mem_append_left _ h)))
theorem hd_X3_lettersAt : yX3_lettersAt.cls ≠ "java/lang/invoke/MethodHandle" ∧ yX3_lettersAt.cls ≠ "java/lang/invoke/VarHandle" ∧ (parseMethodDescriptor yX3_lettersAt.desc).map (fun d => d.parameters.length) = some 1 := by decide +kernel
set_option maxRecDepth 20000 in
theorem gw_X3_lettersAt0 : wd_X3_lettersAt0.all goodWord = true := by decide +kernel
abbrev qc_X3_lettersAt0 (D : va_G) (h : Nat) (t : Nat) (v : Nat) (kt : ClassId) (n : Int32) (w : Int32) (A : Nat → Prop) : Array Value → State → Outcome → State → Prop := va_Qi (fun (r : Int32) (uZ : Unit) => r = 0) (fun uZ tZ => kc_pos D A [(h, .inr (3, [.ref t, .ref v, .int n])), (t, .inl (kt, 4, .inl (fun _ => 0)))] [] tZ) A
set_option maxHeartbeats 4000000 in
set_option maxRecDepth 100000 in
theorem ct_X3_lettersAt0 (l : Launch) (D : va_G) (h : Nat) (t : Nat) (v : Nat) (kt : ClassId) (n : Int32) (w : Int32) (sz : Nat)  : Met l yX3_lettersAt wd_X3_lettersAt0 ({ frames := 1, cells := 0, slots := 0, locals := 21 }) (va_Pc [.ref h, .int w] (kc_pre D [(kt, .int)] [(h, .inr (3, [.ref t, .ref v, .int n])), (t, .inl (kt, 4, .inl (fun _ => 0)))] sz)) (qc_X3_lettersAt0 D h t v kt n w (va_A [(h, .inr (3, [.ref t, .ref v, .int n])), (t, .inl (kt, 4, .inl (fun _ => 0)))] sz)) 0 0 (va_A [(h, .inr (3, [.ref t, .ref v, .int n])), (t, .inl (kt, 4, .inl (fun _ => 0)))] sz) := by
  refine Met.ofW (cc := cX3_lettersAt) (maxL := 4) (ret := (some .int)) (by decide) rfl ?_
  intro p e s m args below meth c s₁ B hml hv
  obtain ⟨rfl, hsz, hP, hK, hN, hD0⟩ := hv
  have hx := B.exec
  have hb := B.bytes
  have hr := B.returns
  have hts := atoms_spec (ws := wd_X3_lettersAt0) B.pre
  have hown : s.vm.findClass RX3 = some m.cls := findClass_of_methodNamed B.named
  have hlocks := B.notSynchronized
  subst hsz
  have hD := hD0.self (sz := s.heap.size)
  generalize hAe : va_A [(h, .inr (3, [.ref t, .ref v, .int n])), (t, .inl (kt, 4, .inl (fun _ => 0)))] s.heap.size = A at hD ⊢
  have hA : ∀ q : Nat, s.heap.size ≤ q → A q := fun q h => by rw [← hAe]; exact Or.inr h
  have hS : va_S A s.heap s.heap [] := va_S.rf
  have hiX3 : ∀ w ∈ wsX30, w ∈ wd_X3_lettersAt0 := mb_X3_lettersAt0_1
  have hl := lv_entry ([.ref h, .int w]) (n := 4) (Nat.le_of_ble_eq_true rfl)
  rw [lg_entry_eq]
  generalize (lg_sl ([.ref h, .int w]) ++ List.replicate (4 - (lg_sl ([.ref h, .int w])).length) Slot.unset).toArray = ls at hl ⊢
  have hl : lv_has ls 4 [(0, .ref h), (1, .int w)] := hl
  refine lv_iconst (v := 0) hx hb dX3_lettersAt_0 (by decide) ?_
  refine lv_istore_n (lv' := [(2, .int 0), (0, .ref h), (1, .int w)]) hx hb dX3_lettersAt_1 rfl hl (by decide) rfl (fun ls hl => ?_)
  refine lv_iconst (v := 0) hx hb dX3_lettersAt_2 (by decide) ?_
  refine lv_istore_n (lv' := [(3, .int 0), (2, .int 0), (0, .ref h), (1, .int w)]) hx hb dX3_lettersAt_3 rfl hl (by decide) rfl (fun ls hl => ?_)
  refine lv_iload_n hx hb dX3_lettersAt_4 rfl (lv_at hl 0 rfl) ?_
  refine lv_iconst (v := 4) hx hb dX3_lettersAt_5 (by decide) ?_
  refine lv_icmp_ge (tgt := 32) hx hb dX3_lettersAt_6 (by decide) (fun c_1 => ?_) (fun c_1 => ?_)
  · exact absurd c_1 (by decide)
  · refine lv_iload_n hx hb dX3_lettersAt_9 rfl (lv_at hl 1 rfl) ?_
    refine lv_aload_n hx hb dX3_lettersAt_10 rfl (lv_at hl 2 rfl) ?_
    refine va_get (D := D) (ci := 3) (v := .ref t) (C := RX3) (T := TX3) (N := 3) hx hb hts hiX3 hown hK hP 0 rfl rfl 0 (by decide) (hts (.fieldLink RX3 9 "DynamicLogicProver$Model" "truths" "[I") (mo_X3_lettersAt0 0 rfl)) (fun _ h9 => h9) rfl dX3_lettersAt_11 ?_
    refine lv_iload_n hx hb dX3_lettersAt_14 rfl (lv_at hl 0 rfl) ?_
    refine kc_Ni (As := [.ref t, .int 0]) (rest := [.int 0]) (wr := [(h, .inr (3, [.ref t, .ref v, .int n]))]) ⟨hx, hb, hml, hown, hts⟩ (ct_X11_at l D t kt 4 (fun _ => 0) 0 _ (by decide)) ⟨va_cnB 2 hts (goodIn_sub mb_X3_lettersAt0_0 gw_X11_at) rfl rfl rfl (hN.1 (RX3, 34, yX11_at) (List.mem_of_getElem? (i := 13) rfl)) (hts (.initialized RX11) (mo_X3_lettersAt0 1 rfl)) hd_X11_at ⟨Nat.le_of_ble_eq_true rfl, Nat.le_of_ble_eq_true rfl⟩, (hts (.static yX11_at) (mo_X3_lettersAt0 2 rfl)), trivial⟩ hK hN hP hD hS hA [1] [0] [0] rfl rfl (by decide) (by decide) (by decide) rfl rfl hl.1 rfl (Nat.le_of_ble_eq_true rfl) dX3_lettersAt_15 ⟨Nat.le_of_ble_eq_true rfl, Nat.le_of_ble_eq_true rfl⟩ (fun r_2 u_3 H locs w_4 hP hD hK1 hS => ?_)
    have hP : va_P D vwCl [(h, .inr (3, [.ref t, .ref v, .int n])), (t, .inl (kt, 4, .inl (fun _ => 0)))] H := hP
    have hD : va_D A [(h, .inr (3, [.ref t, .ref v, .int n])), (t, .inl (kt, 4, .inl (fun _ => 0)))] := hD
    have w_4 : r_2 = at_v (fun _ => 0) 4 0 := w_4
    obtain rfl : r_2 = 0 := w_4.trans (at_v0 _ _)
    refine lv_iload_n hx hb dX3_lettersAt_18 rfl (lv_at hl 3 rfl) ?_
    refine lv_ishr hx hb dX3_lettersAt_19 ?_
    refine lv_topi (fun x_5 ex_5 => ?_)
    obtain rfl : x_5 = 0 := ex_5.trans (z_shr _)
    refine lv_iconst (v := 1) hx hb dX3_lettersAt_20 (by decide) ?_
    refine lv_iand hx hb dX3_lettersAt_21 ?_
    refine lv_topi (fun x_6 ex_6 => ?_)
    obtain rfl : x_6 = 0 := ex_6.trans (by decide)
    refine lv_iload_n hx hb dX3_lettersAt_22 rfl (lv_at hl 0 rfl) ?_
    refine lv_ishl hx hb dX3_lettersAt_23 ?_
    refine lv_topi (fun x_7 ex_7 => ?_)
    obtain rfl : x_7 = 0 := ex_7.trans (by decide)
    refine lv_ior hx hb dX3_lettersAt_24 ?_
    refine lv_topi (fun x_8 ex_8 => ?_)
    obtain rfl : x_8 = 0 := ex_8.trans (by decide)
    refine lv_istore_n (lv' := [(2, .int 0), (3, .int 0), (0, .ref h), (1, .int w)]) hx hb dX3_lettersAt_25 rfl hl (by decide) rfl (fun ls hl => ?_)
    refine lv_iinc (v := 1) (lv' := [(3, .int 1), (2, .int 0), (0, .ref h), (1, .int w)]) hx hb dX3_lettersAt_26 hl (k := 1) rfl (by decide) (by decide) rfl (fun ls hl => ?_)
    refine lv_goto (tgt := 4) hx hb dX3_lettersAt_29 (by decide) ?_
    refine lv_iload_n hx hb dX3_lettersAt_4 rfl (lv_at hl 0 rfl) ?_
    refine lv_iconst (v := 4) hx hb dX3_lettersAt_5 (by decide) ?_
    refine lv_icmp_ge (tgt := 32) hx hb dX3_lettersAt_6 (by decide) (fun c_9 => ?_) (fun c_9 => ?_)
    · exact absurd c_9 (by decide)
    · refine lv_iload_n hx hb dX3_lettersAt_9 rfl (lv_at hl 1 rfl) ?_
      refine lv_aload_n hx hb dX3_lettersAt_10 rfl (lv_at hl 2 rfl) ?_
      refine va_get (D := D) (ci := 3) (v := .ref t) (C := RX3) (T := TX3) (N := 3) hx hb hts hiX3 hown hK hP 0 rfl rfl 0 (by decide) (hts (.fieldLink RX3 9 "DynamicLogicProver$Model" "truths" "[I") (mo_X3_lettersAt0 0 rfl)) (fun _ h9 => h9) rfl dX3_lettersAt_11 ?_
      refine lv_iload_n hx hb dX3_lettersAt_14 rfl (lv_at hl 0 rfl) ?_
      refine kc_Ni (As := [.ref t, .int 1]) (rest := [.int 0]) (wr := [(h, .inr (3, [.ref t, .ref v, .int n]))]) ⟨hx, hb, hml, hown, hts⟩ (ct_X11_at l D t kt 4 (fun _ => 0) 1 _ (by decide)) ⟨va_cnB 2 hts (goodIn_sub mb_X3_lettersAt0_0 gw_X11_at) rfl rfl rfl (hN.1 (RX3, 34, yX11_at) (List.mem_of_getElem? (i := 13) rfl)) (hts (.initialized RX11) (mo_X3_lettersAt0 1 rfl)) hd_X11_at ⟨Nat.le_of_ble_eq_true rfl, Nat.le_of_ble_eq_true rfl⟩, (hts (.static yX11_at) (mo_X3_lettersAt0 2 rfl)), trivial⟩ hK hN hP hD hS hA [1] [0] [0] rfl rfl (by decide) (by decide) (by decide) rfl rfl hl.1 rfl (Nat.le_of_ble_eq_true rfl) dX3_lettersAt_15 ⟨Nat.le_of_ble_eq_true rfl, Nat.le_of_ble_eq_true rfl⟩ (fun r_10 u_11 H locs w_12 hP hD hK1 hS => ?_)
      have hP : va_P D vwCl [(h, .inr (3, [.ref t, .ref v, .int n])), (t, .inl (kt, 4, .inl (fun _ => 0)))] H := hP
      have hD : va_D A [(h, .inr (3, [.ref t, .ref v, .int n])), (t, .inl (kt, 4, .inl (fun _ => 0)))] := hD
      have w_12 : r_10 = at_v (fun _ => 0) 4 1 := w_12
      obtain rfl : r_10 = 0 := w_12.trans (at_v0 _ _)
      refine lv_iload_n hx hb dX3_lettersAt_18 rfl (lv_at hl 3 rfl) ?_
      refine lv_ishr hx hb dX3_lettersAt_19 ?_
      refine lv_topi (fun x_13 ex_13 => ?_)
      obtain rfl : x_13 = 0 := ex_13.trans (z_shr _)
      refine lv_iconst (v := 1) hx hb dX3_lettersAt_20 (by decide) ?_
      refine lv_iand hx hb dX3_lettersAt_21 ?_
      refine lv_topi (fun x_14 ex_14 => ?_)
      obtain rfl : x_14 = 0 := ex_14.trans (by decide)
      refine lv_iload_n hx hb dX3_lettersAt_22 rfl (lv_at hl 0 rfl) ?_
      refine lv_ishl hx hb dX3_lettersAt_23 ?_
      refine lv_topi (fun x_15 ex_15 => ?_)
      obtain rfl : x_15 = 0 := ex_15.trans (by decide)
      refine lv_ior hx hb dX3_lettersAt_24 ?_
      refine lv_topi (fun x_16 ex_16 => ?_)
      obtain rfl : x_16 = 0 := ex_16.trans (by decide)
      refine lv_istore_n (lv' := [(2, .int 0), (3, .int 1), (0, .ref h), (1, .int w)]) hx hb dX3_lettersAt_25 rfl hl (by decide) rfl (fun ls hl => ?_)
      refine lv_iinc (v := 2) (lv' := [(3, .int 2), (2, .int 0), (0, .ref h), (1, .int w)]) hx hb dX3_lettersAt_26 hl (k := 1) rfl (by decide) (by decide) rfl (fun ls hl => ?_)
      refine lv_goto (tgt := 4) hx hb dX3_lettersAt_29 (by decide) ?_
      refine lv_iload_n hx hb dX3_lettersAt_4 rfl (lv_at hl 0 rfl) ?_
      refine lv_iconst (v := 4) hx hb dX3_lettersAt_5 (by decide) ?_
      refine lv_icmp_ge (tgt := 32) hx hb dX3_lettersAt_6 (by decide) (fun c_17 => ?_) (fun c_17 => ?_)
      · exact absurd c_17 (by decide)
      · refine lv_iload_n hx hb dX3_lettersAt_9 rfl (lv_at hl 1 rfl) ?_
        refine lv_aload_n hx hb dX3_lettersAt_10 rfl (lv_at hl 2 rfl) ?_
        refine va_get (D := D) (ci := 3) (v := .ref t) (C := RX3) (T := TX3) (N := 3) hx hb hts hiX3 hown hK hP 0 rfl rfl 0 (by decide) (hts (.fieldLink RX3 9 "DynamicLogicProver$Model" "truths" "[I") (mo_X3_lettersAt0 0 rfl)) (fun _ h9 => h9) rfl dX3_lettersAt_11 ?_
        refine lv_iload_n hx hb dX3_lettersAt_14 rfl (lv_at hl 0 rfl) ?_
        refine kc_Ni (As := [.ref t, .int 2]) (rest := [.int 0]) (wr := [(h, .inr (3, [.ref t, .ref v, .int n]))]) ⟨hx, hb, hml, hown, hts⟩ (ct_X11_at l D t kt 4 (fun _ => 0) 2 _ (by decide)) ⟨va_cnB 2 hts (goodIn_sub mb_X3_lettersAt0_0 gw_X11_at) rfl rfl rfl (hN.1 (RX3, 34, yX11_at) (List.mem_of_getElem? (i := 13) rfl)) (hts (.initialized RX11) (mo_X3_lettersAt0 1 rfl)) hd_X11_at ⟨Nat.le_of_ble_eq_true rfl, Nat.le_of_ble_eq_true rfl⟩, (hts (.static yX11_at) (mo_X3_lettersAt0 2 rfl)), trivial⟩ hK hN hP hD hS hA [1] [0] [0] rfl rfl (by decide) (by decide) (by decide) rfl rfl hl.1 rfl (Nat.le_of_ble_eq_true rfl) dX3_lettersAt_15 ⟨Nat.le_of_ble_eq_true rfl, Nat.le_of_ble_eq_true rfl⟩ (fun r_18 u_19 H locs w_20 hP hD hK1 hS => ?_)
        have hP : va_P D vwCl [(h, .inr (3, [.ref t, .ref v, .int n])), (t, .inl (kt, 4, .inl (fun _ => 0)))] H := hP
        have hD : va_D A [(h, .inr (3, [.ref t, .ref v, .int n])), (t, .inl (kt, 4, .inl (fun _ => 0)))] := hD
        have w_20 : r_18 = at_v (fun _ => 0) 4 2 := w_20
        obtain rfl : r_18 = 0 := w_20.trans (at_v0 _ _)
        refine lv_iload_n hx hb dX3_lettersAt_18 rfl (lv_at hl 3 rfl) ?_
        refine lv_ishr hx hb dX3_lettersAt_19 ?_
        refine lv_topi (fun x_21 ex_21 => ?_)
        obtain rfl : x_21 = 0 := ex_21.trans (z_shr _)
        refine lv_iconst (v := 1) hx hb dX3_lettersAt_20 (by decide) ?_
        refine lv_iand hx hb dX3_lettersAt_21 ?_
        refine lv_topi (fun x_22 ex_22 => ?_)
        obtain rfl : x_22 = 0 := ex_22.trans (by decide)
        refine lv_iload_n hx hb dX3_lettersAt_22 rfl (lv_at hl 0 rfl) ?_
        refine lv_ishl hx hb dX3_lettersAt_23 ?_
        refine lv_topi (fun x_23 ex_23 => ?_)
        obtain rfl : x_23 = 0 := ex_23.trans (by decide)
        refine lv_ior hx hb dX3_lettersAt_24 ?_
        refine lv_topi (fun x_24 ex_24 => ?_)
        obtain rfl : x_24 = 0 := ex_24.trans (by decide)
        refine lv_istore_n (lv' := [(2, .int 0), (3, .int 2), (0, .ref h), (1, .int w)]) hx hb dX3_lettersAt_25 rfl hl (by decide) rfl (fun ls hl => ?_)
        refine lv_iinc (v := 3) (lv' := [(3, .int 3), (2, .int 0), (0, .ref h), (1, .int w)]) hx hb dX3_lettersAt_26 hl (k := 1) rfl (by decide) (by decide) rfl (fun ls hl => ?_)
        refine lv_goto (tgt := 4) hx hb dX3_lettersAt_29 (by decide) ?_
        refine lv_iload_n hx hb dX3_lettersAt_4 rfl (lv_at hl 0 rfl) ?_
        refine lv_iconst (v := 4) hx hb dX3_lettersAt_5 (by decide) ?_
        refine lv_icmp_ge (tgt := 32) hx hb dX3_lettersAt_6 (by decide) (fun c_25 => ?_) (fun c_25 => ?_)
        · exact absurd c_25 (by decide)
        · refine lv_iload_n hx hb dX3_lettersAt_9 rfl (lv_at hl 1 rfl) ?_
          refine lv_aload_n hx hb dX3_lettersAt_10 rfl (lv_at hl 2 rfl) ?_
          refine va_get (D := D) (ci := 3) (v := .ref t) (C := RX3) (T := TX3) (N := 3) hx hb hts hiX3 hown hK hP 0 rfl rfl 0 (by decide) (hts (.fieldLink RX3 9 "DynamicLogicProver$Model" "truths" "[I") (mo_X3_lettersAt0 0 rfl)) (fun _ h9 => h9) rfl dX3_lettersAt_11 ?_
          refine lv_iload_n hx hb dX3_lettersAt_14 rfl (lv_at hl 0 rfl) ?_
          refine kc_Ni (As := [.ref t, .int 3]) (rest := [.int 0]) (wr := [(h, .inr (3, [.ref t, .ref v, .int n]))]) ⟨hx, hb, hml, hown, hts⟩ (ct_X11_at l D t kt 4 (fun _ => 0) 3 _ (by decide)) ⟨va_cnB 2 hts (goodIn_sub mb_X3_lettersAt0_0 gw_X11_at) rfl rfl rfl (hN.1 (RX3, 34, yX11_at) (List.mem_of_getElem? (i := 13) rfl)) (hts (.initialized RX11) (mo_X3_lettersAt0 1 rfl)) hd_X11_at ⟨Nat.le_of_ble_eq_true rfl, Nat.le_of_ble_eq_true rfl⟩, (hts (.static yX11_at) (mo_X3_lettersAt0 2 rfl)), trivial⟩ hK hN hP hD hS hA [1] [0] [0] rfl rfl (by decide) (by decide) (by decide) rfl rfl hl.1 rfl (Nat.le_of_ble_eq_true rfl) dX3_lettersAt_15 ⟨Nat.le_of_ble_eq_true rfl, Nat.le_of_ble_eq_true rfl⟩ (fun r_26 u_27 H locs w_28 hP hD hK1 hS => ?_)
          have hP : va_P D vwCl [(h, .inr (3, [.ref t, .ref v, .int n])), (t, .inl (kt, 4, .inl (fun _ => 0)))] H := hP
          have hD : va_D A [(h, .inr (3, [.ref t, .ref v, .int n])), (t, .inl (kt, 4, .inl (fun _ => 0)))] := hD
          have w_28 : r_26 = at_v (fun _ => 0) 4 3 := w_28
          obtain rfl : r_26 = 0 := w_28.trans (at_v0 _ _)
          refine lv_iload_n hx hb dX3_lettersAt_18 rfl (lv_at hl 3 rfl) ?_
          refine lv_ishr hx hb dX3_lettersAt_19 ?_
          refine lv_topi (fun x_29 ex_29 => ?_)
          obtain rfl : x_29 = 0 := ex_29.trans (z_shr _)
          refine lv_iconst (v := 1) hx hb dX3_lettersAt_20 (by decide) ?_
          refine lv_iand hx hb dX3_lettersAt_21 ?_
          refine lv_topi (fun x_30 ex_30 => ?_)
          obtain rfl : x_30 = 0 := ex_30.trans (by decide)
          refine lv_iload_n hx hb dX3_lettersAt_22 rfl (lv_at hl 0 rfl) ?_
          refine lv_ishl hx hb dX3_lettersAt_23 ?_
          refine lv_topi (fun x_31 ex_31 => ?_)
          obtain rfl : x_31 = 0 := ex_31.trans (by decide)
          refine lv_ior hx hb dX3_lettersAt_24 ?_
          refine lv_topi (fun x_32 ex_32 => ?_)
          obtain rfl : x_32 = 0 := ex_32.trans (by decide)
          refine lv_istore_n (lv' := [(2, .int 0), (3, .int 3), (0, .ref h), (1, .int w)]) hx hb dX3_lettersAt_25 rfl hl (by decide) rfl (fun ls hl => ?_)
          refine lv_iinc (v := 4) (lv' := [(3, .int 4), (2, .int 0), (0, .ref h), (1, .int w)]) hx hb dX3_lettersAt_26 hl (k := 1) rfl (by decide) (by decide) rfl (fun ls hl => ?_)
          refine lv_goto (tgt := 4) hx hb dX3_lettersAt_29 (by decide) ?_
          refine lv_iload_n hx hb dX3_lettersAt_4 rfl (lv_at hl 0 rfl) ?_
          refine lv_iconst (v := 4) hx hb dX3_lettersAt_5 (by decide) ?_
          refine lv_icmp_ge (tgt := 32) hx hb dX3_lettersAt_6 (by decide) (fun c_33 => ?_) (fun c_33 => ?_)
          · refine lv_iload_n hx hb dX3_lettersAt_32 rfl (lv_at hl 1 rfl) ?_
            have hP9 := hP.sub (ws' := [(h, .inr (3, [.ref t, .ref v, .int n])), (t, .inl (kt, 4, .inl (fun _ => 0)))]) [0, 1] rfl
            have hD9 := hD.sub (ws' := [(h, .inr (3, [.ref t, .ref v, .int n])), (t, .inl (kt, 4, .inl (fun _ => 0)))]) [0, 1] (by decide) rfl
            have hK9 := hK.sub (tys' := []) [] rfl
            exact W.iret (v := 0) hx hb hr (fun tZ htZ hW => ⟨⟨0, (), rfl, rfl, by rw [htZ]; exact hP9, va_K.moved hW.alike hK9, hD9⟩, hS.F htZ⟩) hS.2.2 dX3_lettersAt_33
          · exact absurd c_33 (by decide)
theorem dX3_take_0 : decode cX3_take 0 = .ok (.aload_n 0, 1) := by decide +kernel
theorem dX3_take_1 : decode cX3_take 1 = .ok (.aload_n 1, 1) := by decide +kernel
theorem dX3_take_2 : decode cX3_take 2 = .ok (.getfield 18, 3) := by decide +kernel
theorem dX3_take_5 : decode cX3_take 5 = .ok (.putfield 18, 3) := by decide +kernel
theorem dX3_take_8 : decode cX3_take 8 = .ok (.aload_n 1, 1) := by decide +kernel
theorem dX3_take_9 : decode cX3_take 9 = .ok (.getfield 9, 3) := by decide +kernel
theorem dX3_take_12 : decode cX3_take 12 = .ok (.iconst 0, 1) := by decide +kernel
theorem dX3_take_13 : decode cX3_take 13 = .ok (.aload_n 0, 1) := by decide +kernel
theorem dX3_take_14 : decode cX3_take 14 = .ok (.getfield 9, 3) := by decide +kernel
theorem dX3_take_17 : decode cX3_take 17 = .ok (.iconst 0, 1) := by decide +kernel
theorem dX3_take_18 : decode cX3_take 18 = .ok (.iconst 4, 1) := by decide +kernel
theorem dX3_take_19 : decode cX3_take 19 = .ok (.invokestatic 28, 3) := by decide +kernel
theorem dX3_take_22 : decode cX3_take 22 = .ok (.aload_n 1, 1) := by decide +kernel
theorem dX3_take_23 : decode cX3_take 23 = .ok (.getfield 15, 3) := by decide +kernel
theorem dX3_take_26 : decode cX3_take 26 = .ok (.iconst 0, 1) := by decide +kernel
theorem dX3_take_27 : decode cX3_take 27 = .ok (.aload_n 0, 1) := by decide +kernel
theorem dX3_take_28 : decode cX3_take 28 = .ok (.getfield 15, 3) := by decide +kernel
theorem dX3_take_31 : decode cX3_take 31 = .ok (.iconst 0, 1) := by decide +kernel
theorem dX3_take_32 : decode cX3_take 32 = .ok (.bipush 18, 2) := by decide +kernel
theorem dX3_take_34 : decode cX3_take 34 = .ok (.invokestatic 28, 3) := by decide +kernel
theorem dX3_take_37 : decode cX3_take 37 = .ok (.return_, 1) := by decide +kernel
def wo_X3_take : List Cond := [.fieldLink RX3 18 "DynamicLogicProver$Model" "worlds" "I", .fieldLink RX3 9 "DynamicLogicProver$Model" "truths" "[I", .methodLink RX3 28 arraycopyName, .native arraycopyName, .static arraycopyName, .initialized "java/lang/System", .fieldLink RX3 15 "DynamicLogicProver$Model" "moves" "[I"]
def wd_X3_take : List Cond := .code yX3_take cX3_take 2 none :: (wo_X3_take ++ (wsX30 ++ ([] : List Cond)))
theorem mo_X3_take {w : Cond} (i : Nat) (h : wo_X3_take[i]? = some w) : w ∈ wd_X3_take := List.mem_cons_of_mem _ (List.mem_append_left _ (List.mem_of_getElem? h))
theorem mb_X3_take_0 : ∀ w ∈ wsX30, w ∈ wd_X3_take := fun w h => List.mem_cons_of_mem _ (List.mem_append_right _ (List.mem_append_left _ h))
theorem hd_X3_take : yX3_take.cls ≠ "java/lang/invoke/MethodHandle" ∧ yX3_take.cls ≠ "java/lang/invoke/VarHandle" ∧ (parseMethodDescriptor yX3_take.desc).map (fun d => d.parameters.length) = some 1 := by decide +kernel
set_option maxRecDepth 20000 in
theorem gw_X3_take : wd_X3_take.all goodWord = true := by decide +kernel
abbrev qc_X3_take (D : va_G) (h : Nat) (t : Nat) (v : Nat) (h2 : Nat) (t2 : Nat) (v2 : Nat) (kt : ClassId) (kv : ClassId) (kt2 : ClassId) (kv2 : ClassId) (f : Nat → Int32) (g : Nat → Int32) (f2 : Nat → Int32) (g2 : Nat → Int32) (n : Int32) (n2 : Int32) (A : Nat → Prop) : Array Value → State → Outcome → State → Prop := va_Qv (fun (uZ : (Nat → Int32) × (Nat → Int32)) => True) (fun uZ tZ => kc_pos D A [(h, .inr (3, [.ref t, .ref v, .int n2])), (t, .inl (kt, 4, .inl uZ.1)), (v, .inl (kv, 18, .inl uZ.2)), (h2, .inr (3, [.ref t2, .ref v2, .int n2])), (t2, .inl (kt2, 4, .inl f2)), (v2, .inl (kv2, 18, .inl g2))] [] tZ) A
set_option maxHeartbeats 4000000 in
set_option maxRecDepth 100000 in
theorem ct_X3_take (l : Launch) (D : va_G) (h : Nat) (t : Nat) (v : Nat) (h2 : Nat) (t2 : Nat) (v2 : Nat) (kt : ClassId) (kv : ClassId) (kt2 : ClassId) (kv2 : ClassId) (f : Nat → Int32) (g : Nat → Int32) (f2 : Nat → Int32) (g2 : Nat → Int32) (n : Int32) (n2 : Int32) (sz : Nat)  : Met l yX3_take wd_X3_take ({ frames := 1, cells := 0, slots := 0, locals := 40 }) (va_Pc [.ref h, .ref h2] (kc_pre D [(kt, .int), (kv, .int), (kt2, .int), (kv2, .int)] [(h, .inr (3, [.ref t, .ref v, .int n])), (t, .inl (kt, 4, .inl f)), (v, .inl (kv, 18, .inl g)), (h2, .inr (3, [.ref t2, .ref v2, .int n2])), (t2, .inl (kt2, 4, .inl f2)), (v2, .inl (kv2, 18, .inl g2))] sz)) (qc_X3_take D h t v h2 t2 v2 kt kv kt2 kv2 f g f2 g2 n n2 (va_A [(h, .inr (3, [.ref t, .ref v, .int n])), (t, .inl (kt, 4, .inl f)), (v, .inl (kv, 18, .inl g)), (h2, .inr (3, [.ref t2, .ref v2, .int n2])), (t2, .inl (kt2, 4, .inl f2)), (v2, .inl (kv2, 18, .inl g2))] sz)) 0 0 (va_A [(h, .inr (3, [.ref t, .ref v, .int n])), (t, .inl (kt, 4, .inl f)), (v, .inl (kv, 18, .inl g)), (h2, .inr (3, [.ref t2, .ref v2, .int n2])), (t2, .inl (kt2, 4, .inl f2)), (v2, .inl (kv2, 18, .inl g2))] sz) := by
  refine Met.ofW (cc := cX3_take) (maxL := 2) (ret := none) (by decide) rfl ?_
  intro p e s m args below meth c s₁ B hml hv
  obtain ⟨rfl, hsz, hP, hK, hN, hD0⟩ := hv
  have hx := B.exec
  have hb := B.bytes
  have hr := B.returns
  have hts := atoms_spec (ws := wd_X3_take) B.pre
  have hown : s.vm.findClass RX3 = some m.cls := findClass_of_methodNamed B.named
  have hlocks := B.notSynchronized
  subst hsz
  have hD := hD0.self (sz := s.heap.size)
  generalize hAe : va_A [(h, .inr (3, [.ref t, .ref v, .int n])), (t, .inl (kt, 4, .inl f)), (v, .inl (kv, 18, .inl g)), (h2, .inr (3, [.ref t2, .ref v2, .int n2])), (t2, .inl (kt2, 4, .inl f2)), (v2, .inl (kv2, 18, .inl g2))] s.heap.size = A at hD ⊢
  have hA : ∀ q : Nat, s.heap.size ≤ q → A q := fun q h => by rw [← hAe]; exact Or.inr h
  have hS : va_S A s.heap s.heap [] := va_S.rf
  have hiX3 : ∀ w ∈ wsX30, w ∈ wd_X3_take := mb_X3_take_0
  have hl := lv_entry ([.ref h, .ref h2]) (n := 2) (Nat.le_of_ble_eq_true rfl)
  rw [lg_entry_eq]
  generalize (lg_sl ([.ref h, .ref h2]) ++ List.replicate (2 - (lg_sl ([.ref h, .ref h2])).length) Slot.unset).toArray = ls at hl ⊢
  have hl : lv_has ls 2 [(0, .ref h), (1, .ref h2)] := hl
  refine lv_aload_n hx hb dX3_take_0 rfl (lv_at hl 0 rfl) ?_
  refine lv_aload_n hx hb dX3_take_1 rfl (lv_at hl 1 rfl) ?_
  refine va_get (D := D) (ci := 3) (v := .int n2) (C := RX3) (T := TX3) (N := 3) hx hb hts hiX3 hown hK hP 3 rfl rfl 2 (by decide) (hts (.fieldLink RX3 18 "DynamicLogicProver$Model" "worlds" "I") (mo_X3_take 0 rfl)) (fun _ h9 => h9) rfl dX3_take_2 ?_
  refine va_put (D := D) (ci := 3) (v := .int n2) (ty := .int) (C := RX3) (T := TX3) (N := 3) hx hb hts hiX3 tyX3 tyX3_ok nmX3 hown hK hP hD hS 0 rfl rfl 2 (by decide) (hts (.fieldLink RX3 18 "DynamicLogicProver$Model" "worlds" "I") (mo_X3_take 0 rfl)) (fun _ h9 => h9) rfl (tyX3_ok 2 (by decide)) rfl rfl (Nat.le_of_ble_eq_true rfl) dX3_take_5 (fun H locs hP hD hS => ?_)
  have hP : va_P D vwCl [(h, .inr (3, [.ref t, .ref v, .int n2])), (t, .inl (kt, 4, .inl f)), (v, .inl (kv, 18, .inl g)), (h2, .inr (3, [.ref t2, .ref v2, .int n2])), (t2, .inl (kt2, 4, .inl f2)), (v2, .inl (kv2, 18, .inl g2))] H := hP
  have hD : va_D A [(h, .inr (3, [.ref t, .ref v, .int n2])), (t, .inl (kt, 4, .inl f)), (v, .inl (kv, 18, .inl g)), (h2, .inr (3, [.ref t2, .ref v2, .int n2])), (t2, .inl (kt2, 4, .inl f2)), (v2, .inl (kv2, 18, .inl g2))] := hD
  refine lv_aload_n hx hb dX3_take_8 rfl (lv_at hl 1 rfl) ?_
  refine va_get (D := D) (ci := 3) (v := .ref t2) (C := RX3) (T := TX3) (N := 3) hx hb hts hiX3 hown hK hP 3 rfl rfl 0 (by decide) (hts (.fieldLink RX3 9 "DynamicLogicProver$Model" "truths" "[I") (mo_X3_take 1 rfl)) (fun _ h9 => h9) rfl dX3_take_9 ?_
  refine lv_iconst (v := 0) hx hb dX3_take_12 (by decide) ?_
  refine lv_aload_n hx hb dX3_take_13 rfl (lv_at hl 0 rfl) ?_
  refine va_get (D := D) (ci := 3) (v := .ref t) (C := RX3) (T := TX3) (N := 3) hx hb hts hiX3 hown hK hP 0 rfl rfl 0 (by decide) (hts (.fieldLink RX3 9 "DynamicLogicProver$Model" "truths" "[I") (mo_X3_take 1 rfl)) (fun _ h9 => h9) rfl dX3_take_14 ?_
  refine lv_iconst (v := 0) hx hb dX3_take_17 (by decide) ?_
  refine lv_iconst (v := 4) hx hb dX3_take_18 (by decide) ?_
  refine va_copyi (ty := .int) hx hb (by rw [hml]; exact hl.1.symm) hown (hts (.methodLink RX3 28 arraycopyName) (mo_X3_take 2 rfl)) (hts (.native arraycopyName) (mo_X3_take 3 rfl)) (hts (.static arraycopyName) (mo_X3_take 4 rfl)) (hts (.initialized "java/lang/System") (mo_X3_take 5 rfl)) hK hP hD hS 4 1 2 0 rfl rfl rfl rfl rfl (by decide) (by decide) (by decide) (Nat.le_of_ble_eq_true rfl) (Nat.le_of_ble_eq_true rfl) (fun _ _ => rfl) (Nat.le_of_ble_eq_true rfl) (by decide) dX3_take_19 (fun H locs hP hD hS => ?_)
  generalize ef_1 : va_cpy f2 f (0 : Int32).toNatClampNeg (0 : Int32).toNatClampNeg (4 : Int32).toNatClampNeg = f_1 at hP hD
  have hP : va_P D vwCl [(h, .inr (3, [.ref t, .ref v, .int n2])), (t, .inl (kt, 4, .inl f_1)), (v, .inl (kv, 18, .inl g)), (h2, .inr (3, [.ref t2, .ref v2, .int n2])), (t2, .inl (kt2, 4, .inl f2)), (v2, .inl (kv2, 18, .inl g2))] H := hP
  have hD : va_D A [(h, .inr (3, [.ref t, .ref v, .int n2])), (t, .inl (kt, 4, .inl f_1)), (v, .inl (kv, 18, .inl g)), (h2, .inr (3, [.ref t2, .ref v2, .int n2])), (t2, .inl (kt2, 4, .inl f2)), (v2, .inl (kv2, 18, .inl g2))] := hD
  refine lv_aload_n hx hb dX3_take_22 rfl (lv_at hl 1 rfl) ?_
  refine va_get (D := D) (ci := 3) (v := .ref v2) (C := RX3) (T := TX3) (N := 3) hx hb hts hiX3 hown hK hP 3 rfl rfl 1 (by decide) (hts (.fieldLink RX3 15 "DynamicLogicProver$Model" "moves" "[I") (mo_X3_take 6 rfl)) (fun _ h9 => h9) rfl dX3_take_23 ?_
  refine lv_iconst (v := 0) hx hb dX3_take_26 (by decide) ?_
  refine lv_aload_n hx hb dX3_take_27 rfl (lv_at hl 0 rfl) ?_
  refine va_get (D := D) (ci := 3) (v := .ref v) (C := RX3) (T := TX3) (N := 3) hx hb hts hiX3 hown hK hP 0 rfl rfl 1 (by decide) (hts (.fieldLink RX3 15 "DynamicLogicProver$Model" "moves" "[I") (mo_X3_take 6 rfl)) (fun _ h9 => h9) rfl dX3_take_28 ?_
  refine lv_iconst (v := 0) hx hb dX3_take_31 (by decide) ?_
  refine lv_bipush (v := 18) hx hb dX3_take_32 (by decide) ?_
  refine va_copyi (ty := .int) hx hb (by rw [hml]; exact hl.1.symm) hown (hts (.methodLink RX3 28 arraycopyName) (mo_X3_take 2 rfl)) (hts (.native arraycopyName) (mo_X3_take 3 rfl)) (hts (.static arraycopyName) (mo_X3_take 4 rfl)) (hts (.initialized "java/lang/System") (mo_X3_take 5 rfl)) hK hP hD hS 5 2 3 1 rfl rfl rfl rfl rfl (by decide) (by decide) (by decide) (Nat.le_of_ble_eq_true rfl) (Nat.le_of_ble_eq_true rfl) (fun _ _ => rfl) (Nat.le_of_ble_eq_true rfl) (by decide) dX3_take_34 (fun H locs hP hD hS => ?_)
  generalize ef_2 : va_cpy g2 g (0 : Int32).toNatClampNeg (0 : Int32).toNatClampNeg (18 : Int32).toNatClampNeg = f_2 at hP hD
  have hP : va_P D vwCl [(h, .inr (3, [.ref t, .ref v, .int n2])), (t, .inl (kt, 4, .inl f_1)), (v, .inl (kv, 18, .inl f_2)), (h2, .inr (3, [.ref t2, .ref v2, .int n2])), (t2, .inl (kt2, 4, .inl f2)), (v2, .inl (kv2, 18, .inl g2))] H := hP
  have hD : va_D A [(h, .inr (3, [.ref t, .ref v, .int n2])), (t, .inl (kt, 4, .inl f_1)), (v, .inl (kv, 18, .inl f_2)), (h2, .inr (3, [.ref t2, .ref v2, .int n2])), (t2, .inl (kt2, 4, .inl f2)), (v2, .inl (kv2, 18, .inl g2))] := hD
  have hP9 := hP.sub (ws' := [(h, .inr (3, [.ref t, .ref v, .int n2])), (t, .inl (kt, 4, .inl f_1)), (v, .inl (kv, 18, .inl f_2)), (h2, .inr (3, [.ref t2, .ref v2, .int n2])), (t2, .inl (kt2, 4, .inl f2)), (v2, .inl (kv2, 18, .inl g2))]) [0, 1, 2, 3, 4, 5] rfl
  have hD9 := hD.sub (ws' := [(h, .inr (3, [.ref t, .ref v, .int n2])), (t, .inl (kt, 4, .inl f_1)), (v, .inl (kv, 18, .inl f_2)), (h2, .inr (3, [.ref t2, .ref v2, .int n2])), (t2, .inl (kt2, 4, .inl f2)), (v2, .inl (kv2, 18, .inl g2))]) [0, 1, 2, 3, 4, 5] (by decide) rfl
  have hK9 := hK.sub (tys' := []) [] rfl
  exact W.vret hx hb hr (fun tZ htZ hW => ⟨⟨(f_1, f_2), rfl, trivial, by rw [htZ]; exact hP9, va_K.moved hW.alike hK9, hD9⟩, hS.F htZ⟩) hS.2.2 dX3_take_37
