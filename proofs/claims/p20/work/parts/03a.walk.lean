def f_J7_fill_53178_l5 (na : Nat) (i1 : Int32) : Nat → Int32 → xF → Option (xF)
  | 0, _, _ => none
  | k9 + 1, x2_1, af0_1 =>
    if (nI na) ≤ x2_1 then
      some af0_1
    else
      if x2_1 < 0 ∨ na ≤ x2_1.toNatClampNeg then none else
      f_J7_fill_53178_l5 na i1 k9 (x2_1 + (1 : Int32)) (upd af0_1 x2_1.toNatClampNeg i1)
theorem f_J7_fill_53178_l5_z (na : Nat) (i1 : Int32) (x2_1 : Int32) (af0_1 : xF) : f_J7_fill_53178_l5 na i1 0 x2_1 af0_1 = none := rfl
theorem f_J7_fill_53178_l5_s (na : Nat) (i1 : Int32) (k9 : Nat) (x2_1 : Int32) (af0_1 : xF) : f_J7_fill_53178_l5 na i1 (k9 + 1) x2_1 af0_1 =
    if (nI na) ≤ x2_1 then
      some af0_1
    else
      if x2_1 < 0 ∨ na ≤ x2_1.toNatClampNeg then none else
      f_J7_fill_53178_l5 na i1 k9 (x2_1 + (1 : Int32)) (upd af0_1 x2_1.toNatClampNeg i1) := rfl
def f_J7_fill_53178 (na : Nat) (af : xF) (i1 : Int32) : Option (xF) :=
  Option.bind (f_J7_fill_53178_l5 na i1 300 (0 : Int32) af) fun (w2 : xF) =>
  some w2
theorem f_J7_fill_53178_e (na : Nat) (af : xF) (i1 : Int32) : f_J7_fill_53178 na af i1 =
  Option.bind (f_J7_fill_53178_l5 na i1 300 (0 : Int32) af) fun (w2 : xF) =>
  some w2 := rfl
set_option maxHeartbeats 4000000 in
set_option maxRecDepth 100000 in
theorem c_J7_fill_53178 (l : Launch) (G : xG) (aa : Nat) (na : Nat) (af : xF) (i1 : Int32) (o : xF) (h : f_J7_fill_53178 na af i1 = some o) : xk_CV l yJ7_fill_53178 wsJ7_fill_53178 ({ frames := 0, cells := 0, slots := 0, locals := 0 } : Room) 0 0 [.ref aa, .int i1] G (wAR G aa na af) (wAR G aa na o) := by
  refine xk_CV.of (cc := cJ7_fill_53178) (maxL := 4) (ret := none) (by decide) rfl (Nat.le_of_ble_eq_true rfl) ?_
  intro pr9 en9 s mm9 bl9 meth9 cd9 A ls H locs hx hb hr hml hts hown hlk hA hP hK hD hNE hS hl
  have hown : s.vm.findClass RJ7 = some mm9.cls := hown
  have hl : lv_has ls 4 [(0, .ref aa), (1, .int i1)] := hl
  have hP : va_P G.1 vwCl (wAR G aa na af) H := hP
  have hD : va_D A (wAR G aa na af) := hD
  have h := (f_J7_fill_53178_e na af i1).symm.trans h
  refine lv_iconst (v := (0 : Int32)) hx hb dJ7_fill_53178_0 (by decide) ?_
  refine lv_istore_n (lv' := [(2, .int (0 : Int32)), (0, .ref aa), (1, .int i1)]) hx hb dJ7_fill_53178_1 rfl hl (by decide) rfl (fun ls hl => ?_)
  refine lv_aload_n hx hb dJ7_fill_53178_2 rfl (lv_at hl 1 rfl) ?_
  refine va_alen (v := (nI na)) hx hb hK hP 0 0 rfl rfl rfl dJ7_fill_53178_3 ?_
  refine lv_istore_n (lv' := [(3, .int (nI na)), (2, .int (0 : Int32)), (0, .ref aa), (1, .int i1)]) hx hb dJ7_fill_53178_4 rfl hl (by decide) rfl (fun ls hl => ?_)
  obtain ⟨w2, hw2, h⟩ := sp_b h
  refine xk_jn G A s.heap (wAR G aa na w2) 4 [] 20 [] (fun H locs hP hD hS ls hl => ?_) (fun J1 => ?_)
  · obtain rfl := sp_s h
    exact xk_reV hx hb hr hlk hP hD hS dJ7_fill_53178_20
  · have h := hw2
    clear hw2
    refine xk_lp (α := Int32 × xF) G A s.heap (fun a_1 => (wAR G aa na a_1.2)) 4 (fun a_1 => [(3, .int (nI na)), (2, .int a_1.1), (0, .ref aa), (1, .int i1)]) 5 (fun n a_1 => f_J7_fill_53178_l5 na i1 n a_1.1 a_1.2 = some w2) (fun a_1 h => ?_) (fun n ih_1 a_1 h H locs hP hD hS ls hl => ?_) (fun LL => ?_)
    · exact sp_n ((f_J7_fill_53178_l5_z _ _ _ _).symm.trans h)
    · obtain ⟨x2_1, af0_1⟩ := a_1
      have h := (f_J7_fill_53178_l5_s na i1 n x2_1 af0_1).symm.trans h
      have hP : va_P G.1 vwCl (wAR G aa na af0_1) H := hP
      have hD : va_D A (wAR G aa na af0_1) := hD
      have hl : lv_has ls 4 [(3, .int (nI na)), (2, .int x2_1), (0, .ref aa), (1, .int i1)] := hl
      refine lv_iload_n hx hb dJ7_fill_53178_5 rfl (lv_at hl 1 rfl) ?_
      refine lv_iload_n hx hb dJ7_fill_53178_6 rfl (lv_at hl 0 rfl) ?_
      refine lv_icmp_ge (tgt := 20) hx hb dJ7_fill_53178_7 (by decide) (fun c3 => ?_) (fun c3 => ?_)
      · have h := sp_t c3 h
        obtain rfl := sp_s h
        exact J1 _ _ hP hD hS _ (lv_sub hl [] rfl)
      · have h := sp_f c3 h
        refine lv_aload_n hx hb dJ7_fill_53178_10 rfl (lv_at hl 2 rfl) ?_
        refine lv_iload_n hx hb dJ7_fill_53178_11 rfl (lv_at hl 1 rfl) ?_
        refine lv_iload_n hx hb dJ7_fill_53178_12 rfl (lv_at hl 3 rfl) ?_
        obtain ⟨hin4, h⟩ := sp_g h
        refine va_iast hx hb hK hP hD hS 0 0 rfl rfl hin4 dJ7_fill_53178_13 (fun H locs hP hD hS => ?_)
        have hP : va_P G.1 vwCl (wAR G aa na (upd af0_1 x2_1.toNatClampNeg i1)) H := hP
        have hD : va_D A (wAR G aa na (upd af0_1 x2_1.toNatClampNeg i1)) := hD
        refine lv_iinc (v := (x2_1 + (1 : Int32))) (lv' := [(2, .int (x2_1 + (1 : Int32))), (3, .int (nI na)), (0, .ref aa), (1, .int i1)]) hx hb dJ7_fill_53178_14 hl (k := 1) rfl rfl (by decide) rfl (fun ls hl => ?_)
        refine lv_goto (tgt := 5) hx hb dJ7_fill_53178_17 (by decide) ?_
        exact ih_1 ((x2_1 + (1 : Int32)), (upd af0_1 x2_1.toNatClampNeg i1)) h _ _ hP hD hS _ (lv_sub hl [1, 0, 2, 3] rfl)
    · exact LL 300 ((0 : Int32), af) h _ _ hP hD hS _ (lv_sub hl [0, 1, 2, 3] rfl)
def f_J6_bitCount_0f7a4 (i0 : Int32) : Option (Int32) :=
  Option.bind (some (((i0 - ((xk_us i0 (1 : Int32)) &&& (1431655765 : Int32))) &&& (858993459 : Int32)) + ((xk_us (i0 - ((xk_us i0 (1 : Int32)) &&& (1431655765 : Int32))) (2 : Int32)) &&& (858993459 : Int32)))) fun (t1 : Int32) =>
  Option.bind (some ((((t1 + (xk_us t1 (4 : Int32))) &&& (252645135 : Int32)) + (xk_us ((t1 + (xk_us t1 (4 : Int32))) &&& (252645135 : Int32)) (8 : Int32))) + (xk_us (((t1 + (xk_us t1 (4 : Int32))) &&& (252645135 : Int32)) + (xk_us ((t1 + (xk_us t1 (4 : Int32))) &&& (252645135 : Int32)) (8 : Int32))) (16 : Int32)))) fun (t3 : Int32) =>
  some (t3 &&& (63 : Int32))
theorem f_J6_bitCount_0f7a4_e (i0 : Int32) : f_J6_bitCount_0f7a4 i0 =
  Option.bind (some (((i0 - ((xk_us i0 (1 : Int32)) &&& (1431655765 : Int32))) &&& (858993459 : Int32)) + ((xk_us (i0 - ((xk_us i0 (1 : Int32)) &&& (1431655765 : Int32))) (2 : Int32)) &&& (858993459 : Int32)))) fun (t1 : Int32) =>
  Option.bind (some ((((t1 + (xk_us t1 (4 : Int32))) &&& (252645135 : Int32)) + (xk_us ((t1 + (xk_us t1 (4 : Int32))) &&& (252645135 : Int32)) (8 : Int32))) + (xk_us (((t1 + (xk_us t1 (4 : Int32))) &&& (252645135 : Int32)) + (xk_us ((t1 + (xk_us t1 (4 : Int32))) &&& (252645135 : Int32)) (8 : Int32))) (16 : Int32)))) fun (t3 : Int32) =>
  some (t3 &&& (63 : Int32)) := rfl
set_option maxHeartbeats 4000000 in
set_option maxRecDepth 100000 in
theorem c_J6_bitCount_0f7a4 (l : Launch) (G : xG)  (i0 : Int32) (o : Int32) (h : f_J6_bitCount_0f7a4 i0 = some o) : xk_CI l yJ6_bitCount_0f7a4 wsJ6_bitCount_0f7a4 ({ frames := 0, cells := 0, slots := 0, locals := 0 } : Room) 0 0 [.int i0] G [] [] o := by
  refine xk_CI.of (cc := cJ6_bitCount_0f7a4) (maxL := 1) (ret := (some .int)) (by decide) rfl (Nat.le_of_ble_eq_true rfl) ?_
  intro pr9 en9 s mm9 bl9 meth9 cd9 A ls H locs hx hb hr hml hts hown hlk hA hP hK hD hNE hS hl
  have hown : s.vm.findClass RJ6 = some mm9.cls := hown
  have hl : lv_has ls 1 [(0, .int i0)] := hl
  have h := (f_J6_bitCount_0f7a4_e i0).symm.trans h
  refine lv_iload_n hx hb dJ6_bitCount_0f7a4_0 rfl (lv_at hl 0 rfl) ?_
  refine lv_iload_n hx hb dJ6_bitCount_0f7a4_1 rfl (lv_at hl 0 rfl) ?_
  refine lv_iconst (v := (1 : Int32)) hx hb dJ6_bitCount_0f7a4_2 (by decide) ?_
  refine lv_iushr (v := (xk_us i0 (1 : Int32))) hx hb dJ6_bitCount_0f7a4_3 rfl ?_
  refine lv_ldcw (v := (1431655765 : Int32)) hx hb hown (hts (.constant RJ6 265 (1431655765)) (by decide +kernel)) dJ6_bitCount_0f7a4_4 ?_
  refine lv_iand hx hb dJ6_bitCount_0f7a4_7 ?_
  refine lv_isub hx hb dJ6_bitCount_0f7a4_8 ?_
  refine lv_istore_n (lv' := [(0, .int (i0 - ((xk_us i0 (1 : Int32)) &&& (1431655765 : Int32))))]) hx hb dJ6_bitCount_0f7a4_9 rfl hl (by decide) rfl (fun ls hl => ?_)
  refine lv_iload_n hx hb dJ6_bitCount_0f7a4_10 rfl (lv_at hl 0 rfl) ?_
  refine lv_ldcw (v := (858993459 : Int32)) hx hb hown (hts (.constant RJ6 266 (858993459)) (by decide +kernel)) dJ6_bitCount_0f7a4_11 ?_
  refine lv_iand hx hb dJ6_bitCount_0f7a4_14 ?_
  refine lv_iload_n hx hb dJ6_bitCount_0f7a4_15 rfl (lv_at hl 0 rfl) ?_
  refine lv_iconst (v := (2 : Int32)) hx hb dJ6_bitCount_0f7a4_16 (by decide) ?_
  refine lv_iushr (v := (xk_us (i0 - ((xk_us i0 (1 : Int32)) &&& (1431655765 : Int32))) (2 : Int32))) hx hb dJ6_bitCount_0f7a4_17 rfl ?_
  refine lv_ldcw (v := (858993459 : Int32)) hx hb hown (hts (.constant RJ6 266 (858993459)) (by decide +kernel)) dJ6_bitCount_0f7a4_18 ?_
  refine lv_iand hx hb dJ6_bitCount_0f7a4_21 ?_
  refine lv_iadd hx hb dJ6_bitCount_0f7a4_22 ?_
  obtain ⟨t1, ht1, h⟩ := sp_b h
  have ht1 := sp_s ht1
  refine lv_topi (fun y2 ey2 => ?_)
  obtain rfl : t1 = y2 := (ey2.trans ht1.symm).symm
  refine lv_istore_n (lv' := [(0, .int t1)]) hx hb dJ6_bitCount_0f7a4_23 rfl hl (by decide) rfl (fun ls hl => ?_)
  refine lv_iload_n hx hb dJ6_bitCount_0f7a4_24 rfl (lv_at hl 0 rfl) ?_
  refine lv_iload_n hx hb dJ6_bitCount_0f7a4_25 rfl (lv_at hl 0 rfl) ?_
  refine lv_iconst (v := (4 : Int32)) hx hb dJ6_bitCount_0f7a4_26 (by decide) ?_
  refine lv_iushr (v := (xk_us t1 (4 : Int32))) hx hb dJ6_bitCount_0f7a4_27 rfl ?_
  refine lv_iadd hx hb dJ6_bitCount_0f7a4_28 ?_
  refine lv_ldcw (v := (252645135 : Int32)) hx hb hown (hts (.constant RJ6 267 (252645135)) (by decide +kernel)) dJ6_bitCount_0f7a4_29 ?_
  refine lv_iand hx hb dJ6_bitCount_0f7a4_32 ?_
  refine lv_istore_n (lv' := [(0, .int ((t1 + (xk_us t1 (4 : Int32))) &&& (252645135 : Int32)))]) hx hb dJ6_bitCount_0f7a4_33 rfl hl (by decide) rfl (fun ls hl => ?_)
  refine lv_iload_n hx hb dJ6_bitCount_0f7a4_34 rfl (lv_at hl 0 rfl) ?_
  refine lv_iload_n hx hb dJ6_bitCount_0f7a4_35 rfl (lv_at hl 0 rfl) ?_
  refine lv_bipush (v := (8 : Int32)) hx hb dJ6_bitCount_0f7a4_36 (by decide) ?_
  refine lv_iushr (v := (xk_us ((t1 + (xk_us t1 (4 : Int32))) &&& (252645135 : Int32)) (8 : Int32))) hx hb dJ6_bitCount_0f7a4_38 rfl ?_
  refine lv_iadd hx hb dJ6_bitCount_0f7a4_39 ?_
  refine lv_istore_n (lv' := [(0, .int (((t1 + (xk_us t1 (4 : Int32))) &&& (252645135 : Int32)) + (xk_us ((t1 + (xk_us t1 (4 : Int32))) &&& (252645135 : Int32)) (8 : Int32))))]) hx hb dJ6_bitCount_0f7a4_40 rfl hl (by decide) rfl (fun ls hl => ?_)
  refine lv_iload_n hx hb dJ6_bitCount_0f7a4_41 rfl (lv_at hl 0 rfl) ?_
  refine lv_iload_n hx hb dJ6_bitCount_0f7a4_42 rfl (lv_at hl 0 rfl) ?_
  refine lv_bipush (v := (16 : Int32)) hx hb dJ6_bitCount_0f7a4_43 (by decide) ?_
  refine lv_iushr (v := (xk_us (((t1 + (xk_us t1 (4 : Int32))) &&& (252645135 : Int32)) + (xk_us ((t1 + (xk_us t1 (4 : Int32))) &&& (252645135 : Int32)) (8 : Int32))) (16 : Int32))) hx hb dJ6_bitCount_0f7a4_45 rfl ?_
  refine lv_iadd hx hb dJ6_bitCount_0f7a4_46 ?_
  obtain ⟨t3, ht3, h⟩ := sp_b h
  have ht3 := sp_s ht3
  refine lv_topi (fun y4 ey4 => ?_)
  obtain rfl : t3 = y4 := (ey4.trans ht3.symm).symm
  refine lv_istore_n (lv' := [(0, .int t3)]) hx hb dJ6_bitCount_0f7a4_47 rfl hl (by decide) rfl (fun ls hl => ?_)
  refine lv_iload_n hx hb dJ6_bitCount_0f7a4_48 rfl (lv_at hl 0 rfl) ?_
  refine lv_bipush (v := (63 : Int32)) hx hb dJ6_bitCount_0f7a4_49 (by decide) ?_
  refine lv_iand hx hb dJ6_bitCount_0f7a4_51 ?_
  obtain rfl := sp_s h
  exact xk_reI hx hb hr hlk hP hD hS rfl dJ6_bitCount_0f7a4_52
def f_X2_has (i0 : Int32) (i1 : Int32) : Option (Int32) :=
  if ((i0 >>> (i1 &&& 31)) &&& (1 : Int32)) = (1 : Int32) then
    some (1 : Int32)
  else
    some (0 : Int32)
theorem f_X2_has_e (i0 : Int32) (i1 : Int32) : f_X2_has i0 i1 =
  if ((i0 >>> (i1 &&& 31)) &&& (1 : Int32)) = (1 : Int32) then
    some (1 : Int32)
  else
    some (0 : Int32) := rfl
set_option maxHeartbeats 4000000 in
set_option maxRecDepth 100000 in
theorem c_X2_has (l : Launch) (G : xG)  (i0 : Int32) (i1 : Int32) (o : Int32) (h : f_X2_has i0 i1 = some o) : xk_CI l yX2_has wsX2_has ({ frames := 0, cells := 0, slots := 0, locals := 0 } : Room) 0 0 [.int i0, .int i1] G [] [] o := by
  refine xk_CI.of (cc := cX2_has) (maxL := 2) (ret := (some .boolean)) (by decide) rfl (Nat.le_of_ble_eq_true rfl) ?_
  intro pr9 en9 s mm9 bl9 meth9 cd9 A ls H locs hx hb hr hml hts hown hlk hA hP hK hD hNE hS hl
  have hown : s.vm.findClass RX2 = some mm9.cls := hown
  have hl : lv_has ls 2 [(0, .int i0), (1, .int i1)] := hl
  have h := (f_X2_has_e i0 i1).symm.trans h
  refine lv_iload_n hx hb dX2_has_0 rfl (lv_at hl 0 rfl) ?_
  refine lv_iload_n hx hb dX2_has_1 rfl (lv_at hl 1 rfl) ?_
  refine lv_ishr hx hb dX2_has_2 ?_
  refine lv_iconst (v := (1 : Int32)) hx hb dX2_has_3 (by decide) ?_
  refine lv_iand hx hb dX2_has_4 ?_
  refine lv_iconst (v := (1 : Int32)) hx hb dX2_has_5 (by decide) ?_
  refine lv_icmp_ne (tgt := 13) hx hb dX2_has_6 (by decide) (fun c1 => ?_) (fun c1 => ?_)
  · have h := sp_f c1 h
    refine lv_iconst (v := (0 : Int32)) hx hb dX2_has_13 (by decide) ?_
    obtain rfl := sp_s h
    exact xk_reZ hx hb hr hlk rfl hP hD hS rfl dX2_has_14
  · have h := sp_t c1 h
    refine lv_iconst (v := (1 : Int32)) hx hb dX2_has_9 (by decide) ?_
    refine lv_goto (tgt := 14) hx hb dX2_has_10 (by decide) ?_
    obtain rfl := sp_s h
    exact xk_reZ hx hb hr hlk rfl hP hD hS rfl dX2_has_14
def f_X1_isCovered (i0 : Int32) (i1 : Int32) : Option (Int32) :=
  if (i0 &&& (i1 ^^^ ((-1) : Int32))) = 0 then
    some (1 : Int32)
  else
    some (0 : Int32)
theorem f_X1_isCovered_e (i0 : Int32) (i1 : Int32) : f_X1_isCovered i0 i1 =
  if (i0 &&& (i1 ^^^ ((-1) : Int32))) = 0 then
    some (1 : Int32)
  else
    some (0 : Int32) := rfl
set_option maxHeartbeats 4000000 in
set_option maxRecDepth 100000 in
theorem c_X1_isCovered (l : Launch) (G : xG)  (i0 : Int32) (i1 : Int32) (o : Int32) (h : f_X1_isCovered i0 i1 = some o) : xk_CI l yX1_isCovered wsX1_isCovered ({ frames := 0, cells := 0, slots := 0, locals := 0 } : Room) 0 0 [.int i0, .int i1] G [] [] o := by
  refine xk_CI.of (cc := cX1_isCovered) (maxL := 2) (ret := (some .boolean)) (by decide) rfl (Nat.le_of_ble_eq_true rfl) ?_
  intro pr9 en9 s mm9 bl9 meth9 cd9 A ls H locs hx hb hr hml hts hown hlk hA hP hK hD hNE hS hl
  have hown : s.vm.findClass RX1 = some mm9.cls := hown
  have hl : lv_has ls 2 [(0, .int i0), (1, .int i1)] := hl
  have h := (f_X1_isCovered_e i0 i1).symm.trans h
  refine lv_iload_n hx hb dX1_isCovered_0 rfl (lv_at hl 0 rfl) ?_
  refine lv_iload_n hx hb dX1_isCovered_1 rfl (lv_at hl 1 rfl) ?_
  refine lv_iconst (v := ((-1) : Int32)) hx hb dX1_isCovered_2 (by decide) ?_
  refine lv_ixor hx hb dX1_isCovered_3 ?_
  refine lv_iand hx hb dX1_isCovered_4 ?_
  refine lv_if_ne (tgt := 12) hx hb dX1_isCovered_5 (by decide) (fun c1 => ?_) (fun c1 => ?_)
  · have h := sp_f c1 h
    refine lv_iconst (v := (0 : Int32)) hx hb dX1_isCovered_12 (by decide) ?_
    obtain rfl := sp_s h
    exact xk_reZ hx hb hr hlk rfl hP hD hS rfl dX1_isCovered_13
  · have h := sp_t c1 h
    refine lv_iconst (v := (1 : Int32)) hx hb dX1_isCovered_8 (by decide) ?_
    refine lv_goto (tgt := 13) hx hb dX1_isCovered_9 (by decide) ?_
    obtain rfl := sp_s h
    exact xk_reZ hx hb hr hlk rfl hP hD hS rfl dX1_isCovered_13
def f_X1_neededBy_l4 (yy_0 : Int32) (yy_7 : xF) (i1 : Int32) : Nat → Int32 → Int32 → Option (Int32)
  | 0, _, _ => none
  | k9 + 1, x3_1, x2_1 =>
    if yy_0 ≤ x3_1 then
      some x2_1
    else
      Option.bind (f_X2_has i1 x3_1) fun (o4 : Int32) =>
      if o4 = 0 then
        f_X1_neededBy_l4 yy_0 yy_7 i1 k9 (x3_1 + (1 : Int32)) x2_1
      else
        if x3_1 < 0 ∨ 12 ≤ x3_1.toNatClampNeg then none else
        f_X1_neededBy_l4 yy_0 yy_7 i1 k9 (x3_1 + (1 : Int32)) (x2_1 ||| (yy_7 x3_1.toNatClampNeg))
theorem f_X1_neededBy_l4_z (yy_0 : Int32) (yy_7 : xF) (i1 : Int32) (x3_1 : Int32) (x2_1 : Int32) : f_X1_neededBy_l4 yy_0 yy_7 i1 0 x3_1 x2_1 = none := rfl
theorem f_X1_neededBy_l4_s (yy_0 : Int32) (yy_7 : xF) (i1 : Int32) (k9 : Nat) (x3_1 : Int32) (x2_1 : Int32) : f_X1_neededBy_l4 yy_0 yy_7 i1 (k9 + 1) x3_1 x2_1 =
    if yy_0 ≤ x3_1 then
      some x2_1
    else
      Option.bind (f_X2_has i1 x3_1) fun (o4 : Int32) =>
      if o4 = 0 then
        f_X1_neededBy_l4 yy_0 yy_7 i1 k9 (x3_1 + (1 : Int32)) x2_1
      else
        if x3_1 < 0 ∨ 12 ≤ x3_1.toNatClampNeg then none else
        f_X1_neededBy_l4 yy_0 yy_7 i1 k9 (x3_1 + (1 : Int32)) (x2_1 ||| (yy_7 x3_1.toNatClampNeg)) := rfl
def f_X1_neededBy (yy : xSY) (i1 : Int32) : Option (Int32) :=
  Option.bind (f_X1_neededBy_l4 yy.1 yy.2.2.2.2.2.2.2.1 i1 300 (0 : Int32) (0 : Int32)) fun (w2 : Int32) =>
  some w2
theorem f_X1_neededBy_e (yy_0 : Int32) (yy_1 : xF) (yy_2 : xF) (yy_3 : xF) (yy_4 : xF) (yy_5 : xF) (yy_6 : xF) (yy_7 : xF) (yy_8 : xF) (i1 : Int32) : f_X1_neededBy (yy_0, yy_1, yy_2, yy_3, yy_4, yy_5, yy_6, yy_7, yy_8) i1 =
  Option.bind (f_X1_neededBy_l4 yy_0 yy_7 i1 300 (0 : Int32) (0 : Int32)) fun (w2 : Int32) =>
  some w2 := rfl
set_option maxHeartbeats 4000000 in
set_option maxRecDepth 100000 in
theorem c_X1_neededBy (l : Launch) (G : xG) (ya : (Nat → Nat)) (yy : xSY) (i1 : Int32) (o : Int32) (h : f_X1_neededBy yy i1 = some o) : xk_CI l yX1_neededBy wsX1_neededBy ({ frames := 1, cells := 0, slots := 0, locals := 21 } : Room) 0 0 [.ref (ya 0), .int i1] G (wSYc G ya yy.1 yy.2.1 yy.2.2.1 yy.2.2.2.1 yy.2.2.2.2.1 yy.2.2.2.2.2.1 yy.2.2.2.2.2.2.1 yy.2.2.2.2.2.2.2.1 yy.2.2.2.2.2.2.2.2) (wSYc G ya yy.1 yy.2.1 yy.2.2.1 yy.2.2.2.1 yy.2.2.2.2.1 yy.2.2.2.2.2.1 yy.2.2.2.2.2.2.1 yy.2.2.2.2.2.2.2.1 yy.2.2.2.2.2.2.2.2) o := by
  obtain ⟨yy_0, yy_1, yy_2, yy_3, yy_4, yy_5, yy_6, yy_7, yy_8⟩ := yy
  refine xk_CI.of (cc := cX1_neededBy) (maxL := 4) (ret := (some .int)) (by decide) rfl (Nat.le_of_ble_eq_true rfl) ?_
  intro pr9 en9 s mm9 bl9 meth9 cd9 A ls H locs hx hb hr hml hts hown hlk hA hP hK hD hNE hS hl
  have hown : s.vm.findClass RX1 = some mm9.cls := hown
  have hl : lv_has ls 4 [(0, .ref (ya 0)), (1, .int i1)] := hl
  have hinX1 : ∀ w ∈ u_ws RX1 TX1 9, w ∈ wsX1_neededBy := by decide +kernel
  have hP : va_P G.1 vwCl (wSYc G ya yy_0 yy_1 yy_2 yy_3 yy_4 yy_5 yy_6 yy_7 yy_8) H := hP
  have hD : va_D A (wSYc G ya yy_0 yy_1 yy_2 yy_3 yy_4 yy_5 yy_6 yy_7 yy_8) := hD
  have h := (f_X1_neededBy_e yy_0 yy_1 yy_2 yy_3 yy_4 yy_5 yy_6 yy_7 yy_8 i1).symm.trans h
  refine lv_iconst (v := (0 : Int32)) hx hb dX1_neededBy_0 (by decide) ?_
  refine lv_istore_n (lv' := [(2, .int (0 : Int32)), (0, .ref (ya 0)), (1, .int i1)]) hx hb dX1_neededBy_1 rfl hl (by decide) rfl (fun ls hl => ?_)
  refine lv_iconst (v := (0 : Int32)) hx hb dX1_neededBy_2 (by decide) ?_
  refine lv_istore_n (lv' := [(3, .int (0 : Int32)), (2, .int (0 : Int32)), (0, .ref (ya 0)), (1, .int i1)]) hx hb dX1_neededBy_3 rfl hl (by decide) rfl (fun ls hl => ?_)
  obtain ⟨w2, hw2, h⟩ := sp_b h
  refine xk_jn G A s.heap (wSYc G ya yy_0 yy_1 yy_2 yy_3 yy_4 yy_5 yy_6 yy_7 yy_8) 4 [(2, .int w2)] 35 [] (fun H locs hP hD hS ls hl => ?_) (fun J1 => ?_)
  · refine lv_iload_n hx hb dX1_neededBy_35 rfl (lv_at hl 0 rfl) ?_
    obtain rfl := sp_s h
    exact xk_reI hx hb hr hlk hP hD hS rfl dX1_neededBy_36
  · have h := hw2
    clear hw2
    refine xk_lp (α := Int32 × Int32) G A s.heap (fun a_1 => (wSYc G ya yy_0 yy_1 yy_2 yy_3 yy_4 yy_5 yy_6 yy_7 yy_8)) 4 (fun a_1 => [(3, .int a_1.1), (2, .int a_1.2), (0, .ref (ya 0)), (1, .int i1)]) 4 (fun n a_1 => f_X1_neededBy_l4 yy_0 yy_7 i1 n a_1.1 a_1.2 = some w2) (fun a_1 h => ?_) (fun n ih_1 a_1 h H locs hP hD hS ls hl => ?_) (fun LL => ?_)
    · exact sp_n ((f_X1_neededBy_l4_z _ _ _ _ _).symm.trans h)
    · obtain ⟨x3_1, x2_1⟩ := a_1
      have h := (f_X1_neededBy_l4_s yy_0 yy_7 i1 n x3_1 x2_1).symm.trans h
      have hP : va_P G.1 vwCl (wSYc G ya yy_0 yy_1 yy_2 yy_3 yy_4 yy_5 yy_6 yy_7 yy_8) H := hP
      have hD : va_D A (wSYc G ya yy_0 yy_1 yy_2 yy_3 yy_4 yy_5 yy_6 yy_7 yy_8) := hD
      have hl : lv_has ls 4 [(3, .int x3_1), (2, .int x2_1), (0, .ref (ya 0)), (1, .int i1)] := hl
      refine lv_iload_n hx hb dX1_neededBy_4 rfl (lv_at hl 0 rfl) ?_
      refine lv_aload_n hx hb dX1_neededBy_5 rfl (lv_at hl 2 rfl) ?_
      refine va_get (D := G.1) (ci := 1) (v := .int yy_0) (C := RX1) (T := TX1) (N := 9) hx hb hts hinX1 hown hK hP 0 rfl rfl 0 (by decide) (hts (.fieldLink RX1 36 "LessonWeave$Syllabus" "count" "I") (by decide +kernel)) (fun _ h9 => h9) rfl dX1_neededBy_6 ?_
      refine lv_icmp_ge (tgt := 35) hx hb dX1_neededBy_9 (by decide) (fun c3 => ?_) (fun c3 => ?_)
      · have h := sp_t c3 h
        obtain rfl := sp_s h
        exact J1 _ _ hP hD hS _ (lv_sub hl [1] rfl)
      · have h := sp_f c3 h
        refine lv_iload_n hx hb dX1_neededBy_12 rfl (lv_at hl 3 rfl) ?_
        refine lv_iload_n hx hb dX1_neededBy_13 rfl (lv_at hl 0 rfl) ?_
        obtain ⟨o4, ho4, h⟩ := sp_b h
        refine xk_ci (va_runSN (As := [.int i1, .int x3_1]) (rest := []) ⟨hx, hb, hml, hown, hts⟩ (c_X2_has l G i1 x3_1 o4 ho4 H.size) ⟨va_cnB 2 hts gX1_neededBy_X2_has_n47 rfl rfl rfl (hNE.2.2.2.2.2.2.2.2.2.2.2.2.2.2.2.2.2.2) (hts (.initialized RX2) (by decide +kernel)) (by decide +kernel) ⟨Nat.le_of_ble_eq_true rfl, Nat.le_of_ble_eq_true rfl⟩, hts (.static yX2_has) (by decide +kernel), trivial⟩ (xk_preS hK hNE (hP.sub (ws' := []) [] rfl) (hD.sub (ws' := []) [] (by decide) rfl)) rfl rfl hl.1 rfl (lv_room (Nat.le_of_ble_eq_true rfl)) dX1_neededBy_14 ⟨Nat.le_of_ble_eq_true rfl, Nat.le_of_ble_eq_true rfl⟩) hP hD hS hA [] [0, 1, 2, 3, 4, 5, 6, 7, 8] [0, 1, 2, 3, 4, 5, 6, 7, 8] rfl rfl (by decide) (by decide) rfl (by decide) (fun H locs hP hD hS => ?_)
        have hP : va_P G.1 vwCl (wSYc G ya yy_0 yy_1 yy_2 yy_3 yy_4 yy_5 yy_6 yy_7 yy_8) H := hP
        have hD : va_D A (wSYc G ya yy_0 yy_1 yy_2 yy_3 yy_4 yy_5 yy_6 yy_7 yy_8) := hD
        refine lv_if_eq (tgt := 29) hx hb dX1_neededBy_17 (by decide) (fun c5 => ?_) (fun c5 => ?_)
        · have h := sp_t c5 h
          refine lv_iinc (v := (x3_1 + (1 : Int32))) (lv' := [(3, .int (x3_1 + (1 : Int32))), (2, .int x2_1), (0, .ref (ya 0)), (1, .int i1)]) hx hb dX1_neededBy_29 hl (k := 0) rfl rfl (by decide) rfl (fun ls hl => ?_)
          refine lv_goto (tgt := 4) hx hb dX1_neededBy_32 (by decide) ?_
          exact ih_1 ((x3_1 + (1 : Int32)), x2_1) h _ _ hP hD hS _ (lv_sub hl [0, 1, 2, 3] rfl)
        · have h := sp_f c5 h
          refine lv_iload_n hx hb dX1_neededBy_20 rfl (lv_at hl 1 rfl) ?_
          refine lv_aload_n hx hb dX1_neededBy_21 rfl (lv_at hl 2 rfl) ?_
          refine va_get (D := G.1) (ci := 1) (v := .ref (ya 7)) (C := RX1) (T := TX1) (N := 9) hx hb hts hinX1 hown hK hP 0 rfl rfl 7 (by decide) (hts (.fieldLink RX1 30 "LessonWeave$Syllabus" "needs" "[I") (by decide +kernel)) (fun _ h9 => h9) rfl dX1_neededBy_22 ?_
          refine lv_iload_n hx hb dX1_neededBy_25 rfl (lv_at hl 0 rfl) ?_
          obtain ⟨hin6, h⟩ := sp_g h
          refine va_iald hx hb hK hP 7 0 rfl rfl hin6 dX1_neededBy_26 ?_
          refine lv_ior hx hb dX1_neededBy_27 ?_
          refine lv_istore_n (lv' := [(2, .int (x2_1 ||| (yy_7 x3_1.toNatClampNeg))), (3, .int x3_1), (0, .ref (ya 0)), (1, .int i1)]) hx hb dX1_neededBy_28 rfl hl (by decide) rfl (fun ls hl => ?_)
          refine lv_iinc (v := (x3_1 + (1 : Int32))) (lv' := [(3, .int (x3_1 + (1 : Int32))), (2, .int (x2_1 ||| (yy_7 x3_1.toNatClampNeg))), (0, .ref (ya 0)), (1, .int i1)]) hx hb dX1_neededBy_29 hl (k := 1) rfl rfl (by decide) rfl (fun ls hl => ?_)
          refine lv_goto (tgt := 4) hx hb dX1_neededBy_32 (by decide) ?_
          exact ih_1 ((x3_1 + (1 : Int32)), (x2_1 ||| (yy_7 x3_1.toNatClampNeg))) h _ _ hP hD hS _ (lv_sub hl [0, 1, 2, 3] rfl)
    · exact LL 300 ((0 : Int32), (0 : Int32)) h _ _ hP hD hS _ (lv_sub hl [0, 1, 2, 3] rfl)
def f_X1_reach_l9 (yy_0 : Int32) (yy_1 : xF) (yy_2 : xF) (yy_3 : xF) (yy_4 : xF) (yy_5 : xF) (yy_6 : xF) (yy_7 : xF) (yy_8 : xF) : Nat → Int32 → Int32 → Option (Int32)
  | 0, _, _ => none
  | k9 + 1, x3_2, x2_2 =>
    if yy_0 ≤ x3_2 then
      some x2_2
    else
      Option.bind (f_X1_neededBy (yy_0, yy_1, yy_2, yy_3, yy_4, yy_5, yy_6, yy_7, yy_8) x2_2) fun (o5 : Int32) =>
      f_X1_reach_l9 yy_0 yy_1 yy_2 yy_3 yy_4 yy_5 yy_6 yy_7 yy_8 k9 (x3_2 + (1 : Int32)) (x2_2 ||| o5)
theorem f_X1_reach_l9_z (yy_0 : Int32) (yy_1 : xF) (yy_2 : xF) (yy_3 : xF) (yy_4 : xF) (yy_5 : xF) (yy_6 : xF) (yy_7 : xF) (yy_8 : xF) (x3_2 : Int32) (x2_2 : Int32) : f_X1_reach_l9 yy_0 yy_1 yy_2 yy_3 yy_4 yy_5 yy_6 yy_7 yy_8 0 x3_2 x2_2 = none := rfl
theorem f_X1_reach_l9_s (yy_0 : Int32) (yy_1 : xF) (yy_2 : xF) (yy_3 : xF) (yy_4 : xF) (yy_5 : xF) (yy_6 : xF) (yy_7 : xF) (yy_8 : xF) (k9 : Nat) (x3_2 : Int32) (x2_2 : Int32) : f_X1_reach_l9 yy_0 yy_1 yy_2 yy_3 yy_4 yy_5 yy_6 yy_7 yy_8 (k9 + 1) x3_2 x2_2 =
    if yy_0 ≤ x3_2 then
      some x2_2
    else
      Option.bind (f_X1_neededBy (yy_0, yy_1, yy_2, yy_3, yy_4, yy_5, yy_6, yy_7, yy_8) x2_2) fun (o5 : Int32) =>
      f_X1_reach_l9 yy_0 yy_1 yy_2 yy_3 yy_4 yy_5 yy_6 yy_7 yy_8 k9 (x3_2 + (1 : Int32)) (x2_2 ||| o5) := rfl
def f_X1_reach (yy : xSY) (i1 : Int32) : Option (Int32) :=
  if i1 < 0 ∨ 12 ≤ i1.toNatClampNeg then none else
  Option.bind (f_X1_reach_l9 yy.1 yy.2.1 yy.2.2.1 yy.2.2.2.1 yy.2.2.2.2.1 yy.2.2.2.2.2.1 yy.2.2.2.2.2.2.1 yy.2.2.2.2.2.2.2.1 yy.2.2.2.2.2.2.2.2 300 (1 : Int32) (yy.2.2.2.2.2.2.2.1 i1.toNatClampNeg)) fun (w3 : Int32) =>
  some w3
theorem f_X1_reach_e (yy_0 : Int32) (yy_1 : xF) (yy_2 : xF) (yy_3 : xF) (yy_4 : xF) (yy_5 : xF) (yy_6 : xF) (yy_7 : xF) (yy_8 : xF) (i1 : Int32) : f_X1_reach (yy_0, yy_1, yy_2, yy_3, yy_4, yy_5, yy_6, yy_7, yy_8) i1 =
  if i1 < 0 ∨ 12 ≤ i1.toNatClampNeg then none else
  Option.bind (f_X1_reach_l9 yy_0 yy_1 yy_2 yy_3 yy_4 yy_5 yy_6 yy_7 yy_8 300 (1 : Int32) (yy_7 i1.toNatClampNeg)) fun (w3 : Int32) =>
  some w3 := rfl
set_option maxHeartbeats 4000000 in
set_option maxRecDepth 100000 in
theorem c_X1_reach (l : Launch) (G : xG) (ya : (Nat → Nat)) (yy : xSY) (i1 : Int32) (o : Int32) (h : f_X1_reach yy i1 = some o) : xk_CI l yX1_reach wsX1_reach ({ frames := 2, cells := 0, slots := 0, locals := 44 } : Room) 0 0 [.ref (ya 0), .int i1] G (wSYc G ya yy.1 yy.2.1 yy.2.2.1 yy.2.2.2.1 yy.2.2.2.2.1 yy.2.2.2.2.2.1 yy.2.2.2.2.2.2.1 yy.2.2.2.2.2.2.2.1 yy.2.2.2.2.2.2.2.2) (wSYc G ya yy.1 yy.2.1 yy.2.2.1 yy.2.2.2.1 yy.2.2.2.2.1 yy.2.2.2.2.2.1 yy.2.2.2.2.2.2.1 yy.2.2.2.2.2.2.2.1 yy.2.2.2.2.2.2.2.2) o := by
  obtain ⟨yy_0, yy_1, yy_2, yy_3, yy_4, yy_5, yy_6, yy_7, yy_8⟩ := yy
  refine xk_CI.of (cc := cX1_reach) (maxL := 4) (ret := (some .int)) (by decide) rfl (Nat.le_of_ble_eq_true rfl) ?_
  intro pr9 en9 s mm9 bl9 meth9 cd9 A ls H locs hx hb hr hml hts hown hlk hA hP hK hD hNE hS hl
  have hown : s.vm.findClass RX1 = some mm9.cls := hown
  have hl : lv_has ls 4 [(0, .ref (ya 0)), (1, .int i1)] := hl
  have hinX1 : ∀ w ∈ u_ws RX1 TX1 9, w ∈ wsX1_reach := by decide +kernel
  have hP : va_P G.1 vwCl (wSYc G ya yy_0 yy_1 yy_2 yy_3 yy_4 yy_5 yy_6 yy_7 yy_8) H := hP
  have hD : va_D A (wSYc G ya yy_0 yy_1 yy_2 yy_3 yy_4 yy_5 yy_6 yy_7 yy_8) := hD
  have h := (f_X1_reach_e yy_0 yy_1 yy_2 yy_3 yy_4 yy_5 yy_6 yy_7 yy_8 i1).symm.trans h
  refine lv_aload_n hx hb dX1_reach_0 rfl (lv_at hl 0 rfl) ?_
  refine va_get (D := G.1) (ci := 1) (v := .ref (ya 7)) (C := RX1) (T := TX1) (N := 9) hx hb hts hinX1 hown hK hP 0 rfl rfl 7 (by decide) (hts (.fieldLink RX1 30 "LessonWeave$Syllabus" "needs" "[I") (by decide +kernel)) (fun _ h9 => h9) rfl dX1_reach_1 ?_
  refine lv_iload_n hx hb dX1_reach_4 rfl (lv_at hl 1 rfl) ?_
  obtain ⟨hin1, h⟩ := sp_g h
  refine va_iald hx hb hK hP 7 0 rfl rfl hin1 dX1_reach_5 ?_
  refine lv_istore_n (lv' := [(2, .int (yy_7 i1.toNatClampNeg)), (0, .ref (ya 0)), (1, .int i1)]) hx hb dX1_reach_6 rfl hl (by decide) rfl (fun ls hl => ?_)
  refine lv_iconst (v := (1 : Int32)) hx hb dX1_reach_7 (by decide) ?_
  refine lv_istore_n (lv' := [(3, .int (1 : Int32)), (2, .int (yy_7 i1.toNatClampNeg)), (0, .ref (ya 0)), (1, .int i1)]) hx hb dX1_reach_8 rfl hl (by decide) rfl (fun ls hl => ?_)
  obtain ⟨w3, hw3, h⟩ := sp_b h
  refine xk_jn G A s.heap (wSYc G ya yy_0 yy_1 yy_2 yy_3 yy_4 yy_5 yy_6 yy_7 yy_8) 4 [(2, .int w3)] 31 [] (fun H locs hP hD hS ls hl => ?_) (fun J2 => ?_)
  · refine lv_iload_n hx hb dX1_reach_31 rfl (lv_at hl 0 rfl) ?_
    obtain rfl := sp_s h
    exact xk_reI hx hb hr hlk hP hD hS rfl dX1_reach_32
  · have h := hw3
    clear hw3
    refine xk_lp (α := Int32 × Int32) G A s.heap (fun a_2 => (wSYc G ya yy_0 yy_1 yy_2 yy_3 yy_4 yy_5 yy_6 yy_7 yy_8)) 4 (fun a_2 => [(3, .int a_2.1), (2, .int a_2.2), (0, .ref (ya 0))]) 9 (fun n a_2 => f_X1_reach_l9 yy_0 yy_1 yy_2 yy_3 yy_4 yy_5 yy_6 yy_7 yy_8 n a_2.1 a_2.2 = some w3) (fun a_2 h => ?_) (fun n ih_2 a_2 h H locs hP hD hS ls hl => ?_) (fun LL => ?_)
    · exact sp_n ((f_X1_reach_l9_z _ _ _ _ _ _ _ _ _ _ _).symm.trans h)
    · obtain ⟨x3_2, x2_2⟩ := a_2
      have h := (f_X1_reach_l9_s yy_0 yy_1 yy_2 yy_3 yy_4 yy_5 yy_6 yy_7 yy_8 n x3_2 x2_2).symm.trans h
      have hP : va_P G.1 vwCl (wSYc G ya yy_0 yy_1 yy_2 yy_3 yy_4 yy_5 yy_6 yy_7 yy_8) H := hP
      have hD : va_D A (wSYc G ya yy_0 yy_1 yy_2 yy_3 yy_4 yy_5 yy_6 yy_7 yy_8) := hD
      have hl : lv_has ls 4 [(3, .int x3_2), (2, .int x2_2), (0, .ref (ya 0))] := hl
      refine lv_iload_n hx hb dX1_reach_9 rfl (lv_at hl 0 rfl) ?_
      refine lv_aload_n hx hb dX1_reach_10 rfl (lv_at hl 2 rfl) ?_
      refine va_get (D := G.1) (ci := 1) (v := .int yy_0) (C := RX1) (T := TX1) (N := 9) hx hb hts hinX1 hown hK hP 0 rfl rfl 0 (by decide) (hts (.fieldLink RX1 36 "LessonWeave$Syllabus" "count" "I") (by decide +kernel)) (fun _ h9 => h9) rfl dX1_reach_11 ?_
      refine lv_icmp_ge (tgt := 31) hx hb dX1_reach_14 (by decide) (fun c4 => ?_) (fun c4 => ?_)
      · have h := sp_t c4 h
        obtain rfl := sp_s h
        exact J2 _ _ hP hD hS _ (lv_sub hl [1] rfl)
      · have h := sp_f c4 h
        refine lv_iload_n hx hb dX1_reach_17 rfl (lv_at hl 1 rfl) ?_
        refine lv_aload_n hx hb dX1_reach_18 rfl (lv_at hl 2 rfl) ?_
        refine lv_iload_n hx hb dX1_reach_19 rfl (lv_at hl 1 rfl) ?_
        obtain ⟨o5, ho5, h⟩ := sp_b h
        refine xk_ci (va_runV (As := [.int x2_2]) (rest := [.int x2_2]) ⟨hx, hb, hml, hown, hts⟩ (c_X1_neededBy l G ya (yy_0, yy_1, yy_2, yy_3, yy_4, yy_5, yy_6, yy_7, yy_8) x2_2 o5 ho5 H.size) (cwV 1 hts gX1_reach_X1_neededBy rfl rfl rfl (by decide +kernel) ⟨Nat.le_of_ble_eq_true rfl, Nat.le_of_ble_eq_true rfl⟩) (xk_preV hK hNE (hP.sub (ws' := (wSYc G ya yy_0 yy_1 yy_2 yy_3 yy_4 yy_5 yy_6 yy_7 yy_8)) [0, 1, 2, 3, 4, 5, 6, 7, 8] rfl) (hD.sub (ws' := (wSYc G ya yy_0 yy_1 yy_2 yy_3 yy_4 yy_5 yy_6 yy_7 yy_8)) [0, 1, 2, 3, 4, 5, 6, 7, 8] (by decide) rfl) (ci := 1) rfl rfl) rfl rfl hl.1 rfl (lv_room (Nat.le_of_ble_eq_true rfl)) dX1_reach_20 ⟨Nat.le_of_ble_eq_true rfl, Nat.le_of_ble_eq_true rfl⟩) hP hD hS hA [0, 1, 2, 3, 4, 5, 6, 7, 8] [] [0, 1, 2, 3, 4, 5, 6, 7, 8] rfl rfl (by decide) (by decide) rfl (by decide) (fun H locs hP hD hS => ?_)
        have hP : va_P G.1 vwCl (wSYc G ya yy_0 yy_1 yy_2 yy_3 yy_4 yy_5 yy_6 yy_7 yy_8) H := hP
        have hD : va_D A (wSYc G ya yy_0 yy_1 yy_2 yy_3 yy_4 yy_5 yy_6 yy_7 yy_8) := hD
        refine lv_ior hx hb dX1_reach_23 ?_
        refine lv_istore_n (lv' := [(2, .int (x2_2 ||| o5)), (3, .int x3_2), (0, .ref (ya 0))]) hx hb dX1_reach_24 rfl hl (by decide) rfl (fun ls hl => ?_)
        refine lv_iinc (v := (x3_2 + (1 : Int32))) (lv' := [(3, .int (x3_2 + (1 : Int32))), (2, .int (x2_2 ||| o5)), (0, .ref (ya 0))]) hx hb dX1_reach_25 hl (k := 1) rfl rfl (by decide) rfl (fun ls hl => ?_)
        refine lv_goto (tgt := 9) hx hb dX1_reach_28 (by decide) ?_
        exact ih_2 ((x3_2 + (1 : Int32)), (x2_2 ||| o5)) h _ _ hP hD hS _ (lv_sub hl [0, 1, 2] rfl)
    · exact LL 300 ((1 : Int32), (yy_7 i1.toNatClampNeg)) h _ _ hP hD hS _ (lv_sub hl [0, 1, 2] rfl)
def f_X1_nextTaken_l5 (yy_0 : Int32) (yy_2 : xF) (yy_7 : xF) (i1 : Int32) (i2 : Int32) : Nat → Int32 → Int32 → Option (Int32)
  | 0, _, _ => none
  | k9 + 1, x4_1, x3_1 =>
    if yy_0 ≤ x4_1 then
      some x3_1
    else
      Option.bind (f_X2_has i1 x4_1) fun (o3 : Int32) =>
      if o3 = 0 then
        if x4_1 < 0 ∨ 12 ≤ x4_1.toNatClampNeg then none else
        Option.bind (f_X1_isCovered (yy_7 x4_1.toNatClampNeg) i1) fun (o6 : Int32) =>
        if o6 = 0 then
          f_X1_nextTaken_l5 yy_0 yy_2 yy_7 i1 i2 k9 (x4_1 + (1 : Int32)) x3_1
        else
          if (yy_2 x4_1.toNatClampNeg) = i2 then
            some x4_1
          else
            if x3_1 = ((-1) : Int32) then
              f_X1_nextTaken_l5 yy_0 yy_2 yy_7 i1 i2 k9 (x4_1 + (1 : Int32)) x4_1
            else
              f_X1_nextTaken_l5 yy_0 yy_2 yy_7 i1 i2 k9 (x4_1 + (1 : Int32)) x3_1
      else
        f_X1_nextTaken_l5 yy_0 yy_2 yy_7 i1 i2 k9 (x4_1 + (1 : Int32)) x3_1
theorem f_X1_nextTaken_l5_z (yy_0 : Int32) (yy_2 : xF) (yy_7 : xF) (i1 : Int32) (i2 : Int32) (x4_1 : Int32) (x3_1 : Int32) : f_X1_nextTaken_l5 yy_0 yy_2 yy_7 i1 i2 0 x4_1 x3_1 = none := rfl
theorem f_X1_nextTaken_l5_s (yy_0 : Int32) (yy_2 : xF) (yy_7 : xF) (i1 : Int32) (i2 : Int32) (k9 : Nat) (x4_1 : Int32) (x3_1 : Int32) : f_X1_nextTaken_l5 yy_0 yy_2 yy_7 i1 i2 (k9 + 1) x4_1 x3_1 =
    if yy_0 ≤ x4_1 then
      some x3_1
    else
      Option.bind (f_X2_has i1 x4_1) fun (o3 : Int32) =>
      if o3 = 0 then
        if x4_1 < 0 ∨ 12 ≤ x4_1.toNatClampNeg then none else
        Option.bind (f_X1_isCovered (yy_7 x4_1.toNatClampNeg) i1) fun (o6 : Int32) =>
        if o6 = 0 then
          f_X1_nextTaken_l5 yy_0 yy_2 yy_7 i1 i2 k9 (x4_1 + (1 : Int32)) x3_1
        else
          if (yy_2 x4_1.toNatClampNeg) = i2 then
            some x4_1
          else
            if x3_1 = ((-1) : Int32) then
              f_X1_nextTaken_l5 yy_0 yy_2 yy_7 i1 i2 k9 (x4_1 + (1 : Int32)) x4_1
            else
              f_X1_nextTaken_l5 yy_0 yy_2 yy_7 i1 i2 k9 (x4_1 + (1 : Int32)) x3_1
      else
        f_X1_nextTaken_l5 yy_0 yy_2 yy_7 i1 i2 k9 (x4_1 + (1 : Int32)) x3_1 := rfl
def f_X1_nextTaken (yy : xSY) (i1 : Int32) (i2 : Int32) : Option (Int32) :=
  f_X1_nextTaken_l5 yy.1 yy.2.2.1 yy.2.2.2.2.2.2.2.1 i1 i2 300 (0 : Int32) ((-1) : Int32)
theorem f_X1_nextTaken_e (yy_0 : Int32) (yy_1 : xF) (yy_2 : xF) (yy_3 : xF) (yy_4 : xF) (yy_5 : xF) (yy_6 : xF) (yy_7 : xF) (yy_8 : xF) (i1 : Int32) (i2 : Int32) : f_X1_nextTaken (yy_0, yy_1, yy_2, yy_3, yy_4, yy_5, yy_6, yy_7, yy_8) i1 i2 =
  f_X1_nextTaken_l5 yy_0 yy_2 yy_7 i1 i2 300 (0 : Int32) ((-1) : Int32) := rfl
set_option maxHeartbeats 4000000 in
set_option maxRecDepth 100000 in
theorem c_X1_nextTaken (l : Launch) (G : xG) (ya : (Nat → Nat)) (yy : xSY) (i1 : Int32) (i2 : Int32) (o : Int32) (h : f_X1_nextTaken yy i1 i2 = some o) : xk_CI l yX1_nextTaken wsX1_nextTaken ({ frames := 1, cells := 0, slots := 0, locals := 21 } : Room) 0 0 [.ref (ya 0), .int i1, .int i2] G (wSYc G ya yy.1 yy.2.1 yy.2.2.1 yy.2.2.2.1 yy.2.2.2.2.1 yy.2.2.2.2.2.1 yy.2.2.2.2.2.2.1 yy.2.2.2.2.2.2.2.1 yy.2.2.2.2.2.2.2.2) (wSYc G ya yy.1 yy.2.1 yy.2.2.1 yy.2.2.2.1 yy.2.2.2.2.1 yy.2.2.2.2.2.1 yy.2.2.2.2.2.2.1 yy.2.2.2.2.2.2.2.1 yy.2.2.2.2.2.2.2.2) o := by
  obtain ⟨yy_0, yy_1, yy_2, yy_3, yy_4, yy_5, yy_6, yy_7, yy_8⟩ := yy
  refine xk_CI.of (cc := cX1_nextTaken) (maxL := 5) (ret := (some .int)) (by decide) rfl (Nat.le_of_ble_eq_true rfl) ?_
  intro pr9 en9 s mm9 bl9 meth9 cd9 A ls H locs hx hb hr hml hts hown hlk hA hP hK hD hNE hS hl
  have hown : s.vm.findClass RX1 = some mm9.cls := hown
  have hl : lv_has ls 5 [(0, .ref (ya 0)), (1, .int i1), (2, .int i2)] := hl
  have hinX1 : ∀ w ∈ u_ws RX1 TX1 9, w ∈ wsX1_nextTaken := by decide +kernel
  have hP : va_P G.1 vwCl (wSYc G ya yy_0 yy_1 yy_2 yy_3 yy_4 yy_5 yy_6 yy_7 yy_8) H := hP
  have hD : va_D A (wSYc G ya yy_0 yy_1 yy_2 yy_3 yy_4 yy_5 yy_6 yy_7 yy_8) := hD
  have h := (f_X1_nextTaken_e yy_0 yy_1 yy_2 yy_3 yy_4 yy_5 yy_6 yy_7 yy_8 i1 i2).symm.trans h
  refine lv_iconst (v := ((-1) : Int32)) hx hb dX1_nextTaken_0 (by decide) ?_
  refine lv_istore_n (lv' := [(3, .int ((-1) : Int32)), (0, .ref (ya 0)), (1, .int i1), (2, .int i2)]) hx hb dX1_nextTaken_1 rfl hl (by decide) rfl (fun ls hl => ?_)
  refine lv_iconst (v := (0 : Int32)) hx hb dX1_nextTaken_2 (by decide) ?_
  refine lv_istore (lv' := [(4, .int (0 : Int32)), (3, .int ((-1) : Int32)), (0, .ref (ya 0)), (1, .int i1), (2, .int i2)]) hx hb dX1_nextTaken_3 hl (by decide) rfl (fun ls hl => ?_)
  refine xk_lp (α := Int32 × Int32) G A s.heap (fun a_1 => (wSYc G ya yy_0 yy_1 yy_2 yy_3 yy_4 yy_5 yy_6 yy_7 yy_8)) 5 (fun a_1 => [(4, .int a_1.1), (3, .int a_1.2), (0, .ref (ya 0)), (1, .int i1), (2, .int i2)]) 5 (fun n a_1 => f_X1_nextTaken_l5 yy_0 yy_2 yy_7 i1 i2 n a_1.1 a_1.2 = some o) (fun a_1 h => ?_) (fun n ih_1 a_1 h H locs hP hD hS ls hl => ?_) (fun LL => ?_)
  · exact sp_n ((f_X1_nextTaken_l5_z _ _ _ _ _ _ _).symm.trans h)
  · obtain ⟨x4_1, x3_1⟩ := a_1
    have h := (f_X1_nextTaken_l5_s yy_0 yy_2 yy_7 i1 i2 n x4_1 x3_1).symm.trans h
    have hP : va_P G.1 vwCl (wSYc G ya yy_0 yy_1 yy_2 yy_3 yy_4 yy_5 yy_6 yy_7 yy_8) H := hP
    have hD : va_D A (wSYc G ya yy_0 yy_1 yy_2 yy_3 yy_4 yy_5 yy_6 yy_7 yy_8) := hD
    have hl : lv_has ls 5 [(4, .int x4_1), (3, .int x3_1), (0, .ref (ya 0)), (1, .int i1), (2, .int i2)] := hl
    refine lv_iload hx hb dX1_nextTaken_5 (lv_at hl 0 rfl) ?_
    refine lv_aload_n hx hb dX1_nextTaken_7 rfl (lv_at hl 2 rfl) ?_
    refine va_get (D := G.1) (ci := 1) (v := .int yy_0) (C := RX1) (T := TX1) (N := 9) hx hb hts hinX1 hown hK hP 0 rfl rfl 0 (by decide) (hts (.fieldLink RX1 36 "LessonWeave$Syllabus" "count" "I") (by decide +kernel)) (fun _ h9 => h9) rfl dX1_nextTaken_8 ?_
    refine lv_icmp_ge (tgt := 68) hx hb dX1_nextTaken_11 (by decide) (fun c2 => ?_) (fun c2 => ?_)
    · have h := sp_t c2 h
      refine lv_iload_n hx hb dX1_nextTaken_68 rfl (lv_at hl 1 rfl) ?_
      obtain rfl := sp_s h
      exact xk_reI hx hb hr hlk hP hD hS rfl dX1_nextTaken_69
    · have h := sp_f c2 h
      refine lv_iload_n hx hb dX1_nextTaken_14 rfl (lv_at hl 3 rfl) ?_
      refine lv_iload hx hb dX1_nextTaken_15 (lv_at hl 0 rfl) ?_
      obtain ⟨o3, ho3, h⟩ := sp_b h
      refine xk_ci (va_runSN (As := [.int i1, .int x4_1]) (rest := []) ⟨hx, hb, hml, hown, hts⟩ (c_X2_has l G i1 x4_1 o3 ho3 H.size) ⟨va_cnB 2 hts gX1_nextTaken_X2_has_n47 rfl rfl rfl (hNE.2.2.2.2.2.2.2.2.2.2.2.2.2.2.2.2.2.2) (hts (.initialized RX2) (by decide +kernel)) (by decide +kernel) ⟨Nat.le_of_ble_eq_true rfl, Nat.le_of_ble_eq_true rfl⟩, hts (.static yX2_has) (by decide +kernel), trivial⟩ (xk_preS hK hNE (hP.sub (ws' := []) [] rfl) (hD.sub (ws' := []) [] (by decide) rfl)) rfl rfl hl.1 rfl (lv_room (Nat.le_of_ble_eq_true rfl)) dX1_nextTaken_17 ⟨Nat.le_of_ble_eq_true rfl, Nat.le_of_ble_eq_true rfl⟩) hP hD hS hA [] [0, 1, 2, 3, 4, 5, 6, 7, 8] [0, 1, 2, 3, 4, 5, 6, 7, 8] rfl rfl (by decide) (by decide) rfl (by decide) (fun H locs hP hD hS => ?_)
      have hP : va_P G.1 vwCl (wSYc G ya yy_0 yy_1 yy_2 yy_3 yy_4 yy_5 yy_6 yy_7 yy_8) H := hP
      have hD : va_D A (wSYc G ya yy_0 yy_1 yy_2 yy_3 yy_4 yy_5 yy_6 yy_7 yy_8) := hD
      refine lv_if_ne (tgt := 62) hx hb dX1_nextTaken_20 (by decide) (fun c4 => ?_) (fun c4 => ?_)
      · have h := sp_f c4 h
        refine lv_iinc (v := (x4_1 + (1 : Int32))) (lv' := [(4, .int (x4_1 + (1 : Int32))), (3, .int x3_1), (0, .ref (ya 0)), (1, .int i1), (2, .int i2)]) hx hb dX1_nextTaken_62 hl (k := 0) rfl rfl (by decide) rfl (fun ls hl => ?_)
        refine lv_goto (tgt := 5) hx hb dX1_nextTaken_65 (by decide) ?_
        exact ih_1 ((x4_1 + (1 : Int32)), x3_1) h _ _ hP hD hS _ (lv_sub hl [0, 1, 2, 3, 4] rfl)
      · have h := sp_t c4 h
        refine lv_aload_n hx hb dX1_nextTaken_23 rfl (lv_at hl 2 rfl) ?_
        refine va_get (D := G.1) (ci := 1) (v := .ref (ya 7)) (C := RX1) (T := TX1) (N := 9) hx hb hts hinX1 hown hK hP 0 rfl rfl 7 (by decide) (hts (.fieldLink RX1 30 "LessonWeave$Syllabus" "needs" "[I") (by decide +kernel)) (fun _ h9 => h9) rfl dX1_nextTaken_24 ?_
        refine lv_iload hx hb dX1_nextTaken_27 (lv_at hl 0 rfl) ?_
        obtain ⟨hin5, h⟩ := sp_g h
        refine va_iald hx hb hK hP 7 0 rfl rfl hin5 dX1_nextTaken_29 ?_
        refine lv_iload_n hx hb dX1_nextTaken_30 rfl (lv_at hl 3 rfl) ?_
        obtain ⟨o6, ho6, h⟩ := sp_b h
        refine xk_ci (va_runS (As := [.int (yy_7 x4_1.toNatClampNeg), .int i1]) (rest := []) ⟨hx, hb, hml, hown, hts⟩ (c_X1_isCovered l G (yy_7 x4_1.toNatClampNeg) i1 o6 ho6 H.size) (va_cwS 2 hts gX1_nextTaken_X1_isCovered rfl rfl rfl (by decide +kernel) ⟨Nat.le_of_ble_eq_true rfl, Nat.le_of_ble_eq_true rfl⟩) (xk_preS hK hNE (hP.sub (ws' := []) [] rfl) (hD.sub (ws' := []) [] (by decide) rfl)) rfl rfl hl.1 rfl (lv_room (Nat.le_of_ble_eq_true rfl)) dX1_nextTaken_31 ⟨Nat.le_of_ble_eq_true rfl, Nat.le_of_ble_eq_true rfl⟩) hP hD hS hA [] [0, 1, 2, 3, 4, 5, 6, 7, 8] [0, 1, 2, 3, 4, 5, 6, 7, 8] rfl rfl (by decide) (by decide) rfl (by decide) (fun H locs hP hD hS => ?_)
        have hP : va_P G.1 vwCl (wSYc G ya yy_0 yy_1 yy_2 yy_3 yy_4 yy_5 yy_6 yy_7 yy_8) H := hP
        have hD : va_D A (wSYc G ya yy_0 yy_1 yy_2 yy_3 yy_4 yy_5 yy_6 yy_7 yy_8) := hD
        refine lv_if_ne (tgt := 40) hx hb dX1_nextTaken_34 (by decide) (fun c7 => ?_) (fun c7 => ?_)
        · have h := sp_f c7 h
          refine lv_aload_n hx hb dX1_nextTaken_40 rfl (lv_at hl 2 rfl) ?_
          refine va_get (D := G.1) (ci := 1) (v := .ref (ya 2)) (C := RX1) (T := TX1) (N := 9) hx hb hts hinX1 hown hK hP 0 rfl rfl 2 (by decide) (hts (.fieldLink RX1 15 "LessonWeave$Syllabus" "kind" "[I") (by decide +kernel)) (fun _ h9 => h9) rfl dX1_nextTaken_41 ?_
          refine lv_iload hx hb dX1_nextTaken_44 (lv_at hl 0 rfl) ?_
          refine va_iald hx hb hK hP 2 0 rfl rfl hin5 dX1_nextTaken_46 ?_
          refine lv_iload_n hx hb dX1_nextTaken_47 rfl (lv_at hl 4 rfl) ?_
          refine lv_icmp_ne (tgt := 54) hx hb dX1_nextTaken_48 (by decide) (fun c8 => ?_) (fun c8 => ?_)
          · have h := sp_f c8 h
            refine lv_iload_n hx hb dX1_nextTaken_54 rfl (lv_at hl 1 rfl) ?_
            refine lv_iconst (v := ((-1) : Int32)) hx hb dX1_nextTaken_55 (by decide) ?_
            refine lv_icmp_ne (tgt := 62) hx hb dX1_nextTaken_56 (by decide) (fun c9 => ?_) (fun c9 => ?_)
            · have h := sp_f c9 h
              refine lv_iinc (v := (x4_1 + (1 : Int32))) (lv' := [(4, .int (x4_1 + (1 : Int32))), (3, .int x3_1), (0, .ref (ya 0)), (1, .int i1), (2, .int i2)]) hx hb dX1_nextTaken_62 hl (k := 0) rfl rfl (by decide) rfl (fun ls hl => ?_)
              refine lv_goto (tgt := 5) hx hb dX1_nextTaken_65 (by decide) ?_
              exact ih_1 ((x4_1 + (1 : Int32)), x3_1) h _ _ hP hD hS _ (lv_sub hl [0, 1, 2, 3, 4] rfl)
            · have h := sp_t c9 h
              refine lv_iload hx hb dX1_nextTaken_59 (lv_at hl 0 rfl) ?_
              refine lv_istore_n (lv' := [(3, .int x4_1), (4, .int x4_1), (0, .ref (ya 0)), (1, .int i1), (2, .int i2)]) hx hb dX1_nextTaken_61 rfl hl (by decide) rfl (fun ls hl => ?_)
              refine lv_iinc (v := (x4_1 + (1 : Int32))) (lv' := [(4, .int (x4_1 + (1 : Int32))), (3, .int x4_1), (0, .ref (ya 0)), (1, .int i1), (2, .int i2)]) hx hb dX1_nextTaken_62 hl (k := 1) rfl rfl (by decide) rfl (fun ls hl => ?_)
              refine lv_goto (tgt := 5) hx hb dX1_nextTaken_65 (by decide) ?_
              exact ih_1 ((x4_1 + (1 : Int32)), x4_1) h _ _ hP hD hS _ (lv_sub hl [0, 1, 2, 3, 4] rfl)
          · have h := sp_t c8 h
            refine lv_iload hx hb dX1_nextTaken_51 (lv_at hl 0 rfl) ?_
            obtain rfl := sp_s h
            exact xk_reI hx hb hr hlk hP hD hS rfl dX1_nextTaken_53
        · have h := sp_t c7 h
          refine lv_goto (tgt := 62) hx hb dX1_nextTaken_37 (by decide) ?_
          refine lv_iinc (v := (x4_1 + (1 : Int32))) (lv' := [(4, .int (x4_1 + (1 : Int32))), (3, .int x3_1), (0, .ref (ya 0)), (1, .int i1), (2, .int i2)]) hx hb dX1_nextTaken_62 hl (k := 0) rfl rfl (by decide) rfl (fun ls hl => ?_)
          refine lv_goto (tgt := 5) hx hb dX1_nextTaken_65 (by decide) ?_
          exact ih_1 ((x4_1 + (1 : Int32)), x3_1) h _ _ hP hD hS _ (lv_sub hl [0, 1, 2, 3, 4] rfl)
  · exact LL 300 ((0 : Int32), ((-1) : Int32)) h _ _ hP hD hS _ (lv_sub hl [0, 1, 2, 3, 4] rfl)
def f_X1_putInOrder_l6 (yy_0 : Int32) (yy_1 : xF) (yy_2 : xF) (yy_3 : xF) (yy_4 : xF) (yy_5 : xF) (yy_6 : xF) (yy_7 : xF) : Nat → Int32 → Int32 → Int32 → xF → Option (xF)
  | 0, _, _, _, _ => none
  | k9 + 1, x3_1, x2_1, x1_1, yy8_1 =>
    if yy_0 ≤ x3_1 then
      some yy8_1
    else
      Option.bind (f_X1_nextTaken (yy_0, yy_1, yy_2, yy_3, yy_4, yy_5, yy_6, yy_7, yy8_1) x1_1 x2_1) fun (o3 : Int32) =>
      if o3 = ((-1) : Int32) then
        some yy8_1
      else
        if x3_1 < 0 ∨ 12 ≤ x3_1.toNatClampNeg then none else
        if o3 < 0 ∨ 12 ≤ o3.toNatClampNeg then none else
        f_X1_putInOrder_l6 yy_0 yy_1 yy_2 yy_3 yy_4 yy_5 yy_6 yy_7 k9 (x3_1 + (1 : Int32)) (yy_2 o3.toNatClampNeg) (x1_1 ||| ((1 : Int32) <<< (o3 &&& 31))) (upd yy8_1 x3_1.toNatClampNeg o3)
theorem f_X1_putInOrder_l6_z (yy_0 : Int32) (yy_1 : xF) (yy_2 : xF) (yy_3 : xF) (yy_4 : xF) (yy_5 : xF) (yy_6 : xF) (yy_7 : xF) (x3_1 : Int32) (x2_1 : Int32) (x1_1 : Int32) (yy8_1 : xF) : f_X1_putInOrder_l6 yy_0 yy_1 yy_2 yy_3 yy_4 yy_5 yy_6 yy_7 0 x3_1 x2_1 x1_1 yy8_1 = none := rfl
theorem f_X1_putInOrder_l6_s (yy_0 : Int32) (yy_1 : xF) (yy_2 : xF) (yy_3 : xF) (yy_4 : xF) (yy_5 : xF) (yy_6 : xF) (yy_7 : xF) (k9 : Nat) (x3_1 : Int32) (x2_1 : Int32) (x1_1 : Int32) (yy8_1 : xF) : f_X1_putInOrder_l6 yy_0 yy_1 yy_2 yy_3 yy_4 yy_5 yy_6 yy_7 (k9 + 1) x3_1 x2_1 x1_1 yy8_1 =
    if yy_0 ≤ x3_1 then
      some yy8_1
    else
      Option.bind (f_X1_nextTaken (yy_0, yy_1, yy_2, yy_3, yy_4, yy_5, yy_6, yy_7, yy8_1) x1_1 x2_1) fun (o3 : Int32) =>
      if o3 = ((-1) : Int32) then
        some yy8_1
      else
        if x3_1 < 0 ∨ 12 ≤ x3_1.toNatClampNeg then none else
        if o3 < 0 ∨ 12 ≤ o3.toNatClampNeg then none else
        f_X1_putInOrder_l6 yy_0 yy_1 yy_2 yy_3 yy_4 yy_5 yy_6 yy_7 k9 (x3_1 + (1 : Int32)) (yy_2 o3.toNatClampNeg) (x1_1 ||| ((1 : Int32) <<< (o3 &&& 31))) (upd yy8_1 x3_1.toNatClampNeg o3) := rfl
def f_X1_putInOrder (yy : xSY) : Option (xF) :=
  f_X1_putInOrder_l6 yy.1 yy.2.1 yy.2.2.1 yy.2.2.2.1 yy.2.2.2.2.1 yy.2.2.2.2.2.1 yy.2.2.2.2.2.2.1 yy.2.2.2.2.2.2.2.1 300 (0 : Int32) ((-1) : Int32) (0 : Int32) yy.2.2.2.2.2.2.2.2
theorem f_X1_putInOrder_e (yy_0 : Int32) (yy_1 : xF) (yy_2 : xF) (yy_3 : xF) (yy_4 : xF) (yy_5 : xF) (yy_6 : xF) (yy_7 : xF) (yy_8 : xF) : f_X1_putInOrder (yy_0, yy_1, yy_2, yy_3, yy_4, yy_5, yy_6, yy_7, yy_8) =
  f_X1_putInOrder_l6 yy_0 yy_1 yy_2 yy_3 yy_4 yy_5 yy_6 yy_7 300 (0 : Int32) ((-1) : Int32) (0 : Int32) yy_8 := rfl
set_option maxHeartbeats 4000000 in
set_option maxRecDepth 100000 in
theorem c_X1_putInOrder (l : Launch) (G : xG) (ya : (Nat → Nat)) (yy : xSY) (o : xF) (h : f_X1_putInOrder yy = some o) : xk_CV l yX1_putInOrder wsX1_putInOrder ({ frames := 2, cells := 0, slots := 0, locals := 45 } : Room) 0 0 [.ref (ya 0)] G (wSYc G ya yy.1 yy.2.1 yy.2.2.1 yy.2.2.2.1 yy.2.2.2.2.1 yy.2.2.2.2.2.1 yy.2.2.2.2.2.2.1 yy.2.2.2.2.2.2.2.1 yy.2.2.2.2.2.2.2.2) (wSYc G ya yy.1 yy.2.1 yy.2.2.1 yy.2.2.2.1 yy.2.2.2.2.1 yy.2.2.2.2.2.1 yy.2.2.2.2.2.2.1 yy.2.2.2.2.2.2.2.1 o) := by
  obtain ⟨yy_0, yy_1, yy_2, yy_3, yy_4, yy_5, yy_6, yy_7, yy_8⟩ := yy
  refine xk_CV.of (cc := cX1_putInOrder) (maxL := 5) (ret := none) (by decide) rfl (Nat.le_of_ble_eq_true rfl) ?_
  intro pr9 en9 s mm9 bl9 meth9 cd9 A ls H locs hx hb hr hml hts hown hlk hA hP hK hD hNE hS hl
  have hown : s.vm.findClass RX1 = some mm9.cls := hown
  have hl : lv_has ls 5 [(0, .ref (ya 0))] := hl
  have hinX1 : ∀ w ∈ u_ws RX1 TX1 9, w ∈ wsX1_putInOrder := by decide +kernel
  have hP : va_P G.1 vwCl (wSYc G ya yy_0 yy_1 yy_2 yy_3 yy_4 yy_5 yy_6 yy_7 yy_8) H := hP
  have hD : va_D A (wSYc G ya yy_0 yy_1 yy_2 yy_3 yy_4 yy_5 yy_6 yy_7 yy_8) := hD
  have h := (f_X1_putInOrder_e yy_0 yy_1 yy_2 yy_3 yy_4 yy_5 yy_6 yy_7 yy_8).symm.trans h
  refine lv_iconst (v := (0 : Int32)) hx hb dX1_putInOrder_0 (by decide) ?_
  refine lv_istore_n (lv' := [(1, .int (0 : Int32)), (0, .ref (ya 0))]) hx hb dX1_putInOrder_1 rfl hl (by decide) rfl (fun ls hl => ?_)
  refine lv_iconst (v := ((-1) : Int32)) hx hb dX1_putInOrder_2 (by decide) ?_
  refine lv_istore_n (lv' := [(2, .int ((-1) : Int32)), (1, .int (0 : Int32)), (0, .ref (ya 0))]) hx hb dX1_putInOrder_3 rfl hl (by decide) rfl (fun ls hl => ?_)
  refine lv_iconst (v := (0 : Int32)) hx hb dX1_putInOrder_4 (by decide) ?_
  refine lv_istore_n (lv' := [(3, .int (0 : Int32)), (2, .int ((-1) : Int32)), (1, .int (0 : Int32)), (0, .ref (ya 0))]) hx hb dX1_putInOrder_5 rfl hl (by decide) rfl (fun ls hl => ?_)
  refine xk_lp (α := Int32 × Int32 × Int32 × xF) G A s.heap (fun a_1 => (wSYc G ya yy_0 yy_1 yy_2 yy_3 yy_4 yy_5 yy_6 yy_7 a_1.2.2.2)) 5 (fun a_1 => [(3, .int a_1.1), (2, .int a_1.2.1), (1, .int a_1.2.2.1), (0, .ref (ya 0))]) 6 (fun n a_1 => f_X1_putInOrder_l6 yy_0 yy_1 yy_2 yy_3 yy_4 yy_5 yy_6 yy_7 n a_1.1 a_1.2.1 a_1.2.2.1 a_1.2.2.2 = some o) (fun a_1 h => ?_) (fun n ih_1 a_1 h H locs hP hD hS ls hl => ?_) (fun LL => ?_)
  · exact sp_n ((f_X1_putInOrder_l6_z _ _ _ _ _ _ _ _ _ _ _ _).symm.trans h)
  · obtain ⟨x3_1, x2_1, x1_1, yy8_1⟩ := a_1
    have h := (f_X1_putInOrder_l6_s yy_0 yy_1 yy_2 yy_3 yy_4 yy_5 yy_6 yy_7 n x3_1 x2_1 x1_1 yy8_1).symm.trans h
    have hP : va_P G.1 vwCl (wSYc G ya yy_0 yy_1 yy_2 yy_3 yy_4 yy_5 yy_6 yy_7 yy8_1) H := hP
    have hD : va_D A (wSYc G ya yy_0 yy_1 yy_2 yy_3 yy_4 yy_5 yy_6 yy_7 yy8_1) := hD
    have hl : lv_has ls 5 [(3, .int x3_1), (2, .int x2_1), (1, .int x1_1), (0, .ref (ya 0))] := hl
    refine lv_iload_n hx hb dX1_putInOrder_6 rfl (lv_at hl 0 rfl) ?_
    refine lv_aload_n hx hb dX1_putInOrder_7 rfl (lv_at hl 3 rfl) ?_
    refine va_get (D := G.1) (ci := 1) (v := .int yy_0) (C := RX1) (T := TX1) (N := 9) hx hb hts hinX1 hown hK hP 0 rfl rfl 0 (by decide) (hts (.fieldLink RX1 36 "LessonWeave$Syllabus" "count" "I") (by decide +kernel)) (fun _ h9 => h9) rfl dX1_putInOrder_8 ?_
    refine lv_icmp_ge (tgt := 58) hx hb dX1_putInOrder_11 (by decide) (fun c2 => ?_) (fun c2 => ?_)
    · have h := sp_t c2 h
      obtain rfl := sp_s h
      exact xk_reV hx hb hr hlk hP hD hS dX1_putInOrder_58
    · have h := sp_f c2 h
      refine lv_aload_n hx hb dX1_putInOrder_14 rfl (lv_at hl 3 rfl) ?_
      refine lv_iload_n hx hb dX1_putInOrder_15 rfl (lv_at hl 2 rfl) ?_
      refine lv_iload_n hx hb dX1_putInOrder_16 rfl (lv_at hl 1 rfl) ?_
      obtain ⟨o3, ho3, h⟩ := sp_b h
      refine xk_ci (va_runV (As := [.int x1_1, .int x2_1]) (rest := []) ⟨hx, hb, hml, hown, hts⟩ (c_X1_nextTaken l G ya (yy_0, yy_1, yy_2, yy_3, yy_4, yy_5, yy_6, yy_7, yy8_1) x1_1 x2_1 o3 ho3 H.size) (cwV 2 hts gX1_putInOrder_X1_nextTaken rfl rfl rfl (by decide +kernel) ⟨Nat.le_of_ble_eq_true rfl, Nat.le_of_ble_eq_true rfl⟩) (xk_preV hK hNE (hP.sub (ws' := (wSYc G ya yy_0 yy_1 yy_2 yy_3 yy_4 yy_5 yy_6 yy_7 yy8_1)) [0, 1, 2, 3, 4, 5, 6, 7, 8] rfl) (hD.sub (ws' := (wSYc G ya yy_0 yy_1 yy_2 yy_3 yy_4 yy_5 yy_6 yy_7 yy8_1)) [0, 1, 2, 3, 4, 5, 6, 7, 8] (by decide) rfl) (ci := 1) rfl rfl) rfl rfl hl.1 rfl (lv_room (Nat.le_of_ble_eq_true rfl)) dX1_putInOrder_17 ⟨Nat.le_of_ble_eq_true rfl, Nat.le_of_ble_eq_true rfl⟩) hP hD hS hA [0, 1, 2, 3, 4, 5, 6, 7, 8] [] [0, 1, 2, 3, 4, 5, 6, 7, 8] rfl rfl (by decide) (by decide) rfl (by decide) (fun H locs hP hD hS => ?_)
      have hP : va_P G.1 vwCl (wSYc G ya yy_0 yy_1 yy_2 yy_3 yy_4 yy_5 yy_6 yy_7 yy8_1) H := hP
      have hD : va_D A (wSYc G ya yy_0 yy_1 yy_2 yy_3 yy_4 yy_5 yy_6 yy_7 yy8_1) := hD
      refine lv_istore (lv' := [(4, .int o3), (3, .int x3_1), (2, .int x2_1), (1, .int x1_1), (0, .ref (ya 0))]) hx hb dX1_putInOrder_20 hl (by decide) rfl (fun ls hl => ?_)
      refine lv_iload hx hb dX1_putInOrder_22 (lv_at hl 0 rfl) ?_
      refine lv_iconst (v := ((-1) : Int32)) hx hb dX1_putInOrder_24 (by decide) ?_
      refine lv_icmp_ne (tgt := 29) hx hb dX1_putInOrder_25 (by decide) (fun c4 => ?_) (fun c4 => ?_)
      · have h := sp_f c4 h
        refine lv_aload_n hx hb dX1_putInOrder_29 rfl (lv_at hl 4 rfl) ?_
        refine va_get (D := G.1) (ci := 1) (v := .ref (ya 8)) (C := RX1) (T := TX1) (N := 9) hx hb hts hinX1 hown hK hP 0 rfl rfl 8 (by decide) (hts (.fieldLink RX1 33 "LessonWeave$Syllabus" "order" "[I") (by decide +kernel)) (fun _ h9 => h9) rfl dX1_putInOrder_30 ?_
        refine lv_iload_n hx hb dX1_putInOrder_33 rfl (lv_at hl 1 rfl) ?_
        refine lv_iload hx hb dX1_putInOrder_34 (lv_at hl 0 rfl) ?_
        obtain ⟨hin5, h⟩ := sp_g h
        refine va_iast hx hb hK hP hD hS 8 0 rfl rfl hin5 dX1_putInOrder_36 (fun H locs hP hD hS => ?_)
        have hP : va_P G.1 vwCl (wSYc G ya yy_0 yy_1 yy_2 yy_3 yy_4 yy_5 yy_6 yy_7 (upd yy8_1 x3_1.toNatClampNeg o3)) H := hP
        have hD : va_D A (wSYc G ya yy_0 yy_1 yy_2 yy_3 yy_4 yy_5 yy_6 yy_7 (upd yy8_1 x3_1.toNatClampNeg o3)) := hD
        refine lv_iload_n hx hb dX1_putInOrder_37 rfl (lv_at hl 3 rfl) ?_
        refine lv_iconst (v := (1 : Int32)) hx hb dX1_putInOrder_38 (by decide) ?_
        refine lv_iload hx hb dX1_putInOrder_39 (lv_at hl 0 rfl) ?_
        refine lv_ishl hx hb dX1_putInOrder_41 ?_
        refine lv_ior hx hb dX1_putInOrder_42 ?_
        refine lv_istore_n (lv' := [(1, .int (x1_1 ||| ((1 : Int32) <<< (o3 &&& 31)))), (4, .int o3), (3, .int x3_1), (2, .int x2_1), (0, .ref (ya 0))]) hx hb dX1_putInOrder_43 rfl hl (by decide) rfl (fun ls hl => ?_)
        refine lv_aload_n hx hb dX1_putInOrder_44 rfl (lv_at hl 4 rfl) ?_
        refine va_get (D := G.1) (ci := 1) (v := .ref (ya 2)) (C := RX1) (T := TX1) (N := 9) hx hb hts hinX1 hown hK hP 0 rfl rfl 2 (by decide) (hts (.fieldLink RX1 15 "LessonWeave$Syllabus" "kind" "[I") (by decide +kernel)) (fun _ h9 => h9) rfl dX1_putInOrder_45 ?_
        refine lv_iload hx hb dX1_putInOrder_48 (lv_at hl 1 rfl) ?_
        obtain ⟨hin6, h⟩ := sp_g h
        refine va_iald hx hb hK hP 2 0 rfl rfl hin6 dX1_putInOrder_50 ?_
        refine lv_istore_n (lv' := [(2, .int (yy_2 o3.toNatClampNeg)), (1, .int (x1_1 ||| ((1 : Int32) <<< (o3 &&& 31)))), (4, .int o3), (3, .int x3_1), (0, .ref (ya 0))]) hx hb dX1_putInOrder_51 rfl hl (by decide) rfl (fun ls hl => ?_)
        refine lv_iinc (v := (x3_1 + (1 : Int32))) (lv' := [(3, .int (x3_1 + (1 : Int32))), (2, .int (yy_2 o3.toNatClampNeg)), (1, .int (x1_1 ||| ((1 : Int32) <<< (o3 &&& 31)))), (4, .int o3), (0, .ref (ya 0))]) hx hb dX1_putInOrder_52 hl (k := 3) rfl rfl (by decide) rfl (fun ls hl => ?_)
        refine lv_goto (tgt := 6) hx hb dX1_putInOrder_55 (by decide) ?_
        exact ih_1 ((x3_1 + (1 : Int32)), (yy_2 o3.toNatClampNeg), (x1_1 ||| ((1 : Int32) <<< (o3 &&& 31))), (upd yy8_1 x3_1.toNatClampNeg o3)) h _ _ hP hD hS _ (lv_sub hl [0, 1, 2, 4] rfl)
      · have h := sp_t c4 h
        obtain rfl := sp_s h
        exact xk_reV hx hb hr hlk hP hD hS dX1_putInOrder_28
  · exact LL 300 ((0 : Int32), ((-1) : Int32), (0 : Int32), yy_8) h _ _ hP hD hS _ (lv_sub hl [0, 1, 2, 3] rfl)
def f_X1_add (yy : xSY) (i1 : Int32) (i2 : Int32) (i3 : Int32) (i4 : Int32) : Option (Int32 × Int32 × xF × xF × xF × xF × xF × xF) :=
  if yy.1 < 0 ∨ 12 ≤ yy.1.toNatClampNeg then none else
  Option.bind (f_X1_putInOrder ((yy.1 + (1 : Int32)), (upd yy.2.1 yy.1.toNatClampNeg i1), (upd yy.2.2.1 yy.1.toNatClampNeg i2), (upd yy.2.2.2.1 yy.1.toNatClampNeg i3), (upd yy.2.2.2.2.1 yy.1.toNatClampNeg i4), yy.2.2.2.2.2.1, (upd yy.2.2.2.2.2.2.1 yy.1.toNatClampNeg (1 : Int32)), yy.2.2.2.2.2.2.2.1, yy.2.2.2.2.2.2.2.2)) fun (o2 : xF) =>
  some (yy.1, (yy.1 + (1 : Int32)), (upd yy.2.1 yy.1.toNatClampNeg i1), (upd yy.2.2.1 yy.1.toNatClampNeg i2), (upd yy.2.2.2.1 yy.1.toNatClampNeg i3), (upd yy.2.2.2.2.1 yy.1.toNatClampNeg i4), (upd yy.2.2.2.2.2.2.1 yy.1.toNatClampNeg (1 : Int32)), o2)
theorem f_X1_add_e (yy_0 : Int32) (yy_1 : xF) (yy_2 : xF) (yy_3 : xF) (yy_4 : xF) (yy_5 : xF) (yy_6 : xF) (yy_7 : xF) (yy_8 : xF) (i1 : Int32) (i2 : Int32) (i3 : Int32) (i4 : Int32) : f_X1_add (yy_0, yy_1, yy_2, yy_3, yy_4, yy_5, yy_6, yy_7, yy_8) i1 i2 i3 i4 =
  if yy_0 < 0 ∨ 12 ≤ yy_0.toNatClampNeg then none else
  Option.bind (f_X1_putInOrder ((yy_0 + (1 : Int32)), (upd yy_1 yy_0.toNatClampNeg i1), (upd yy_2 yy_0.toNatClampNeg i2), (upd yy_3 yy_0.toNatClampNeg i3), (upd yy_4 yy_0.toNatClampNeg i4), yy_5, (upd yy_6 yy_0.toNatClampNeg (1 : Int32)), yy_7, yy_8)) fun (o2 : xF) =>
  some (yy_0, (yy_0 + (1 : Int32)), (upd yy_1 yy_0.toNatClampNeg i1), (upd yy_2 yy_0.toNatClampNeg i2), (upd yy_3 yy_0.toNatClampNeg i3), (upd yy_4 yy_0.toNatClampNeg i4), (upd yy_6 yy_0.toNatClampNeg (1 : Int32)), o2) := rfl
set_option maxHeartbeats 4000000 in
set_option maxRecDepth 100000 in
theorem c_X1_add (l : Launch) (G : xG) (ya : (Nat → Nat)) (yy : xSY) (i1 : Int32) (i2 : Int32) (i3 : Int32) (i4 : Int32) (o : Int32 × Int32 × xF × xF × xF × xF × xF × xF) (h : f_X1_add yy i1 i2 i3 i4 = some o) : xk_CI l yX1_add wsX1_add ({ frames := 3, cells := 0, slots := 0, locals := 69 } : Room) 0 0 [.ref (ya 0), .int i1, .int i2, .int i3, .int i4] G (wSYc G ya yy.1 yy.2.1 yy.2.2.1 yy.2.2.2.1 yy.2.2.2.2.1 yy.2.2.2.2.2.1 yy.2.2.2.2.2.2.1 yy.2.2.2.2.2.2.2.1 yy.2.2.2.2.2.2.2.2) (wSYc G ya o.2.1 o.2.2.1 o.2.2.2.1 o.2.2.2.2.1 o.2.2.2.2.2.1 yy.2.2.2.2.2.1 o.2.2.2.2.2.2.1 yy.2.2.2.2.2.2.2.1 o.2.2.2.2.2.2.2) o.1 := by
  obtain ⟨yy_0, yy_1, yy_2, yy_3, yy_4, yy_5, yy_6, yy_7, yy_8⟩ := yy
  refine xk_CI.of (cc := cX1_add) (maxL := 6) (ret := (some .int)) (by decide) rfl (Nat.le_of_ble_eq_true rfl) ?_
  intro pr9 en9 s mm9 bl9 meth9 cd9 A ls H locs hx hb hr hml hts hown hlk hA hP hK hD hNE hS hl
  have hown : s.vm.findClass RX1 = some mm9.cls := hown
  have hl : lv_has ls 6 [(0, .ref (ya 0)), (1, .int i1), (2, .int i2), (3, .int i3), (4, .int i4)] := hl
  have hinX1 : ∀ w ∈ u_ws RX1 TX1 9, w ∈ wsX1_add := by decide +kernel
  have hP : va_P G.1 vwCl (wSYc G ya yy_0 yy_1 yy_2 yy_3 yy_4 yy_5 yy_6 yy_7 yy_8) H := hP
  have hD : va_D A (wSYc G ya yy_0 yy_1 yy_2 yy_3 yy_4 yy_5 yy_6 yy_7 yy_8) := hD
  have h := (f_X1_add_e yy_0 yy_1 yy_2 yy_3 yy_4 yy_5 yy_6 yy_7 yy_8 i1 i2 i3 i4).symm.trans h
  refine lv_aload_n hx hb dX1_add_0 rfl (lv_at hl 0 rfl) ?_
  refine va_get (D := G.1) (ci := 1) (v := .int yy_0) (C := RX1) (T := TX1) (N := 9) hx hb hts hinX1 hown hK hP 0 rfl rfl 0 (by decide) (hts (.fieldLink RX1 36 "LessonWeave$Syllabus" "count" "I") (by decide +kernel)) (fun _ h9 => h9) rfl dX1_add_1 ?_
  refine lv_istore (lv' := [(5, .int yy_0), (0, .ref (ya 0)), (1, .int i1), (2, .int i2), (3, .int i3), (4, .int i4)]) hx hb dX1_add_4 hl (by decide) rfl (fun ls hl => ?_)
  refine lv_aload_n hx hb dX1_add_6 rfl (lv_at hl 1 rfl) ?_
  refine va_get (D := G.1) (ci := 1) (v := .ref (ya 1)) (C := RX1) (T := TX1) (N := 9) hx hb hts hinX1 hown hK hP 0 rfl rfl 1 (by decide) (hts (.fieldLink RX1 9 "LessonWeave$Syllabus" "lessons" "[I") (by decide +kernel)) (fun _ h9 => h9) rfl dX1_add_7 ?_
  refine lv_iload hx hb dX1_add_10 (lv_at hl 0 rfl) ?_
  refine lv_iload_n hx hb dX1_add_12 rfl (lv_at hl 2 rfl) ?_
  obtain ⟨hin1, h⟩ := sp_g h
  refine va_iast hx hb hK hP hD hS 1 0 rfl rfl hin1 dX1_add_13 (fun H locs hP hD hS => ?_)
  have hP : va_P G.1 vwCl (wSYc G ya yy_0 (upd yy_1 yy_0.toNatClampNeg i1) yy_2 yy_3 yy_4 yy_5 yy_6 yy_7 yy_8) H := hP
  have hD : va_D A (wSYc G ya yy_0 (upd yy_1 yy_0.toNatClampNeg i1) yy_2 yy_3 yy_4 yy_5 yy_6 yy_7 yy_8) := hD
  refine lv_aload_n hx hb dX1_add_14 rfl (lv_at hl 1 rfl) ?_
  refine va_get (D := G.1) (ci := 1) (v := .ref (ya 2)) (C := RX1) (T := TX1) (N := 9) hx hb hts hinX1 hown hK hP 0 rfl rfl 2 (by decide) (hts (.fieldLink RX1 15 "LessonWeave$Syllabus" "kind" "[I") (by decide +kernel)) (fun _ h9 => h9) rfl dX1_add_15 ?_
  refine lv_iload hx hb dX1_add_18 (lv_at hl 0 rfl) ?_
  refine lv_iload_n hx hb dX1_add_20 rfl (lv_at hl 3 rfl) ?_
  refine va_iast hx hb hK hP hD hS 2 0 rfl rfl hin1 dX1_add_21 (fun H locs hP hD hS => ?_)
  have hP : va_P G.1 vwCl (wSYc G ya yy_0 (upd yy_1 yy_0.toNatClampNeg i1) (upd yy_2 yy_0.toNatClampNeg i2) yy_3 yy_4 yy_5 yy_6 yy_7 yy_8) H := hP
  have hD : va_D A (wSYc G ya yy_0 (upd yy_1 yy_0.toNatClampNeg i1) (upd yy_2 yy_0.toNatClampNeg i2) yy_3 yy_4 yy_5 yy_6 yy_7 yy_8) := hD
  refine lv_aload_n hx hb dX1_add_22 rfl (lv_at hl 1 rfl) ?_
  refine va_get (D := G.1) (ci := 1) (v := .ref (ya 3)) (C := RX1) (T := TX1) (N := 9) hx hb hts hinX1 hown hK hP 0 rfl rfl 3 (by decide) (hts (.fieldLink RX1 18 "LessonWeave$Syllabus" "worth" "[I") (by decide +kernel)) (fun _ h9 => h9) rfl dX1_add_23 ?_
  refine lv_iload hx hb dX1_add_26 (lv_at hl 0 rfl) ?_
  refine lv_iload_n hx hb dX1_add_28 rfl (lv_at hl 4 rfl) ?_
  refine va_iast hx hb hK hP hD hS 3 0 rfl rfl hin1 dX1_add_29 (fun H locs hP hD hS => ?_)
  have hP : va_P G.1 vwCl (wSYc G ya yy_0 (upd yy_1 yy_0.toNatClampNeg i1) (upd yy_2 yy_0.toNatClampNeg i2) (upd yy_3 yy_0.toNatClampNeg i3) yy_4 yy_5 yy_6 yy_7 yy_8) H := hP
  have hD : va_D A (wSYc G ya yy_0 (upd yy_1 yy_0.toNatClampNeg i1) (upd yy_2 yy_0.toNatClampNeg i2) (upd yy_3 yy_0.toNatClampNeg i3) yy_4 yy_5 yy_6 yy_7 yy_8) := hD
  refine lv_aload_n hx hb dX1_add_30 rfl (lv_at hl 1 rfl) ?_
  refine va_get (D := G.1) (ci := 1) (v := .ref (ya 4)) (C := RX1) (T := TX1) (N := 9) hx hb hts hinX1 hown hK hP 0 rfl rfl 4 (by decide) (hts (.fieldLink RX1 21 "LessonWeave$Syllabus" "kit" "[I") (by decide +kernel)) (fun _ h9 => h9) rfl dX1_add_31 ?_
  refine lv_iload hx hb dX1_add_34 (lv_at hl 0 rfl) ?_
  refine lv_iload hx hb dX1_add_36 (lv_at hl 5 rfl) ?_
  refine va_iast hx hb hK hP hD hS 4 0 rfl rfl hin1 dX1_add_38 (fun H locs hP hD hS => ?_)
  have hP : va_P G.1 vwCl (wSYc G ya yy_0 (upd yy_1 yy_0.toNatClampNeg i1) (upd yy_2 yy_0.toNatClampNeg i2) (upd yy_3 yy_0.toNatClampNeg i3) (upd yy_4 yy_0.toNatClampNeg i4) yy_5 yy_6 yy_7 yy_8) H := hP
  have hD : va_D A (wSYc G ya yy_0 (upd yy_1 yy_0.toNatClampNeg i1) (upd yy_2 yy_0.toNatClampNeg i2) (upd yy_3 yy_0.toNatClampNeg i3) (upd yy_4 yy_0.toNatClampNeg i4) yy_5 yy_6 yy_7 yy_8) := hD
  refine lv_aload_n hx hb dX1_add_39 rfl (lv_at hl 1 rfl) ?_
  refine va_get (D := G.1) (ci := 1) (v := .ref (ya 6)) (C := RX1) (T := TX1) (N := 9) hx hb hts hinX1 hown hK hP 0 rfl rfl 6 (by decide) (hts (.fieldLink RX1 27 "LessonWeave$Syllabus" "gap" "[I") (by decide +kernel)) (fun _ h9 => h9) rfl dX1_add_40 ?_
  refine lv_iload hx hb dX1_add_43 (lv_at hl 0 rfl) ?_
  refine lv_iconst (v := (1 : Int32)) hx hb dX1_add_45 (by decide) ?_
  refine va_iast hx hb hK hP hD hS 6 0 rfl rfl hin1 dX1_add_46 (fun H locs hP hD hS => ?_)
  have hP : va_P G.1 vwCl (wSYc G ya yy_0 (upd yy_1 yy_0.toNatClampNeg i1) (upd yy_2 yy_0.toNatClampNeg i2) (upd yy_3 yy_0.toNatClampNeg i3) (upd yy_4 yy_0.toNatClampNeg i4) yy_5 (upd yy_6 yy_0.toNatClampNeg (1 : Int32)) yy_7 yy_8) H := hP
  have hD : va_D A (wSYc G ya yy_0 (upd yy_1 yy_0.toNatClampNeg i1) (upd yy_2 yy_0.toNatClampNeg i2) (upd yy_3 yy_0.toNatClampNeg i3) (upd yy_4 yy_0.toNatClampNeg i4) yy_5 (upd yy_6 yy_0.toNatClampNeg (1 : Int32)) yy_7 yy_8) := hD
  refine lv_aload_n hx hb dX1_add_47 rfl (lv_at hl 1 rfl) ?_
  refine lv_dup hx hb dX1_add_48 rfl ?_
  refine va_get (D := G.1) (ci := 1) (v := .int yy_0) (C := RX1) (T := TX1) (N := 9) hx hb hts hinX1 hown hK hP 0 rfl rfl 0 (by decide) (hts (.fieldLink RX1 36 "LessonWeave$Syllabus" "count" "I") (by decide +kernel)) (fun _ h9 => h9) rfl dX1_add_49 ?_
  refine lv_iconst (v := (1 : Int32)) hx hb dX1_add_52 (by decide) ?_
  refine lv_iadd hx hb dX1_add_53 ?_
  refine va_put (D := G.1) (ci := 1) (v := .int (yy_0 + (1 : Int32))) (ty := .int) (C := RX1) (T := TX1) (N := 9) hx hb hts hinX1 tyX1 tyX1_ok nmX1 hown hK hP hD hS 0 rfl rfl 0 (by decide) (hts (.fieldLink RX1 36 "LessonWeave$Syllabus" "count" "I") (by decide +kernel)) (fun _ h9 => h9) rfl (by decide +kernel) rfl rfl (Nat.le_of_ble_eq_true rfl) dX1_add_54 (fun H locs hP hD hS => ?_)
  have hP : va_P G.1 vwCl (wSYc G ya (yy_0 + (1 : Int32)) (upd yy_1 yy_0.toNatClampNeg i1) (upd yy_2 yy_0.toNatClampNeg i2) (upd yy_3 yy_0.toNatClampNeg i3) (upd yy_4 yy_0.toNatClampNeg i4) yy_5 (upd yy_6 yy_0.toNatClampNeg (1 : Int32)) yy_7 yy_8) H := hP
  have hD : va_D A (wSYc G ya (yy_0 + (1 : Int32)) (upd yy_1 yy_0.toNatClampNeg i1) (upd yy_2 yy_0.toNatClampNeg i2) (upd yy_3 yy_0.toNatClampNeg i3) (upd yy_4 yy_0.toNatClampNeg i4) yy_5 (upd yy_6 yy_0.toNatClampNeg (1 : Int32)) yy_7 yy_8) := hD
  refine lv_aload_n hx hb dX1_add_57 rfl (lv_at hl 1 rfl) ?_
  obtain ⟨o2, ho2, h⟩ := sp_b h
  refine xk_cv (va_runV (As := []) (rest := []) ⟨hx, hb, hml, hown, hts⟩ (c_X1_putInOrder l G ya ((yy_0 + (1 : Int32)), (upd yy_1 yy_0.toNatClampNeg i1), (upd yy_2 yy_0.toNatClampNeg i2), (upd yy_3 yy_0.toNatClampNeg i3), (upd yy_4 yy_0.toNatClampNeg i4), yy_5, (upd yy_6 yy_0.toNatClampNeg (1 : Int32)), yy_7, yy_8) o2 ho2 H.size) (cwV 0 hts gX1_add_X1_putInOrder rfl rfl rfl (by decide +kernel) ⟨Nat.le_of_ble_eq_true rfl, Nat.le_of_ble_eq_true rfl⟩) (xk_preV hK hNE (hP.sub (ws' := (wSYc G ya (yy_0 + (1 : Int32)) (upd yy_1 yy_0.toNatClampNeg i1) (upd yy_2 yy_0.toNatClampNeg i2) (upd yy_3 yy_0.toNatClampNeg i3) (upd yy_4 yy_0.toNatClampNeg i4) yy_5 (upd yy_6 yy_0.toNatClampNeg (1 : Int32)) yy_7 yy_8)) [0, 1, 2, 3, 4, 5, 6, 7, 8] rfl) (hD.sub (ws' := (wSYc G ya (yy_0 + (1 : Int32)) (upd yy_1 yy_0.toNatClampNeg i1) (upd yy_2 yy_0.toNatClampNeg i2) (upd yy_3 yy_0.toNatClampNeg i3) (upd yy_4 yy_0.toNatClampNeg i4) yy_5 (upd yy_6 yy_0.toNatClampNeg (1 : Int32)) yy_7 yy_8)) [0, 1, 2, 3, 4, 5, 6, 7, 8] (by decide) rfl) (ci := 1) rfl rfl) rfl rfl hl.1 rfl (lv_room (Nat.le_of_ble_eq_true rfl)) dX1_add_58 ⟨Nat.le_of_ble_eq_true rfl, Nat.le_of_ble_eq_true rfl⟩) hP hD hS hA [0, 1, 2, 3, 4, 5, 6, 7, 8] [] [0, 1, 2, 3, 4, 5, 6, 7, 8] rfl rfl (by decide) (by decide) rfl (by decide) (fun H locs hP hD hS => ?_)
  have hP : va_P G.1 vwCl (wSYc G ya (yy_0 + (1 : Int32)) (upd yy_1 yy_0.toNatClampNeg i1) (upd yy_2 yy_0.toNatClampNeg i2) (upd yy_3 yy_0.toNatClampNeg i3) (upd yy_4 yy_0.toNatClampNeg i4) yy_5 (upd yy_6 yy_0.toNatClampNeg (1 : Int32)) yy_7 o2) H := hP
  have hD : va_D A (wSYc G ya (yy_0 + (1 : Int32)) (upd yy_1 yy_0.toNatClampNeg i1) (upd yy_2 yy_0.toNatClampNeg i2) (upd yy_3 yy_0.toNatClampNeg i3) (upd yy_4 yy_0.toNatClampNeg i4) yy_5 (upd yy_6 yy_0.toNatClampNeg (1 : Int32)) yy_7 o2) := hD
  refine lv_iload hx hb dX1_add_61 (lv_at hl 0 rfl) ?_
  obtain rfl := sp_s h
  exact xk_reI hx hb hr hlk hP hD hS rfl dX1_add_63
def f_X1_setNeeds (yy : xSY) (i1 : Int32) (i2 : Int32) : Option (xF × xF) :=
  if i1 < 0 ∨ 12 ≤ i1.toNatClampNeg then none else
  Option.bind (f_X1_putInOrder (yy.1, yy.2.1, yy.2.2.1, yy.2.2.2.1, yy.2.2.2.2.1, yy.2.2.2.2.2.1, yy.2.2.2.2.2.2.1, (upd yy.2.2.2.2.2.2.2.1 i1.toNatClampNeg i2), yy.2.2.2.2.2.2.2.2)) fun (o2 : xF) =>
  some ((upd yy.2.2.2.2.2.2.2.1 i1.toNatClampNeg i2), o2)
theorem f_X1_setNeeds_e (yy_0 : Int32) (yy_1 : xF) (yy_2 : xF) (yy_3 : xF) (yy_4 : xF) (yy_5 : xF) (yy_6 : xF) (yy_7 : xF) (yy_8 : xF) (i1 : Int32) (i2 : Int32) : f_X1_setNeeds (yy_0, yy_1, yy_2, yy_3, yy_4, yy_5, yy_6, yy_7, yy_8) i1 i2 =
  if i1 < 0 ∨ 12 ≤ i1.toNatClampNeg then none else
  Option.bind (f_X1_putInOrder (yy_0, yy_1, yy_2, yy_3, yy_4, yy_5, yy_6, (upd yy_7 i1.toNatClampNeg i2), yy_8)) fun (o2 : xF) =>
  some ((upd yy_7 i1.toNatClampNeg i2), o2) := rfl
set_option maxHeartbeats 4000000 in
set_option maxRecDepth 100000 in
theorem c_X1_setNeeds (l : Launch) (G : xG) (ya : (Nat → Nat)) (yy : xSY) (i1 : Int32) (i2 : Int32) (o : xF × xF) (h : f_X1_setNeeds yy i1 i2 = some o) : xk_CV l yX1_setNeeds wsX1_setNeeds ({ frames := 3, cells := 0, slots := 0, locals := 69 } : Room) 0 0 [.ref (ya 0), .int i1, .int i2] G (wSYc G ya yy.1 yy.2.1 yy.2.2.1 yy.2.2.2.1 yy.2.2.2.2.1 yy.2.2.2.2.2.1 yy.2.2.2.2.2.2.1 yy.2.2.2.2.2.2.2.1 yy.2.2.2.2.2.2.2.2) (wSYc G ya yy.1 yy.2.1 yy.2.2.1 yy.2.2.2.1 yy.2.2.2.2.1 yy.2.2.2.2.2.1 yy.2.2.2.2.2.2.1 o.1 o.2) := by
  obtain ⟨yy_0, yy_1, yy_2, yy_3, yy_4, yy_5, yy_6, yy_7, yy_8⟩ := yy
  refine xk_CV.of (cc := cX1_setNeeds) (maxL := 3) (ret := none) (by decide) rfl (Nat.le_of_ble_eq_true rfl) ?_
  intro pr9 en9 s mm9 bl9 meth9 cd9 A ls H locs hx hb hr hml hts hown hlk hA hP hK hD hNE hS hl
  have hown : s.vm.findClass RX1 = some mm9.cls := hown
  have hl : lv_has ls 3 [(0, .ref (ya 0)), (1, .int i1), (2, .int i2)] := hl
  have hinX1 : ∀ w ∈ u_ws RX1 TX1 9, w ∈ wsX1_setNeeds := by decide +kernel
  have hP : va_P G.1 vwCl (wSYc G ya yy_0 yy_1 yy_2 yy_3 yy_4 yy_5 yy_6 yy_7 yy_8) H := hP
  have hD : va_D A (wSYc G ya yy_0 yy_1 yy_2 yy_3 yy_4 yy_5 yy_6 yy_7 yy_8) := hD
  have h := (f_X1_setNeeds_e yy_0 yy_1 yy_2 yy_3 yy_4 yy_5 yy_6 yy_7 yy_8 i1 i2).symm.trans h
  refine lv_aload_n hx hb dX1_setNeeds_0 rfl (lv_at hl 0 rfl) ?_
  refine va_get (D := G.1) (ci := 1) (v := .ref (ya 7)) (C := RX1) (T := TX1) (N := 9) hx hb hts hinX1 hown hK hP 0 rfl rfl 7 (by decide) (hts (.fieldLink RX1 30 "LessonWeave$Syllabus" "needs" "[I") (by decide +kernel)) (fun _ h9 => h9) rfl dX1_setNeeds_1 ?_
  refine lv_iload_n hx hb dX1_setNeeds_4 rfl (lv_at hl 1 rfl) ?_
  refine lv_iload_n hx hb dX1_setNeeds_5 rfl (lv_at hl 2 rfl) ?_
  obtain ⟨hin1, h⟩ := sp_g h
  refine va_iast hx hb hK hP hD hS 7 0 rfl rfl hin1 dX1_setNeeds_6 (fun H locs hP hD hS => ?_)
  have hP : va_P G.1 vwCl (wSYc G ya yy_0 yy_1 yy_2 yy_3 yy_4 yy_5 yy_6 (upd yy_7 i1.toNatClampNeg i2) yy_8) H := hP
  have hD : va_D A (wSYc G ya yy_0 yy_1 yy_2 yy_3 yy_4 yy_5 yy_6 (upd yy_7 i1.toNatClampNeg i2) yy_8) := hD
  refine lv_aload_n hx hb dX1_setNeeds_7 rfl (lv_at hl 0 rfl) ?_
  obtain ⟨o2, ho2, h⟩ := sp_b h
  refine xk_cv (va_runV (As := []) (rest := []) ⟨hx, hb, hml, hown, hts⟩ (c_X1_putInOrder l G ya (yy_0, yy_1, yy_2, yy_3, yy_4, yy_5, yy_6, (upd yy_7 i1.toNatClampNeg i2), yy_8) o2 ho2 H.size) (cwV 0 hts gX1_setNeeds_X1_putInOrder rfl rfl rfl (by decide +kernel) ⟨Nat.le_of_ble_eq_true rfl, Nat.le_of_ble_eq_true rfl⟩) (xk_preV hK hNE (hP.sub (ws' := (wSYc G ya yy_0 yy_1 yy_2 yy_3 yy_4 yy_5 yy_6 (upd yy_7 i1.toNatClampNeg i2) yy_8)) [0, 1, 2, 3, 4, 5, 6, 7, 8] rfl) (hD.sub (ws' := (wSYc G ya yy_0 yy_1 yy_2 yy_3 yy_4 yy_5 yy_6 (upd yy_7 i1.toNatClampNeg i2) yy_8)) [0, 1, 2, 3, 4, 5, 6, 7, 8] (by decide) rfl) (ci := 1) rfl rfl) rfl rfl hl.1 rfl (lv_room (Nat.le_of_ble_eq_true rfl)) dX1_setNeeds_8 ⟨Nat.le_of_ble_eq_true rfl, Nat.le_of_ble_eq_true rfl⟩) hP hD hS hA [0, 1, 2, 3, 4, 5, 6, 7, 8] [] [0, 1, 2, 3, 4, 5, 6, 7, 8] rfl rfl (by decide) (by decide) rfl (by decide) (fun H locs hP hD hS => ?_)
  have hP : va_P G.1 vwCl (wSYc G ya yy_0 yy_1 yy_2 yy_3 yy_4 yy_5 yy_6 (upd yy_7 i1.toNatClampNeg i2) o2) H := hP
  have hD : va_D A (wSYc G ya yy_0 yy_1 yy_2 yy_3 yy_4 yy_5 yy_6 (upd yy_7 i1.toNatClampNeg i2) o2) := hD
  obtain rfl := sp_s h
  exact xk_reV hx hb hr hlk hP hD hS dX1_setNeeds_11
def f_X1_isClosed_l2 (yy_0 : Int32) (yy_7 : xF) (i1 : Int32) : Nat → Int32 → Option (Int32)
  | 0, _ => none
  | k9 + 1, x2_1 =>
    if yy_0 ≤ x2_1 then
      some (1 : Int32)
    else
      Option.bind (f_X2_has i1 x2_1) fun (o3 : Int32) =>
      if o3 = 0 then
        f_X1_isClosed_l2 yy_0 yy_7 i1 k9 (x2_1 + (1 : Int32))
      else
        if x2_1 < 0 ∨ 12 ≤ x2_1.toNatClampNeg then none else
        Option.bind (f_X1_isCovered (yy_7 x2_1.toNatClampNeg) i1) fun (o6 : Int32) =>
        if o6 = 0 then
          some (0 : Int32)
        else
          f_X1_isClosed_l2 yy_0 yy_7 i1 k9 (x2_1 + (1 : Int32))
theorem f_X1_isClosed_l2_z (yy_0 : Int32) (yy_7 : xF) (i1 : Int32) (x2_1 : Int32) : f_X1_isClosed_l2 yy_0 yy_7 i1 0 x2_1 = none := rfl
theorem f_X1_isClosed_l2_s (yy_0 : Int32) (yy_7 : xF) (i1 : Int32) (k9 : Nat) (x2_1 : Int32) : f_X1_isClosed_l2 yy_0 yy_7 i1 (k9 + 1) x2_1 =
    if yy_0 ≤ x2_1 then
      some (1 : Int32)
    else
      Option.bind (f_X2_has i1 x2_1) fun (o3 : Int32) =>
      if o3 = 0 then
        f_X1_isClosed_l2 yy_0 yy_7 i1 k9 (x2_1 + (1 : Int32))
      else
        if x2_1 < 0 ∨ 12 ≤ x2_1.toNatClampNeg then none else
        Option.bind (f_X1_isCovered (yy_7 x2_1.toNatClampNeg) i1) fun (o6 : Int32) =>
        if o6 = 0 then
          some (0 : Int32)
        else
          f_X1_isClosed_l2 yy_0 yy_7 i1 k9 (x2_1 + (1 : Int32)) := rfl
def f_X1_isClosed (yy : xSY) (i1 : Int32) : Option (Int32) :=
  f_X1_isClosed_l2 yy.1 yy.2.2.2.2.2.2.2.1 i1 300 (0 : Int32)
theorem f_X1_isClosed_e (yy_0 : Int32) (yy_1 : xF) (yy_2 : xF) (yy_3 : xF) (yy_4 : xF) (yy_5 : xF) (yy_6 : xF) (yy_7 : xF) (yy_8 : xF) (i1 : Int32) : f_X1_isClosed (yy_0, yy_1, yy_2, yy_3, yy_4, yy_5, yy_6, yy_7, yy_8) i1 =
  f_X1_isClosed_l2 yy_0 yy_7 i1 300 (0 : Int32) := rfl
set_option maxHeartbeats 4000000 in
set_option maxRecDepth 100000 in
theorem c_X1_isClosed (l : Launch) (G : xG) (ya : (Nat → Nat)) (yy : xSY) (i1 : Int32) (o : Int32) (h : f_X1_isClosed yy i1 = some o) : xk_CI l yX1_isClosed wsX1_isClosed ({ frames := 1, cells := 0, slots := 0, locals := 21 } : Room) 0 0 [.ref (ya 0), .int i1] G (wSYc G ya yy.1 yy.2.1 yy.2.2.1 yy.2.2.2.1 yy.2.2.2.2.1 yy.2.2.2.2.2.1 yy.2.2.2.2.2.2.1 yy.2.2.2.2.2.2.2.1 yy.2.2.2.2.2.2.2.2) (wSYc G ya yy.1 yy.2.1 yy.2.2.1 yy.2.2.2.1 yy.2.2.2.2.1 yy.2.2.2.2.2.1 yy.2.2.2.2.2.2.1 yy.2.2.2.2.2.2.2.1 yy.2.2.2.2.2.2.2.2) o := by
  obtain ⟨yy_0, yy_1, yy_2, yy_3, yy_4, yy_5, yy_6, yy_7, yy_8⟩ := yy
  refine xk_CI.of (cc := cX1_isClosed) (maxL := 3) (ret := (some .boolean)) (by decide) rfl (Nat.le_of_ble_eq_true rfl) ?_
  intro pr9 en9 s mm9 bl9 meth9 cd9 A ls H locs hx hb hr hml hts hown hlk hA hP hK hD hNE hS hl
  have hown : s.vm.findClass RX1 = some mm9.cls := hown
  have hl : lv_has ls 3 [(0, .ref (ya 0)), (1, .int i1)] := hl
  have hinX1 : ∀ w ∈ u_ws RX1 TX1 9, w ∈ wsX1_isClosed := by decide +kernel
  have hP : va_P G.1 vwCl (wSYc G ya yy_0 yy_1 yy_2 yy_3 yy_4 yy_5 yy_6 yy_7 yy_8) H := hP
  have hD : va_D A (wSYc G ya yy_0 yy_1 yy_2 yy_3 yy_4 yy_5 yy_6 yy_7 yy_8) := hD
  have h := (f_X1_isClosed_e yy_0 yy_1 yy_2 yy_3 yy_4 yy_5 yy_6 yy_7 yy_8 i1).symm.trans h
  refine lv_iconst (v := (0 : Int32)) hx hb dX1_isClosed_0 (by decide) ?_
  refine lv_istore_n (lv' := [(2, .int (0 : Int32)), (0, .ref (ya 0)), (1, .int i1)]) hx hb dX1_isClosed_1 rfl hl (by decide) rfl (fun ls hl => ?_)
  refine xk_lp (α := Int32) G A s.heap (fun x2_1 => (wSYc G ya yy_0 yy_1 yy_2 yy_3 yy_4 yy_5 yy_6 yy_7 yy_8)) 3 (fun x2_1 => [(2, .int x2_1), (0, .ref (ya 0)), (1, .int i1)]) 2 (fun n x2_1 => f_X1_isClosed_l2 yy_0 yy_7 i1 n x2_1 = some o) (fun x2_1 h => ?_) (fun n ih_1 x2_1 h H locs hP hD hS ls hl => ?_) (fun LL => ?_)
  · exact sp_n ((f_X1_isClosed_l2_z _ _ _ _).symm.trans h)
  · have h := (f_X1_isClosed_l2_s yy_0 yy_7 i1 n x2_1).symm.trans h
    have hP : va_P G.1 vwCl (wSYc G ya yy_0 yy_1 yy_2 yy_3 yy_4 yy_5 yy_6 yy_7 yy_8) H := hP
    have hD : va_D A (wSYc G ya yy_0 yy_1 yy_2 yy_3 yy_4 yy_5 yy_6 yy_7 yy_8) := hD
    have hl : lv_has ls 3 [(2, .int x2_1), (0, .ref (ya 0)), (1, .int i1)] := hl
    refine lv_iload_n hx hb dX1_isClosed_2 rfl (lv_at hl 0 rfl) ?_
    refine lv_aload_n hx hb dX1_isClosed_3 rfl (lv_at hl 1 rfl) ?_
    refine va_get (D := G.1) (ci := 1) (v := .int yy_0) (C := RX1) (T := TX1) (N := 9) hx hb hts hinX1 hown hK hP 0 rfl rfl 0 (by decide) (hts (.fieldLink RX1 36 "LessonWeave$Syllabus" "count" "I") (by decide +kernel)) (fun _ h9 => h9) rfl dX1_isClosed_4 ?_
    refine lv_icmp_ge (tgt := 39) hx hb dX1_isClosed_7 (by decide) (fun c2 => ?_) (fun c2 => ?_)
    · have h := sp_t c2 h
      refine lv_iconst (v := (1 : Int32)) hx hb dX1_isClosed_39 (by decide) ?_
      obtain rfl := sp_s h
      exact xk_reZ hx hb hr hlk rfl hP hD hS rfl dX1_isClosed_40
    · have h := sp_f c2 h
      refine lv_iload_n hx hb dX1_isClosed_10 rfl (lv_at hl 2 rfl) ?_
      refine lv_iload_n hx hb dX1_isClosed_11 rfl (lv_at hl 0 rfl) ?_
      obtain ⟨o3, ho3, h⟩ := sp_b h
      refine xk_ci (va_runSN (As := [.int i1, .int x2_1]) (rest := []) ⟨hx, hb, hml, hown, hts⟩ (c_X2_has l G i1 x2_1 o3 ho3 H.size) ⟨va_cnB 2 hts gX1_isClosed_X2_has_n47 rfl rfl rfl (hNE.2.2.2.2.2.2.2.2.2.2.2.2.2.2.2.2.2.2) (hts (.initialized RX2) (by decide +kernel)) (by decide +kernel) ⟨Nat.le_of_ble_eq_true rfl, Nat.le_of_ble_eq_true rfl⟩, hts (.static yX2_has) (by decide +kernel), trivial⟩ (xk_preS hK hNE (hP.sub (ws' := []) [] rfl) (hD.sub (ws' := []) [] (by decide) rfl)) rfl rfl hl.1 rfl (lv_room (Nat.le_of_ble_eq_true rfl)) dX1_isClosed_12 ⟨Nat.le_of_ble_eq_true rfl, Nat.le_of_ble_eq_true rfl⟩) hP hD hS hA [] [0, 1, 2, 3, 4, 5, 6, 7, 8] [0, 1, 2, 3, 4, 5, 6, 7, 8] rfl rfl (by decide) (by decide) rfl (by decide) (fun H locs hP hD hS => ?_)
      have hP : va_P G.1 vwCl (wSYc G ya yy_0 yy_1 yy_2 yy_3 yy_4 yy_5 yy_6 yy_7 yy_8) H := hP
      have hD : va_D A (wSYc G ya yy_0 yy_1 yy_2 yy_3 yy_4 yy_5 yy_6 yy_7 yy_8) := hD
      refine lv_if_eq (tgt := 33) hx hb dX1_isClosed_15 (by decide) (fun c4 => ?_) (fun c4 => ?_)
      · have h := sp_t c4 h
        refine lv_iinc (v := (x2_1 + (1 : Int32))) (lv' := [(2, .int (x2_1 + (1 : Int32))), (0, .ref (ya 0)), (1, .int i1)]) hx hb dX1_isClosed_33 hl (k := 0) rfl rfl (by decide) rfl (fun ls hl => ?_)
        refine lv_goto (tgt := 2) hx hb dX1_isClosed_36 (by decide) ?_
        exact ih_1 (x2_1 + (1 : Int32)) h _ _ hP hD hS _ (lv_sub hl [0, 1, 2] rfl)
      · have h := sp_f c4 h
        refine lv_aload_n hx hb dX1_isClosed_18 rfl (lv_at hl 1 rfl) ?_
        refine va_get (D := G.1) (ci := 1) (v := .ref (ya 7)) (C := RX1) (T := TX1) (N := 9) hx hb hts hinX1 hown hK hP 0 rfl rfl 7 (by decide) (hts (.fieldLink RX1 30 "LessonWeave$Syllabus" "needs" "[I") (by decide +kernel)) (fun _ h9 => h9) rfl dX1_isClosed_19 ?_
        refine lv_iload_n hx hb dX1_isClosed_22 rfl (lv_at hl 0 rfl) ?_
        obtain ⟨hin5, h⟩ := sp_g h
        refine va_iald hx hb hK hP 7 0 rfl rfl hin5 dX1_isClosed_23 ?_
        refine lv_iload_n hx hb dX1_isClosed_24 rfl (lv_at hl 2 rfl) ?_
        obtain ⟨o6, ho6, h⟩ := sp_b h
        refine xk_ci (va_runS (As := [.int (yy_7 x2_1.toNatClampNeg), .int i1]) (rest := []) ⟨hx, hb, hml, hown, hts⟩ (c_X1_isCovered l G (yy_7 x2_1.toNatClampNeg) i1 o6 ho6 H.size) (va_cwS 2 hts gX1_isClosed_X1_isCovered rfl rfl rfl (by decide +kernel) ⟨Nat.le_of_ble_eq_true rfl, Nat.le_of_ble_eq_true rfl⟩) (xk_preS hK hNE (hP.sub (ws' := []) [] rfl) (hD.sub (ws' := []) [] (by decide) rfl)) rfl rfl hl.1 rfl (lv_room (Nat.le_of_ble_eq_true rfl)) dX1_isClosed_25 ⟨Nat.le_of_ble_eq_true rfl, Nat.le_of_ble_eq_true rfl⟩) hP hD hS hA [] [0, 1, 2, 3, 4, 5, 6, 7, 8] [0, 1, 2, 3, 4, 5, 6, 7, 8] rfl rfl (by decide) (by decide) rfl (by decide) (fun H locs hP hD hS => ?_)
        have hP : va_P G.1 vwCl (wSYc G ya yy_0 yy_1 yy_2 yy_3 yy_4 yy_5 yy_6 yy_7 yy_8) H := hP
        have hD : va_D A (wSYc G ya yy_0 yy_1 yy_2 yy_3 yy_4 yy_5 yy_6 yy_7 yy_8) := hD
        refine lv_if_ne (tgt := 33) hx hb dX1_isClosed_28 (by decide) (fun c7 => ?_) (fun c7 => ?_)
        · have h := sp_f c7 h
          refine lv_iinc (v := (x2_1 + (1 : Int32))) (lv' := [(2, .int (x2_1 + (1 : Int32))), (0, .ref (ya 0)), (1, .int i1)]) hx hb dX1_isClosed_33 hl (k := 0) rfl rfl (by decide) rfl (fun ls hl => ?_)
          refine lv_goto (tgt := 2) hx hb dX1_isClosed_36 (by decide) ?_
          exact ih_1 (x2_1 + (1 : Int32)) h _ _ hP hD hS _ (lv_sub hl [0, 1, 2] rfl)
        · have h := sp_t c7 h
          refine lv_iconst (v := (0 : Int32)) hx hb dX1_isClosed_31 (by decide) ?_
          obtain rfl := sp_s h
          exact xk_reZ hx hb hr hlk rfl hP hD hS rfl dX1_isClosed_32
  · exact LL 300 (0 : Int32) h _ _ hP hD hS _ (lv_sub hl [0, 1, 2] rfl)
def f_X1_countClosed_l4 (yy_0 : Int32) (yy_1 : xF) (yy_2 : xF) (yy_3 : xF) (yy_4 : xF) (yy_5 : xF) (yy_6 : xF) (yy_7 : xF) (yy_8 : xF) : Nat → Int32 → Int32 → Option (Int32)
  | 0, _, _ => none
  | k9 + 1, x2_1, x1_1 =>
    if ((1 : Int32) <<< (yy_0 &&& 31)) ≤ x2_1 then
      some x1_1
    else
      Option.bind (f_X1_isClosed (yy_0, yy_1, yy_2, yy_3, yy_4, yy_5, yy_6, yy_7, yy_8) x2_1) fun (o4 : Int32) =>
      if o4 = 0 then
        f_X1_countClosed_l4 yy_0 yy_1 yy_2 yy_3 yy_4 yy_5 yy_6 yy_7 yy_8 k9 (x2_1 + (1 : Int32)) x1_1
      else
        f_X1_countClosed_l4 yy_0 yy_1 yy_2 yy_3 yy_4 yy_5 yy_6 yy_7 yy_8 k9 (x2_1 + (1 : Int32)) (x1_1 + (1 : Int32))
theorem f_X1_countClosed_l4_z (yy_0 : Int32) (yy_1 : xF) (yy_2 : xF) (yy_3 : xF) (yy_4 : xF) (yy_5 : xF) (yy_6 : xF) (yy_7 : xF) (yy_8 : xF) (x2_1 : Int32) (x1_1 : Int32) : f_X1_countClosed_l4 yy_0 yy_1 yy_2 yy_3 yy_4 yy_5 yy_6 yy_7 yy_8 0 x2_1 x1_1 = none := rfl
theorem f_X1_countClosed_l4_s (yy_0 : Int32) (yy_1 : xF) (yy_2 : xF) (yy_3 : xF) (yy_4 : xF) (yy_5 : xF) (yy_6 : xF) (yy_7 : xF) (yy_8 : xF) (k9 : Nat) (x2_1 : Int32) (x1_1 : Int32) : f_X1_countClosed_l4 yy_0 yy_1 yy_2 yy_3 yy_4 yy_5 yy_6 yy_7 yy_8 (k9 + 1) x2_1 x1_1 =
    if ((1 : Int32) <<< (yy_0 &&& 31)) ≤ x2_1 then
      some x1_1
    else
      Option.bind (f_X1_isClosed (yy_0, yy_1, yy_2, yy_3, yy_4, yy_5, yy_6, yy_7, yy_8) x2_1) fun (o4 : Int32) =>
      if o4 = 0 then
        f_X1_countClosed_l4 yy_0 yy_1 yy_2 yy_3 yy_4 yy_5 yy_6 yy_7 yy_8 k9 (x2_1 + (1 : Int32)) x1_1
      else
        f_X1_countClosed_l4 yy_0 yy_1 yy_2 yy_3 yy_4 yy_5 yy_6 yy_7 yy_8 k9 (x2_1 + (1 : Int32)) (x1_1 + (1 : Int32)) := rfl
def f_X1_countClosed (yy : xSY) : Option (Int32) :=
  Option.bind (f_X1_countClosed_l4 yy.1 yy.2.1 yy.2.2.1 yy.2.2.2.1 yy.2.2.2.2.1 yy.2.2.2.2.2.1 yy.2.2.2.2.2.2.1 yy.2.2.2.2.2.2.2.1 yy.2.2.2.2.2.2.2.2 5000 (0 : Int32) (0 : Int32)) fun (w2 : Int32) =>
  some w2
theorem f_X1_countClosed_e (yy_0 : Int32) (yy_1 : xF) (yy_2 : xF) (yy_3 : xF) (yy_4 : xF) (yy_5 : xF) (yy_6 : xF) (yy_7 : xF) (yy_8 : xF) : f_X1_countClosed (yy_0, yy_1, yy_2, yy_3, yy_4, yy_5, yy_6, yy_7, yy_8) =
  Option.bind (f_X1_countClosed_l4 yy_0 yy_1 yy_2 yy_3 yy_4 yy_5 yy_6 yy_7 yy_8 5000 (0 : Int32) (0 : Int32)) fun (w2 : Int32) =>
  some w2 := rfl
set_option maxHeartbeats 4000000 in
set_option maxRecDepth 100000 in
theorem c_X1_countClosed (l : Launch) (G : xG) (ya : (Nat → Nat)) (yy : xSY) (o : Int32) (h : f_X1_countClosed yy = some o) : xk_CI l yX1_countClosed wsX1_countClosed ({ frames := 2, cells := 0, slots := 0, locals := 43 } : Room) 0 0 [.ref (ya 0)] G (wSYc G ya yy.1 yy.2.1 yy.2.2.1 yy.2.2.2.1 yy.2.2.2.2.1 yy.2.2.2.2.2.1 yy.2.2.2.2.2.2.1 yy.2.2.2.2.2.2.2.1 yy.2.2.2.2.2.2.2.2) (wSYc G ya yy.1 yy.2.1 yy.2.2.1 yy.2.2.2.1 yy.2.2.2.2.1 yy.2.2.2.2.2.1 yy.2.2.2.2.2.2.1 yy.2.2.2.2.2.2.2.1 yy.2.2.2.2.2.2.2.2) o := by
  obtain ⟨yy_0, yy_1, yy_2, yy_3, yy_4, yy_5, yy_6, yy_7, yy_8⟩ := yy
  refine xk_CI.of (cc := cX1_countClosed) (maxL := 3) (ret := (some .int)) (by decide) rfl (Nat.le_of_ble_eq_true rfl) ?_
  intro pr9 en9 s mm9 bl9 meth9 cd9 A ls H locs hx hb hr hml hts hown hlk hA hP hK hD hNE hS hl
  have hown : s.vm.findClass RX1 = some mm9.cls := hown
  have hl : lv_has ls 3 [(0, .ref (ya 0))] := hl
  have hinX1 : ∀ w ∈ u_ws RX1 TX1 9, w ∈ wsX1_countClosed := by decide +kernel
  have hP : va_P G.1 vwCl (wSYc G ya yy_0 yy_1 yy_2 yy_3 yy_4 yy_5 yy_6 yy_7 yy_8) H := hP
  have hD : va_D A (wSYc G ya yy_0 yy_1 yy_2 yy_3 yy_4 yy_5 yy_6 yy_7 yy_8) := hD
  have h := (f_X1_countClosed_e yy_0 yy_1 yy_2 yy_3 yy_4 yy_5 yy_6 yy_7 yy_8).symm.trans h
  refine lv_iconst (v := (0 : Int32)) hx hb dX1_countClosed_0 (by decide) ?_
  refine lv_istore_n (lv' := [(1, .int (0 : Int32)), (0, .ref (ya 0))]) hx hb dX1_countClosed_1 rfl hl (by decide) rfl (fun ls hl => ?_)
  refine lv_iconst (v := (0 : Int32)) hx hb dX1_countClosed_2 (by decide) ?_
  refine lv_istore_n (lv' := [(2, .int (0 : Int32)), (1, .int (0 : Int32)), (0, .ref (ya 0))]) hx hb dX1_countClosed_3 rfl hl (by decide) rfl (fun ls hl => ?_)
  obtain ⟨w2, hw2, h⟩ := sp_b h
  refine xk_jn G A s.heap (wSYc G ya yy_0 yy_1 yy_2 yy_3 yy_4 yy_5 yy_6 yy_7 yy_8) 3 [(1, .int w2)] 31 [] (fun H locs hP hD hS ls hl => ?_) (fun J1 => ?_)
  · refine lv_iload_n hx hb dX1_countClosed_31 rfl (lv_at hl 0 rfl) ?_
    obtain rfl := sp_s h
    exact xk_reI hx hb hr hlk hP hD hS rfl dX1_countClosed_32
  · have h := hw2
    clear hw2
    refine xk_lp (α := Int32 × Int32) G A s.heap (fun a_1 => (wSYc G ya yy_0 yy_1 yy_2 yy_3 yy_4 yy_5 yy_6 yy_7 yy_8)) 3 (fun a_1 => [(2, .int a_1.1), (1, .int a_1.2), (0, .ref (ya 0))]) 4 (fun n a_1 => f_X1_countClosed_l4 yy_0 yy_1 yy_2 yy_3 yy_4 yy_5 yy_6 yy_7 yy_8 n a_1.1 a_1.2 = some w2) (fun a_1 h => ?_) (fun n ih_1 a_1 h H locs hP hD hS ls hl => ?_) (fun LL => ?_)
    · exact sp_n ((f_X1_countClosed_l4_z _ _ _ _ _ _ _ _ _ _ _).symm.trans h)
    · obtain ⟨x2_1, x1_1⟩ := a_1
      have h := (f_X1_countClosed_l4_s yy_0 yy_1 yy_2 yy_3 yy_4 yy_5 yy_6 yy_7 yy_8 n x2_1 x1_1).symm.trans h
      have hP : va_P G.1 vwCl (wSYc G ya yy_0 yy_1 yy_2 yy_3 yy_4 yy_5 yy_6 yy_7 yy_8) H := hP
      have hD : va_D A (wSYc G ya yy_0 yy_1 yy_2 yy_3 yy_4 yy_5 yy_6 yy_7 yy_8) := hD
      have hl : lv_has ls 3 [(2, .int x2_1), (1, .int x1_1), (0, .ref (ya 0))] := hl
      refine lv_iload_n hx hb dX1_countClosed_4 rfl (lv_at hl 0 rfl) ?_
      refine lv_iconst (v := (1 : Int32)) hx hb dX1_countClosed_5 (by decide) ?_
      refine lv_aload_n hx hb dX1_countClosed_6 rfl (lv_at hl 2 rfl) ?_
      refine va_get (D := G.1) (ci := 1) (v := .int yy_0) (C := RX1) (T := TX1) (N := 9) hx hb hts hinX1 hown hK hP 0 rfl rfl 0 (by decide) (hts (.fieldLink RX1 36 "LessonWeave$Syllabus" "count" "I") (by decide +kernel)) (fun _ h9 => h9) rfl dX1_countClosed_7 ?_
      refine lv_ishl hx hb dX1_countClosed_10 ?_
      refine lv_icmp_ge (tgt := 31) hx hb dX1_countClosed_11 (by decide) (fun c3 => ?_) (fun c3 => ?_)
      · have h := sp_t c3 h
        obtain rfl := sp_s h
        exact J1 _ _ hP hD hS _ (lv_sub hl [1] rfl)
      · have h := sp_f c3 h
        refine lv_aload_n hx hb dX1_countClosed_14 rfl (lv_at hl 2 rfl) ?_
        refine lv_iload_n hx hb dX1_countClosed_15 rfl (lv_at hl 0 rfl) ?_
        obtain ⟨o4, ho4, h⟩ := sp_b h
        refine xk_ci (va_runV (As := [.int x2_1]) (rest := []) ⟨hx, hb, hml, hown, hts⟩ (c_X1_isClosed l G ya (yy_0, yy_1, yy_2, yy_3, yy_4, yy_5, yy_6, yy_7, yy_8) x2_1 o4 ho4 H.size) (cwV 1 hts gX1_countClosed_X1_isClosed rfl rfl rfl (by decide +kernel) ⟨Nat.le_of_ble_eq_true rfl, Nat.le_of_ble_eq_true rfl⟩) (xk_preV hK hNE (hP.sub (ws' := (wSYc G ya yy_0 yy_1 yy_2 yy_3 yy_4 yy_5 yy_6 yy_7 yy_8)) [0, 1, 2, 3, 4, 5, 6, 7, 8] rfl) (hD.sub (ws' := (wSYc G ya yy_0 yy_1 yy_2 yy_3 yy_4 yy_5 yy_6 yy_7 yy_8)) [0, 1, 2, 3, 4, 5, 6, 7, 8] (by decide) rfl) (ci := 1) rfl rfl) rfl rfl hl.1 rfl (lv_room (Nat.le_of_ble_eq_true rfl)) dX1_countClosed_16 ⟨Nat.le_of_ble_eq_true rfl, Nat.le_of_ble_eq_true rfl⟩) hP hD hS hA [0, 1, 2, 3, 4, 5, 6, 7, 8] [] [0, 1, 2, 3, 4, 5, 6, 7, 8] rfl rfl (by decide) (by decide) rfl (by decide) (fun H locs hP hD hS => ?_)
        have hP : va_P G.1 vwCl (wSYc G ya yy_0 yy_1 yy_2 yy_3 yy_4 yy_5 yy_6 yy_7 yy_8) H := hP
        have hD : va_D A (wSYc G ya yy_0 yy_1 yy_2 yy_3 yy_4 yy_5 yy_6 yy_7 yy_8) := hD
        refine lv_if_eq (tgt := 25) hx hb dX1_countClosed_19 (by decide) (fun c5 => ?_) (fun c5 => ?_)
        · have h := sp_t c5 h
          refine lv_iinc (v := (x2_1 + (1 : Int32))) (lv' := [(2, .int (x2_1 + (1 : Int32))), (1, .int x1_1), (0, .ref (ya 0))]) hx hb dX1_countClosed_25 hl (k := 0) rfl rfl (by decide) rfl (fun ls hl => ?_)
          refine lv_goto (tgt := 4) hx hb dX1_countClosed_28 (by decide) ?_
          exact ih_1 ((x2_1 + (1 : Int32)), x1_1) h _ _ hP hD hS _ (lv_sub hl [0, 1, 2] rfl)
        · have h := sp_f c5 h
          refine lv_iinc (v := (x1_1 + (1 : Int32))) (lv' := [(1, .int (x1_1 + (1 : Int32))), (2, .int x2_1), (0, .ref (ya 0))]) hx hb dX1_countClosed_22 hl (k := 1) rfl rfl (by decide) rfl (fun ls hl => ?_)
          refine lv_iinc (v := (x2_1 + (1 : Int32))) (lv' := [(2, .int (x2_1 + (1 : Int32))), (1, .int (x1_1 + (1 : Int32))), (0, .ref (ya 0))]) hx hb dX1_countClosed_25 hl (k := 1) rfl rfl (by decide) rfl (fun ls hl => ?_)
          refine lv_goto (tgt := 4) hx hb dX1_countClosed_28 (by decide) ?_
          exact ih_1 ((x2_1 + (1 : Int32)), (x1_1 + (1 : Int32))) h _ _ hP hD hS _ (lv_sub hl [0, 1, 2] rfl)
    · exact LL 5000 ((0 : Int32), (0 : Int32)) h _ _ hP hD hS _ (lv_sub hl [0, 1, 2] rfl)
def f_X1_netOf_l5 (yy_0 : Int32) (yy_1 : xF) (yy_3 : xF) (i1 : Int32) (i2 : Int32) : Nat → Int32 → Int32 → Option (Int32)
  | 0, _, _ => none
  | k9 + 1, x4_1, x3_1 =>
    if yy_0 ≤ x4_1 then
      some x3_1
    else
      Option.bind (f_X2_has i1 x4_1) fun (o4 : Int32) =>
      if o4 = 0 then
        f_X1_netOf_l5 yy_0 yy_1 yy_3 i1 i2 k9 (x4_1 + (1 : Int32)) x3_1
      else
        if x4_1 < 0 ∨ 12 ≤ x4_1.toNatClampNeg then none else
        f_X1_netOf_l5 yy_0 yy_1 yy_3 i1 i2 k9 (x4_1 + (1 : Int32)) (x3_1 + ((yy_3 x4_1.toNatClampNeg) - (i2 * (yy_1 x4_1.toNatClampNeg))))
theorem f_X1_netOf_l5_z (yy_0 : Int32) (yy_1 : xF) (yy_3 : xF) (i1 : Int32) (i2 : Int32) (x4_1 : Int32) (x3_1 : Int32) : f_X1_netOf_l5 yy_0 yy_1 yy_3 i1 i2 0 x4_1 x3_1 = none := rfl
theorem f_X1_netOf_l5_s (yy_0 : Int32) (yy_1 : xF) (yy_3 : xF) (i1 : Int32) (i2 : Int32) (k9 : Nat) (x4_1 : Int32) (x3_1 : Int32) : f_X1_netOf_l5 yy_0 yy_1 yy_3 i1 i2 (k9 + 1) x4_1 x3_1 =
    if yy_0 ≤ x4_1 then
      some x3_1
    else
      Option.bind (f_X2_has i1 x4_1) fun (o4 : Int32) =>
      if o4 = 0 then
        f_X1_netOf_l5 yy_0 yy_1 yy_3 i1 i2 k9 (x4_1 + (1 : Int32)) x3_1
      else
        if x4_1 < 0 ∨ 12 ≤ x4_1.toNatClampNeg then none else
        f_X1_netOf_l5 yy_0 yy_1 yy_3 i1 i2 k9 (x4_1 + (1 : Int32)) (x3_1 + ((yy_3 x4_1.toNatClampNeg) - (i2 * (yy_1 x4_1.toNatClampNeg)))) := rfl
def f_X1_netOf (yy : xSY) (i1 : Int32) (i2 : Int32) : Option (Int32) :=
  Option.bind (f_X1_netOf_l5 yy.1 yy.2.1 yy.2.2.2.1 i1 i2 300 (0 : Int32) (0 : Int32)) fun (w2 : Int32) =>
  some w2
theorem f_X1_netOf_e (yy_0 : Int32) (yy_1 : xF) (yy_2 : xF) (yy_3 : xF) (yy_4 : xF) (yy_5 : xF) (yy_6 : xF) (yy_7 : xF) (yy_8 : xF) (i1 : Int32) (i2 : Int32) : f_X1_netOf (yy_0, yy_1, yy_2, yy_3, yy_4, yy_5, yy_6, yy_7, yy_8) i1 i2 =
  Option.bind (f_X1_netOf_l5 yy_0 yy_1 yy_3 i1 i2 300 (0 : Int32) (0 : Int32)) fun (w2 : Int32) =>
  some w2 := rfl
set_option maxHeartbeats 4000000 in
set_option maxRecDepth 100000 in
theorem c_X1_netOf (l : Launch) (G : xG) (ya : (Nat → Nat)) (yy : xSY) (i1 : Int32) (i2 : Int32) (o : Int32) (h : f_X1_netOf yy i1 i2 = some o) : xk_CI l yX1_netOf wsX1_netOf ({ frames := 1, cells := 0, slots := 0, locals := 21 } : Room) 0 0 [.ref (ya 0), .int i1, .int i2] G (wSYc G ya yy.1 yy.2.1 yy.2.2.1 yy.2.2.2.1 yy.2.2.2.2.1 yy.2.2.2.2.2.1 yy.2.2.2.2.2.2.1 yy.2.2.2.2.2.2.2.1 yy.2.2.2.2.2.2.2.2) (wSYc G ya yy.1 yy.2.1 yy.2.2.1 yy.2.2.2.1 yy.2.2.2.2.1 yy.2.2.2.2.2.1 yy.2.2.2.2.2.2.1 yy.2.2.2.2.2.2.2.1 yy.2.2.2.2.2.2.2.2) o := by
  obtain ⟨yy_0, yy_1, yy_2, yy_3, yy_4, yy_5, yy_6, yy_7, yy_8⟩ := yy
  refine xk_CI.of (cc := cX1_netOf) (maxL := 5) (ret := (some .int)) (by decide) rfl (Nat.le_of_ble_eq_true rfl) ?_
  intro pr9 en9 s mm9 bl9 meth9 cd9 A ls H locs hx hb hr hml hts hown hlk hA hP hK hD hNE hS hl
  have hown : s.vm.findClass RX1 = some mm9.cls := hown
  have hl : lv_has ls 5 [(0, .ref (ya 0)), (1, .int i1), (2, .int i2)] := hl
  have hinX1 : ∀ w ∈ u_ws RX1 TX1 9, w ∈ wsX1_netOf := by decide +kernel
  have hP : va_P G.1 vwCl (wSYc G ya yy_0 yy_1 yy_2 yy_3 yy_4 yy_5 yy_6 yy_7 yy_8) H := hP
  have hD : va_D A (wSYc G ya yy_0 yy_1 yy_2 yy_3 yy_4 yy_5 yy_6 yy_7 yy_8) := hD
  have h := (f_X1_netOf_e yy_0 yy_1 yy_2 yy_3 yy_4 yy_5 yy_6 yy_7 yy_8 i1 i2).symm.trans h
  refine lv_iconst (v := (0 : Int32)) hx hb dX1_netOf_0 (by decide) ?_
  refine lv_istore_n (lv' := [(3, .int (0 : Int32)), (0, .ref (ya 0)), (1, .int i1), (2, .int i2)]) hx hb dX1_netOf_1 rfl hl (by decide) rfl (fun ls hl => ?_)
  refine lv_iconst (v := (0 : Int32)) hx hb dX1_netOf_2 (by decide) ?_
  refine lv_istore (lv' := [(4, .int (0 : Int32)), (3, .int (0 : Int32)), (0, .ref (ya 0)), (1, .int i1), (2, .int i2)]) hx hb dX1_netOf_3 hl (by decide) rfl (fun ls hl => ?_)
  obtain ⟨w2, hw2, h⟩ := sp_b h
  refine xk_jn G A s.heap (wSYc G ya yy_0 yy_1 yy_2 yy_3 yy_4 yy_5 yy_6 yy_7 yy_8) 5 [(3, .int w2)] 49 [] (fun H locs hP hD hS ls hl => ?_) (fun J1 => ?_)
  · refine lv_iload_n hx hb dX1_netOf_49 rfl (lv_at hl 0 rfl) ?_
    obtain rfl := sp_s h
    exact xk_reI hx hb hr hlk hP hD hS rfl dX1_netOf_50
  · have h := hw2
    clear hw2
    refine xk_lp (α := Int32 × Int32) G A s.heap (fun a_1 => (wSYc G ya yy_0 yy_1 yy_2 yy_3 yy_4 yy_5 yy_6 yy_7 yy_8)) 5 (fun a_1 => [(4, .int a_1.1), (3, .int a_1.2), (0, .ref (ya 0)), (1, .int i1), (2, .int i2)]) 5 (fun n a_1 => f_X1_netOf_l5 yy_0 yy_1 yy_3 i1 i2 n a_1.1 a_1.2 = some w2) (fun a_1 h => ?_) (fun n ih_1 a_1 h H locs hP hD hS ls hl => ?_) (fun LL => ?_)
    · exact sp_n ((f_X1_netOf_l5_z _ _ _ _ _ _ _).symm.trans h)
    · obtain ⟨x4_1, x3_1⟩ := a_1
      have h := (f_X1_netOf_l5_s yy_0 yy_1 yy_3 i1 i2 n x4_1 x3_1).symm.trans h
      have hP : va_P G.1 vwCl (wSYc G ya yy_0 yy_1 yy_2 yy_3 yy_4 yy_5 yy_6 yy_7 yy_8) H := hP
      have hD : va_D A (wSYc G ya yy_0 yy_1 yy_2 yy_3 yy_4 yy_5 yy_6 yy_7 yy_8) := hD
      have hl : lv_has ls 5 [(4, .int x4_1), (3, .int x3_1), (0, .ref (ya 0)), (1, .int i1), (2, .int i2)] := hl
      refine lv_iload hx hb dX1_netOf_5 (lv_at hl 0 rfl) ?_
      refine lv_aload_n hx hb dX1_netOf_7 rfl (lv_at hl 2 rfl) ?_
      refine va_get (D := G.1) (ci := 1) (v := .int yy_0) (C := RX1) (T := TX1) (N := 9) hx hb hts hinX1 hown hK hP 0 rfl rfl 0 (by decide) (hts (.fieldLink RX1 36 "LessonWeave$Syllabus" "count" "I") (by decide +kernel)) (fun _ h9 => h9) rfl dX1_netOf_8 ?_
      refine lv_icmp_ge (tgt := 49) hx hb dX1_netOf_11 (by decide) (fun c3 => ?_) (fun c3 => ?_)
      · have h := sp_t c3 h
        obtain rfl := sp_s h
        exact J1 _ _ hP hD hS _ (lv_sub hl [1] rfl)
      · have h := sp_f c3 h
        refine lv_iload_n hx hb dX1_netOf_14 rfl (lv_at hl 3 rfl) ?_
        refine lv_iload hx hb dX1_netOf_15 (lv_at hl 0 rfl) ?_
        obtain ⟨o4, ho4, h⟩ := sp_b h
        refine xk_ci (va_runSN (As := [.int i1, .int x4_1]) (rest := []) ⟨hx, hb, hml, hown, hts⟩ (c_X2_has l G i1 x4_1 o4 ho4 H.size) ⟨va_cnB 2 hts gX1_netOf_X2_has_n47 rfl rfl rfl (hNE.2.2.2.2.2.2.2.2.2.2.2.2.2.2.2.2.2.2) (hts (.initialized RX2) (by decide +kernel)) (by decide +kernel) ⟨Nat.le_of_ble_eq_true rfl, Nat.le_of_ble_eq_true rfl⟩, hts (.static yX2_has) (by decide +kernel), trivial⟩ (xk_preS hK hNE (hP.sub (ws' := []) [] rfl) (hD.sub (ws' := []) [] (by decide) rfl)) rfl rfl hl.1 rfl (lv_room (Nat.le_of_ble_eq_true rfl)) dX1_netOf_17 ⟨Nat.le_of_ble_eq_true rfl, Nat.le_of_ble_eq_true rfl⟩) hP hD hS hA [] [0, 1, 2, 3, 4, 5, 6, 7, 8] [0, 1, 2, 3, 4, 5, 6, 7, 8] rfl rfl (by decide) (by decide) rfl (by decide) (fun H locs hP hD hS => ?_)
        have hP : va_P G.1 vwCl (wSYc G ya yy_0 yy_1 yy_2 yy_3 yy_4 yy_5 yy_6 yy_7 yy_8) H := hP
        have hD : va_D A (wSYc G ya yy_0 yy_1 yy_2 yy_3 yy_4 yy_5 yy_6 yy_7 yy_8) := hD
        refine lv_if_eq (tgt := 43) hx hb dX1_netOf_20 (by decide) (fun c5 => ?_) (fun c5 => ?_)
        · have h := sp_t c5 h
          refine lv_iinc (v := (x4_1 + (1 : Int32))) (lv' := [(4, .int (x4_1 + (1 : Int32))), (3, .int x3_1), (0, .ref (ya 0)), (1, .int i1), (2, .int i2)]) hx hb dX1_netOf_43 hl (k := 0) rfl rfl (by decide) rfl (fun ls hl => ?_)
          refine lv_goto (tgt := 5) hx hb dX1_netOf_46 (by decide) ?_
          exact ih_1 ((x4_1 + (1 : Int32)), x3_1) h _ _ hP hD hS _ (lv_sub hl [0, 1, 2, 3, 4] rfl)
        · have h := sp_f c5 h
          refine lv_iload_n hx hb dX1_netOf_23 rfl (lv_at hl 1 rfl) ?_
          refine lv_aload_n hx hb dX1_netOf_24 rfl (lv_at hl 2 rfl) ?_
          refine va_get (D := G.1) (ci := 1) (v := .ref (ya 3)) (C := RX1) (T := TX1) (N := 9) hx hb hts hinX1 hown hK hP 0 rfl rfl 3 (by decide) (hts (.fieldLink RX1 18 "LessonWeave$Syllabus" "worth" "[I") (by decide +kernel)) (fun _ h9 => h9) rfl dX1_netOf_25 ?_
          refine lv_iload hx hb dX1_netOf_28 (lv_at hl 0 rfl) ?_
          obtain ⟨hin6, h⟩ := sp_g h
          refine va_iald hx hb hK hP 3 0 rfl rfl hin6 dX1_netOf_30 ?_
          refine lv_iload_n hx hb dX1_netOf_31 rfl (lv_at hl 4 rfl) ?_
          refine lv_aload_n hx hb dX1_netOf_32 rfl (lv_at hl 2 rfl) ?_
          refine va_get (D := G.1) (ci := 1) (v := .ref (ya 1)) (C := RX1) (T := TX1) (N := 9) hx hb hts hinX1 hown hK hP 0 rfl rfl 1 (by decide) (hts (.fieldLink RX1 9 "LessonWeave$Syllabus" "lessons" "[I") (by decide +kernel)) (fun _ h9 => h9) rfl dX1_netOf_33 ?_
          refine lv_iload hx hb dX1_netOf_36 (lv_at hl 0 rfl) ?_
          refine va_iald hx hb hK hP 1 0 rfl rfl hin6 dX1_netOf_38 ?_
          refine lv_imul hx hb dX1_netOf_39 ?_
          refine lv_isub hx hb dX1_netOf_40 ?_
          refine lv_iadd hx hb dX1_netOf_41 ?_
          refine lv_istore_n (lv' := [(3, .int (x3_1 + ((yy_3 x4_1.toNatClampNeg) - (i2 * (yy_1 x4_1.toNatClampNeg))))), (4, .int x4_1), (0, .ref (ya 0)), (1, .int i1), (2, .int i2)]) hx hb dX1_netOf_42 rfl hl (by decide) rfl (fun ls hl => ?_)
          refine lv_iinc (v := (x4_1 + (1 : Int32))) (lv' := [(4, .int (x4_1 + (1 : Int32))), (3, .int (x3_1 + ((yy_3 x4_1.toNatClampNeg) - (i2 * (yy_1 x4_1.toNatClampNeg))))), (0, .ref (ya 0)), (1, .int i1), (2, .int i2)]) hx hb dX1_netOf_43 hl (k := 1) rfl rfl (by decide) rfl (fun ls hl => ?_)
          refine lv_goto (tgt := 5) hx hb dX1_netOf_46 (by decide) ?_
          exact ih_1 ((x4_1 + (1 : Int32)), (x3_1 + ((yy_3 x4_1.toNatClampNeg) - (i2 * (yy_1 x4_1.toNatClampNeg))))) h _ _ hP hD hS _ (lv_sub hl [0, 1, 2, 3, 4] rfl)
    · exact LL 300 ((0 : Int32), (0 : Int32)) h _ _ hP hD hS _ (lv_sub hl [0, 1, 2, 3, 4] rfl)
def f_X1_bestSet_l7 (yy_0 : Int32) (yy_1 : xF) (yy_2 : xF) (yy_3 : xF) (yy_4 : xF) (yy_5 : xF) (yy_6 : xF) (yy_7 : xF) (yy_8 : xF) (i1 : Int32) : Nat → Int32 → Int32 → Int32 → Option (Int32)
  | 0, _, _, _ => none
  | k9 + 1, x4_1, x3_1, x2_1 =>
    if ((1 : Int32) <<< (yy_0 &&& 31)) ≤ x4_1 then
      some x2_1
    else
      Option.bind (f_X1_isClosed (yy_0, yy_1, yy_2, yy_3, yy_4, yy_5, yy_6, yy_7, yy_8) x4_1) fun (o4 : Int32) =>
      if o4 = 0 then
        f_X1_bestSet_l7 yy_0 yy_1 yy_2 yy_3 yy_4 yy_5 yy_6 yy_7 yy_8 i1 k9 (x4_1 + (1 : Int32)) x3_1 x2_1
      else
        Option.bind (f_X1_netOf (yy_0, yy_1, yy_2, yy_3, yy_4, yy_5, yy_6, yy_7, yy_8) x4_1 i1) fun (o6 : Int32) =>
        if x3_1 < o6 then
          f_X1_bestSet_l7 yy_0 yy_1 yy_2 yy_3 yy_4 yy_5 yy_6 yy_7 yy_8 i1 k9 (x4_1 + (1 : Int32)) o6 x4_1
        else
          if o6 = x3_1 then
            Option.bind (f_J6_bitCount_0f7a4 x4_1) fun (o9 : Int32) =>
            Option.bind (f_J6_bitCount_0f7a4 x2_1) fun (o10 : Int32) =>
            if o10 ≤ o9 then
              f_X1_bestSet_l7 yy_0 yy_1 yy_2 yy_3 yy_4 yy_5 yy_6 yy_7 yy_8 i1 k9 (x4_1 + (1 : Int32)) x3_1 x2_1
            else
              f_X1_bestSet_l7 yy_0 yy_1 yy_2 yy_3 yy_4 yy_5 yy_6 yy_7 yy_8 i1 k9 (x4_1 + (1 : Int32)) o6 x4_1
          else
            f_X1_bestSet_l7 yy_0 yy_1 yy_2 yy_3 yy_4 yy_5 yy_6 yy_7 yy_8 i1 k9 (x4_1 + (1 : Int32)) x3_1 x2_1
theorem f_X1_bestSet_l7_z (yy_0 : Int32) (yy_1 : xF) (yy_2 : xF) (yy_3 : xF) (yy_4 : xF) (yy_5 : xF) (yy_6 : xF) (yy_7 : xF) (yy_8 : xF) (i1 : Int32) (x4_1 : Int32) (x3_1 : Int32) (x2_1 : Int32) : f_X1_bestSet_l7 yy_0 yy_1 yy_2 yy_3 yy_4 yy_5 yy_6 yy_7 yy_8 i1 0 x4_1 x3_1 x2_1 = none := rfl
theorem f_X1_bestSet_l7_s (yy_0 : Int32) (yy_1 : xF) (yy_2 : xF) (yy_3 : xF) (yy_4 : xF) (yy_5 : xF) (yy_6 : xF) (yy_7 : xF) (yy_8 : xF) (i1 : Int32) (k9 : Nat) (x4_1 : Int32) (x3_1 : Int32) (x2_1 : Int32) : f_X1_bestSet_l7 yy_0 yy_1 yy_2 yy_3 yy_4 yy_5 yy_6 yy_7 yy_8 i1 (k9 + 1) x4_1 x3_1 x2_1 =
    if ((1 : Int32) <<< (yy_0 &&& 31)) ≤ x4_1 then
      some x2_1
    else
      Option.bind (f_X1_isClosed (yy_0, yy_1, yy_2, yy_3, yy_4, yy_5, yy_6, yy_7, yy_8) x4_1) fun (o4 : Int32) =>
      if o4 = 0 then
        f_X1_bestSet_l7 yy_0 yy_1 yy_2 yy_3 yy_4 yy_5 yy_6 yy_7 yy_8 i1 k9 (x4_1 + (1 : Int32)) x3_1 x2_1
      else
        Option.bind (f_X1_netOf (yy_0, yy_1, yy_2, yy_3, yy_4, yy_5, yy_6, yy_7, yy_8) x4_1 i1) fun (o6 : Int32) =>
        if x3_1 < o6 then
          f_X1_bestSet_l7 yy_0 yy_1 yy_2 yy_3 yy_4 yy_5 yy_6 yy_7 yy_8 i1 k9 (x4_1 + (1 : Int32)) o6 x4_1
        else
          if o6 = x3_1 then
            Option.bind (f_J6_bitCount_0f7a4 x4_1) fun (o9 : Int32) =>
            Option.bind (f_J6_bitCount_0f7a4 x2_1) fun (o10 : Int32) =>
            if o10 ≤ o9 then
              f_X1_bestSet_l7 yy_0 yy_1 yy_2 yy_3 yy_4 yy_5 yy_6 yy_7 yy_8 i1 k9 (x4_1 + (1 : Int32)) x3_1 x2_1
            else
              f_X1_bestSet_l7 yy_0 yy_1 yy_2 yy_3 yy_4 yy_5 yy_6 yy_7 yy_8 i1 k9 (x4_1 + (1 : Int32)) o6 x4_1
          else
            f_X1_bestSet_l7 yy_0 yy_1 yy_2 yy_3 yy_4 yy_5 yy_6 yy_7 yy_8 i1 k9 (x4_1 + (1 : Int32)) x3_1 x2_1 := rfl
def f_X1_bestSet (yy : xSY) (i1 : Int32) : Option (Int32) :=
  Option.bind (f_X1_bestSet_l7 yy.1 yy.2.1 yy.2.2.1 yy.2.2.2.1 yy.2.2.2.2.1 yy.2.2.2.2.2.1 yy.2.2.2.2.2.2.1 yy.2.2.2.2.2.2.2.1 yy.2.2.2.2.2.2.2.2 i1 5000 (1 : Int32) (0 : Int32) (0 : Int32)) fun (w2 : Int32) =>
  some w2
theorem f_X1_bestSet_e (yy_0 : Int32) (yy_1 : xF) (yy_2 : xF) (yy_3 : xF) (yy_4 : xF) (yy_5 : xF) (yy_6 : xF) (yy_7 : xF) (yy_8 : xF) (i1 : Int32) : f_X1_bestSet (yy_0, yy_1, yy_2, yy_3, yy_4, yy_5, yy_6, yy_7, yy_8) i1 =
  Option.bind (f_X1_bestSet_l7 yy_0 yy_1 yy_2 yy_3 yy_4 yy_5 yy_6 yy_7 yy_8 i1 5000 (1 : Int32) (0 : Int32) (0 : Int32)) fun (w2 : Int32) =>
  some w2 := rfl
set_option maxHeartbeats 4000000 in
set_option maxRecDepth 100000 in
theorem c_X1_bestSet (l : Launch) (G : xG) (ya : (Nat → Nat)) (yy : xSY) (i1 : Int32) (o : Int32) (h : f_X1_bestSet yy i1 = some o) : xk_CI l yX1_bestSet wsX1_bestSet ({ frames := 2, cells := 0, slots := 0, locals := 45 } : Room) 0 0 [.ref (ya 0), .int i1] G (wSYc G ya yy.1 yy.2.1 yy.2.2.1 yy.2.2.2.1 yy.2.2.2.2.1 yy.2.2.2.2.2.1 yy.2.2.2.2.2.2.1 yy.2.2.2.2.2.2.2.1 yy.2.2.2.2.2.2.2.2) (wSYc G ya yy.1 yy.2.1 yy.2.2.1 yy.2.2.2.1 yy.2.2.2.2.1 yy.2.2.2.2.2.1 yy.2.2.2.2.2.2.1 yy.2.2.2.2.2.2.2.1 yy.2.2.2.2.2.2.2.2) o := by
  obtain ⟨yy_0, yy_1, yy_2, yy_3, yy_4, yy_5, yy_6, yy_7, yy_8⟩ := yy
  refine xk_CI.of (cc := cX1_bestSet) (maxL := 6) (ret := (some .int)) (by decide) rfl (Nat.le_of_ble_eq_true rfl) ?_
  intro pr9 en9 s mm9 bl9 meth9 cd9 A ls H locs hx hb hr hml hts hown hlk hA hP hK hD hNE hS hl
  have hown : s.vm.findClass RX1 = some mm9.cls := hown
  have hl : lv_has ls 6 [(0, .ref (ya 0)), (1, .int i1)] := hl
  have hinX1 : ∀ w ∈ u_ws RX1 TX1 9, w ∈ wsX1_bestSet := by decide +kernel
  have hP : va_P G.1 vwCl (wSYc G ya yy_0 yy_1 yy_2 yy_3 yy_4 yy_5 yy_6 yy_7 yy_8) H := hP
  have hD : va_D A (wSYc G ya yy_0 yy_1 yy_2 yy_3 yy_4 yy_5 yy_6 yy_7 yy_8) := hD
  have h := (f_X1_bestSet_e yy_0 yy_1 yy_2 yy_3 yy_4 yy_5 yy_6 yy_7 yy_8 i1).symm.trans h
  refine lv_iconst (v := (0 : Int32)) hx hb dX1_bestSet_0 (by decide) ?_
  refine lv_istore_n (lv' := [(2, .int (0 : Int32)), (0, .ref (ya 0)), (1, .int i1)]) hx hb dX1_bestSet_1 rfl hl (by decide) rfl (fun ls hl => ?_)
  refine lv_iconst (v := (0 : Int32)) hx hb dX1_bestSet_2 (by decide) ?_
  refine lv_istore_n (lv' := [(3, .int (0 : Int32)), (2, .int (0 : Int32)), (0, .ref (ya 0)), (1, .int i1)]) hx hb dX1_bestSet_3 rfl hl (by decide) rfl (fun ls hl => ?_)
  refine lv_iconst (v := (1 : Int32)) hx hb dX1_bestSet_4 (by decide) ?_
  refine lv_istore (lv' := [(4, .int (1 : Int32)), (3, .int (0 : Int32)), (2, .int (0 : Int32)), (0, .ref (ya 0)), (1, .int i1)]) hx hb dX1_bestSet_5 hl (by decide) rfl (fun ls hl => ?_)
  obtain ⟨w2, hw2, h⟩ := sp_b h
  refine xk_jn G A s.heap (wSYc G ya yy_0 yy_1 yy_2 yy_3 yy_4 yy_5 yy_6 yy_7 yy_8) 6 [(2, .int w2)] 75 [] (fun H locs hP hD hS ls hl => ?_) (fun J1 => ?_)
  · refine lv_iload_n hx hb dX1_bestSet_75 rfl (lv_at hl 0 rfl) ?_
    obtain rfl := sp_s h
    exact xk_reI hx hb hr hlk hP hD hS rfl dX1_bestSet_76
  · have h := hw2
    clear hw2
    refine xk_lp (α := Int32 × Int32 × Int32) G A s.heap (fun a_1 => (wSYc G ya yy_0 yy_1 yy_2 yy_3 yy_4 yy_5 yy_6 yy_7 yy_8)) 6 (fun a_1 => [(4, .int a_1.1), (3, .int a_1.2.1), (2, .int a_1.2.2), (0, .ref (ya 0)), (1, .int i1)]) 7 (fun n a_1 => f_X1_bestSet_l7 yy_0 yy_1 yy_2 yy_3 yy_4 yy_5 yy_6 yy_7 yy_8 i1 n a_1.1 a_1.2.1 a_1.2.2 = some w2) (fun a_1 h => ?_) (fun n ih_1 a_1 h H locs hP hD hS ls hl => ?_) (fun LL => ?_)
    · exact sp_n ((f_X1_bestSet_l7_z _ _ _ _ _ _ _ _ _ _ _ _ _).symm.trans h)
    · obtain ⟨x4_1, x3_1, x2_1⟩ := a_1
      have h := (f_X1_bestSet_l7_s yy_0 yy_1 yy_2 yy_3 yy_4 yy_5 yy_6 yy_7 yy_8 i1 n x4_1 x3_1 x2_1).symm.trans h
      have hP : va_P G.1 vwCl (wSYc G ya yy_0 yy_1 yy_2 yy_3 yy_4 yy_5 yy_6 yy_7 yy_8) H := hP
      have hD : va_D A (wSYc G ya yy_0 yy_1 yy_2 yy_3 yy_4 yy_5 yy_6 yy_7 yy_8) := hD
      have hl : lv_has ls 6 [(4, .int x4_1), (3, .int x3_1), (2, .int x2_1), (0, .ref (ya 0)), (1, .int i1)] := hl
      refine lv_iload hx hb dX1_bestSet_7 (lv_at hl 0 rfl) ?_
      refine lv_iconst (v := (1 : Int32)) hx hb dX1_bestSet_9 (by decide) ?_
      refine lv_aload_n hx hb dX1_bestSet_10 rfl (lv_at hl 3 rfl) ?_
      refine va_get (D := G.1) (ci := 1) (v := .int yy_0) (C := RX1) (T := TX1) (N := 9) hx hb hts hinX1 hown hK hP 0 rfl rfl 0 (by decide) (hts (.fieldLink RX1 36 "LessonWeave$Syllabus" "count" "I") (by decide +kernel)) (fun _ h9 => h9) rfl dX1_bestSet_11 ?_
      refine lv_ishl hx hb dX1_bestSet_14 ?_
      refine lv_icmp_ge (tgt := 75) hx hb dX1_bestSet_15 (by decide) (fun c3 => ?_) (fun c3 => ?_)
      · have h := sp_t c3 h
        obtain rfl := sp_s h
        exact J1 _ _ hP hD hS _ (lv_sub hl [2] rfl)
      · have h := sp_f c3 h
        refine lv_aload_n hx hb dX1_bestSet_18 rfl (lv_at hl 3 rfl) ?_
        refine lv_iload hx hb dX1_bestSet_19 (lv_at hl 0 rfl) ?_
        obtain ⟨o4, ho4, h⟩ := sp_b h
        refine xk_ci (va_runV (As := [.int x4_1]) (rest := []) ⟨hx, hb, hml, hown, hts⟩ (c_X1_isClosed l G ya (yy_0, yy_1, yy_2, yy_3, yy_4, yy_5, yy_6, yy_7, yy_8) x4_1 o4 ho4 H.size) (cwV 1 hts gX1_bestSet_X1_isClosed rfl rfl rfl (by decide +kernel) ⟨Nat.le_of_ble_eq_true rfl, Nat.le_of_ble_eq_true rfl⟩) (xk_preV hK hNE (hP.sub (ws' := (wSYc G ya yy_0 yy_1 yy_2 yy_3 yy_4 yy_5 yy_6 yy_7 yy_8)) [0, 1, 2, 3, 4, 5, 6, 7, 8] rfl) (hD.sub (ws' := (wSYc G ya yy_0 yy_1 yy_2 yy_3 yy_4 yy_5 yy_6 yy_7 yy_8)) [0, 1, 2, 3, 4, 5, 6, 7, 8] (by decide) rfl) (ci := 1) rfl rfl) rfl rfl hl.1 rfl (lv_room (Nat.le_of_ble_eq_true rfl)) dX1_bestSet_21 ⟨Nat.le_of_ble_eq_true rfl, Nat.le_of_ble_eq_true rfl⟩) hP hD hS hA [0, 1, 2, 3, 4, 5, 6, 7, 8] [] [0, 1, 2, 3, 4, 5, 6, 7, 8] rfl rfl (by decide) (by decide) rfl (by decide) (fun H locs hP hD hS => ?_)
        have hP : va_P G.1 vwCl (wSYc G ya yy_0 yy_1 yy_2 yy_3 yy_4 yy_5 yy_6 yy_7 yy_8) H := hP
        have hD : va_D A (wSYc G ya yy_0 yy_1 yy_2 yy_3 yy_4 yy_5 yy_6 yy_7 yy_8) := hD
        refine lv_if_ne (tgt := 30) hx hb dX1_bestSet_24 (by decide) (fun c5 => ?_) (fun c5 => ?_)
        · have h := sp_f c5 h
          refine lv_aload_n hx hb dX1_bestSet_30 rfl (lv_at hl 3 rfl) ?_
          refine lv_iload hx hb dX1_bestSet_31 (lv_at hl 0 rfl) ?_
          refine lv_iload_n hx hb dX1_bestSet_33 rfl (lv_at hl 4 rfl) ?_
          obtain ⟨o6, ho6, h⟩ := sp_b h
          refine xk_ci (va_runV (As := [.int x4_1, .int i1]) (rest := []) ⟨hx, hb, hml, hown, hts⟩ (c_X1_netOf l G ya (yy_0, yy_1, yy_2, yy_3, yy_4, yy_5, yy_6, yy_7, yy_8) x4_1 i1 o6 ho6 H.size) (cwV 2 hts gX1_bestSet_X1_netOf rfl rfl rfl (by decide +kernel) ⟨Nat.le_of_ble_eq_true rfl, Nat.le_of_ble_eq_true rfl⟩) (xk_preV hK hNE (hP.sub (ws' := (wSYc G ya yy_0 yy_1 yy_2 yy_3 yy_4 yy_5 yy_6 yy_7 yy_8)) [0, 1, 2, 3, 4, 5, 6, 7, 8] rfl) (hD.sub (ws' := (wSYc G ya yy_0 yy_1 yy_2 yy_3 yy_4 yy_5 yy_6 yy_7 yy_8)) [0, 1, 2, 3, 4, 5, 6, 7, 8] (by decide) rfl) (ci := 1) rfl rfl) rfl rfl hl.1 rfl (lv_room (Nat.le_of_ble_eq_true rfl)) dX1_bestSet_34 ⟨Nat.le_of_ble_eq_true rfl, Nat.le_of_ble_eq_true rfl⟩) hP hD hS hA [0, 1, 2, 3, 4, 5, 6, 7, 8] [] [0, 1, 2, 3, 4, 5, 6, 7, 8] rfl rfl (by decide) (by decide) rfl (by decide) (fun H locs hP hD hS => ?_)
          have hP : va_P G.1 vwCl (wSYc G ya yy_0 yy_1 yy_2 yy_3 yy_4 yy_5 yy_6 yy_7 yy_8) H := hP
          have hD : va_D A (wSYc G ya yy_0 yy_1 yy_2 yy_3 yy_4 yy_5 yy_6 yy_7 yy_8) := hD
          refine lv_istore (lv' := [(5, .int o6), (4, .int x4_1), (3, .int x3_1), (2, .int x2_1), (0, .ref (ya 0)), (1, .int i1)]) hx hb dX1_bestSet_37 hl (by decide) rfl (fun ls hl => ?_)
          refine lv_iload hx hb dX1_bestSet_39 (lv_at hl 0 rfl) ?_
          refine lv_iload_n hx hb dX1_bestSet_41 rfl (lv_at hl 2 rfl) ?_
          refine lv_icmp_gt (tgt := 63) hx hb dX1_bestSet_42 (by decide) (fun c7 => ?_) (fun c7 => ?_)
          · have h := sp_t c7 h
            refine lv_iload hx hb dX1_bestSet_63 (lv_at hl 1 rfl) ?_
            refine lv_istore_n (lv' := [(2, .int x4_1), (5, .int o6), (4, .int x4_1), (3, .int x3_1), (0, .ref (ya 0)), (1, .int i1)]) hx hb dX1_bestSet_65 rfl hl (by decide) rfl (fun ls hl => ?_)
            refine lv_iload hx hb dX1_bestSet_66 (lv_at hl 1 rfl) ?_
            refine lv_istore_n (lv' := [(3, .int o6), (2, .int x4_1), (5, .int o6), (4, .int x4_1), (0, .ref (ya 0)), (1, .int i1)]) hx hb dX1_bestSet_68 rfl hl (by decide) rfl (fun ls hl => ?_)
            refine lv_iinc (v := (x4_1 + (1 : Int32))) (lv' := [(4, .int (x4_1 + (1 : Int32))), (3, .int o6), (2, .int x4_1), (5, .int o6), (0, .ref (ya 0)), (1, .int i1)]) hx hb dX1_bestSet_69 hl (k := 3) rfl rfl (by decide) rfl (fun ls hl => ?_)
            refine lv_goto (tgt := 7) hx hb dX1_bestSet_72 (by decide) ?_
            exact ih_1 ((x4_1 + (1 : Int32)), o6, x4_1) h _ _ hP hD hS _ (lv_sub hl [0, 1, 2, 4, 5] rfl)
          · have h := sp_f c7 h
            refine lv_iload hx hb dX1_bestSet_45 (lv_at hl 0 rfl) ?_
            refine lv_iload_n hx hb dX1_bestSet_47 rfl (lv_at hl 2 rfl) ?_
            refine lv_icmp_ne (tgt := 69) hx hb dX1_bestSet_48 (by decide) (fun c8 => ?_) (fun c8 => ?_)
            · have h := sp_f c8 h
              refine lv_iinc (v := (x4_1 + (1 : Int32))) (lv' := [(4, .int (x4_1 + (1 : Int32))), (5, .int o6), (3, .int x3_1), (2, .int x2_1), (0, .ref (ya 0)), (1, .int i1)]) hx hb dX1_bestSet_69 hl (k := 1) rfl rfl (by decide) rfl (fun ls hl => ?_)
              refine lv_goto (tgt := 7) hx hb dX1_bestSet_72 (by decide) ?_
              exact ih_1 ((x4_1 + (1 : Int32)), x3_1, x2_1) h _ _ hP hD hS _ (lv_sub hl [0, 2, 3, 4, 5] rfl)
            · have h := sp_t c8 h
              refine lv_iload hx hb dX1_bestSet_51 (lv_at hl 1 rfl) ?_
              obtain ⟨o9, ho9, h⟩ := sp_b h
              refine xk_ci (va_runS (As := [.int x4_1]) (rest := []) ⟨hx, hb, hml, hown, hts⟩ (c_J6_bitCount_0f7a4 l G x4_1 o9 ho9 H.size) (va_cwS 1 hts gX1_bestSet_J6_bitCount_0f7a4 rfl rfl rfl (by decide +kernel) ⟨Nat.le_of_ble_eq_true rfl, Nat.le_of_ble_eq_true rfl⟩) (xk_preS hK hNE (hP.sub (ws' := []) [] rfl) (hD.sub (ws' := []) [] (by decide) rfl)) rfl rfl hl.1 rfl (lv_room (Nat.le_of_ble_eq_true rfl)) dX1_bestSet_53 ⟨Nat.le_of_ble_eq_true rfl, Nat.le_of_ble_eq_true rfl⟩) hP hD hS hA [] [0, 1, 2, 3, 4, 5, 6, 7, 8] [0, 1, 2, 3, 4, 5, 6, 7, 8] rfl rfl (by decide) (by decide) rfl (by decide) (fun H locs hP hD hS => ?_)
              have hP : va_P G.1 vwCl (wSYc G ya yy_0 yy_1 yy_2 yy_3 yy_4 yy_5 yy_6 yy_7 yy_8) H := hP
              have hD : va_D A (wSYc G ya yy_0 yy_1 yy_2 yy_3 yy_4 yy_5 yy_6 yy_7 yy_8) := hD
              refine lv_iload_n hx hb dX1_bestSet_56 rfl (lv_at hl 3 rfl) ?_
              obtain ⟨o10, ho10, h⟩ := sp_b h
              refine xk_ci (va_runS (As := [.int x2_1]) (rest := [.int o9]) ⟨hx, hb, hml, hown, hts⟩ (c_J6_bitCount_0f7a4 l G x2_1 o10 ho10 H.size) (va_cwS 1 hts gX1_bestSet_J6_bitCount_0f7a4 rfl rfl rfl (by decide +kernel) ⟨Nat.le_of_ble_eq_true rfl, Nat.le_of_ble_eq_true rfl⟩) (xk_preS hK hNE (hP.sub (ws' := []) [] rfl) (hD.sub (ws' := []) [] (by decide) rfl)) rfl rfl hl.1 rfl (lv_room (Nat.le_of_ble_eq_true rfl)) dX1_bestSet_57 ⟨Nat.le_of_ble_eq_true rfl, Nat.le_of_ble_eq_true rfl⟩) hP hD hS hA [] [0, 1, 2, 3, 4, 5, 6, 7, 8] [0, 1, 2, 3, 4, 5, 6, 7, 8] rfl rfl (by decide) (by decide) rfl (by decide) (fun H locs hP hD hS => ?_)
              have hP : va_P G.1 vwCl (wSYc G ya yy_0 yy_1 yy_2 yy_3 yy_4 yy_5 yy_6 yy_7 yy_8) H := hP
              have hD : va_D A (wSYc G ya yy_0 yy_1 yy_2 yy_3 yy_4 yy_5 yy_6 yy_7 yy_8) := hD
              refine lv_icmp_ge (tgt := 69) hx hb dX1_bestSet_60 (by decide) (fun c11 => ?_) (fun c11 => ?_)
              · have h := sp_t c11 h
                refine lv_iinc (v := (x4_1 + (1 : Int32))) (lv' := [(4, .int (x4_1 + (1 : Int32))), (5, .int o6), (3, .int x3_1), (2, .int x2_1), (0, .ref (ya 0)), (1, .int i1)]) hx hb dX1_bestSet_69 hl (k := 1) rfl rfl (by decide) rfl (fun ls hl => ?_)
                refine lv_goto (tgt := 7) hx hb dX1_bestSet_72 (by decide) ?_
                exact ih_1 ((x4_1 + (1 : Int32)), x3_1, x2_1) h _ _ hP hD hS _ (lv_sub hl [0, 2, 3, 4, 5] rfl)
              · have h := sp_f c11 h
                refine lv_iload hx hb dX1_bestSet_63 (lv_at hl 1 rfl) ?_
                refine lv_istore_n (lv' := [(2, .int x4_1), (5, .int o6), (4, .int x4_1), (3, .int x3_1), (0, .ref (ya 0)), (1, .int i1)]) hx hb dX1_bestSet_65 rfl hl (by decide) rfl (fun ls hl => ?_)
                refine lv_iload hx hb dX1_bestSet_66 (lv_at hl 1 rfl) ?_
                refine lv_istore_n (lv' := [(3, .int o6), (2, .int x4_1), (5, .int o6), (4, .int x4_1), (0, .ref (ya 0)), (1, .int i1)]) hx hb dX1_bestSet_68 rfl hl (by decide) rfl (fun ls hl => ?_)
                refine lv_iinc (v := (x4_1 + (1 : Int32))) (lv' := [(4, .int (x4_1 + (1 : Int32))), (3, .int o6), (2, .int x4_1), (5, .int o6), (0, .ref (ya 0)), (1, .int i1)]) hx hb dX1_bestSet_69 hl (k := 3) rfl rfl (by decide) rfl (fun ls hl => ?_)
                refine lv_goto (tgt := 7) hx hb dX1_bestSet_72 (by decide) ?_
                exact ih_1 ((x4_1 + (1 : Int32)), o6, x4_1) h _ _ hP hD hS _ (lv_sub hl [0, 1, 2, 4, 5] rfl)
        · have h := sp_t c5 h
          refine lv_goto (tgt := 69) hx hb dX1_bestSet_27 (by decide) ?_
          refine lv_iinc (v := (x4_1 + (1 : Int32))) (lv' := [(4, .int (x4_1 + (1 : Int32))), (3, .int x3_1), (2, .int x2_1), (0, .ref (ya 0)), (1, .int i1)]) hx hb dX1_bestSet_69 hl (k := 0) rfl rfl (by decide) rfl (fun ls hl => ?_)
          refine lv_goto (tgt := 7) hx hb dX1_bestSet_72 (by decide) ?_
          exact ih_1 ((x4_1 + (1 : Int32)), x3_1, x2_1) h _ _ hP hD hS _ (lv_sub hl [0, 1, 2, 3, 4] rfl)
    · exact LL 5000 ((1 : Int32), (0 : Int32), (0 : Int32)) h _ _ hP hD hS _ (lv_sub hl [0, 1, 2, 3, 4] rfl)
