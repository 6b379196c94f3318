set_option maxHeartbeats 8000000 in
set_option maxRecDepth 100000 in
theorem c_L_isIn (l : Launch) (G : xG)  (i0 : Int32) (i1 : Int32) (o : Int32) (h : f_L_isIn i0 i1 = some o) : xk_CI l yL_isIn wsL_isIn ({ frames := 0, cells := 0, slots := 0, locals := 0 } : Room) 0 0 [.int i0, .int i1] G [] [] o := by
  refine xk_CI.of (cc := cL_isIn) (maxL := 2) (ret := (some .boolean)) (by decide) rfl (Nat.le_of_ble_eq_true rfl) ?_
  intro pr9 en9 s mm9 bl9 meth9 cd9 A ls H locs hx hb hr hml hts hown hlk hA hP hK hD hNE hS hl
  have hown : s.vm.findClass RL = some mm9.cls := hown
  have hl : lv_has ls 2 [(0, .int i0), (1, .int i1)] := hl
  have h := (f_L_isIn_e i0 i1).symm.trans h
  refine lv_iload_n hx hb dL_isIn_0 rfl (lv_at hl 0 rfl) ?_
  refine lv_iload_n hx hb dL_isIn_1 rfl (lv_at hl 1 rfl) ?_
  refine lv_ishr hx hb dL_isIn_2 ?_
  refine lv_iconst (v := (1 : Int32)) hx hb dL_isIn_3 (by decide) ?_
  refine lv_iand hx hb dL_isIn_4 ?_
  refine lv_iconst (v := (1 : Int32)) hx hb dL_isIn_5 (by decide) ?_
  refine lv_icmp_ne (tgt := 13) hx hb dL_isIn_6 (by decide) (fun c1 => ?_) (fun c1 => ?_)
  · have h := sp_f c1 h
    refine lv_iconst (v := (0 : Int32)) hx hb dL_isIn_13 (by decide) ?_
    obtain rfl := sp_s h
    exact xk_reZ hx hb hr hlk rfl xf_p0 xf_d0 hS rfl dL_isIn_14
  · have h := sp_t c1 h
    refine lv_iconst (v := (1 : Int32)) hx hb dL_isIn_9 (by decide) ?_
    refine lv_goto (tgt := 14) hx hb dL_isIn_10 (by decide) ?_
    obtain rfl := sp_s h
    exact xk_reZ hx hb hr hlk rfl xf_p0 xf_d0 hS rfl dL_isIn_14
set_option maxHeartbeats 8000000 in
set_option maxRecDepth 100000 in
theorem c_L_size (l : Launch) (G : xG)  (i0 : Int32) (o : Int32) (h : f_L_size i0 = some o) : xk_CI l yL_size wsL_size ({ frames := 0, cells := 0, slots := 0, locals := 0 } : Room) 0 0 [.int i0] G [] [] o := by
  refine xk_CI.of (cc := cL_size) (maxL := 3) (ret := (some .int)) (by decide) rfl (Nat.le_of_ble_eq_true rfl) ?_
  intro pr9 en9 s mm9 bl9 meth9 cd9 A ls H locs hx hb hr hml hts hown hlk hA hP hK hD hNE hS hl
  have hown : s.vm.findClass RL = some mm9.cls := hown
  have hl : lv_has ls 3 [(0, .int i0)] := hl
  have h := (f_L_size_e i0).symm.trans h
  refine lv_iconst (v := (0 : Int32)) hx hb dL_size_0 (by decide) ?_
  refine lv_istore_n (lv' := [(1, .int (0 : Int32)), (0, .int i0)]) hx hb dL_size_1 rfl hl (by decide) rfl (fun ls hl => ?_)
  refine lv_iload_n hx hb dL_size_2 rfl (lv_at hl 1 rfl) ?_
  refine lv_istore_n (lv' := [(2, .int i0), (1, .int (0 : Int32)), (0, .int i0)]) hx hb dL_size_3 rfl hl (by decide) rfl (fun ls hl => ?_)
  obtain ⟨w2, hw2, h⟩ := sp_b h
  refine xk_jn G A s.heap ([] : va_W) 3 [(1, .int w2)] 20 [] (fun H locs hP hD hS ls hl => ?_) (fun J1 => ?_)
  · refine lv_iload_n hx hb dL_size_20 rfl (lv_at hl 0 rfl) ?_
    obtain rfl := sp_s h
    exact xk_reI hx hb hr hlk xf_p0 xf_d0 hS rfl dL_size_21
  · have h := hw2
    clear hw2
    refine xk_lp (α := Int32 × Int32) G A s.heap (fun a_1 => ([] : va_W)) 3 (fun a_1 => [(2, .int a_1.1), (1, .int a_1.2)]) 4 (fun n a_1 => f_L_size_l4  n a_1.1 a_1.2 = some w2) (fun a_1 h => ?_) (fun n ih_1 a_1 h H locs hP hD hS ls hl => ?_) (fun LL => ?_)
    · exact sp_n ((f_L_size_l4_z _ _).symm.trans h)
    · obtain ⟨x2_1, x1_1⟩ := a_1
      have h := (f_L_size_l4_s  n x2_1 x1_1).symm.trans h
      have hP : va_P G.1 vwCl ([] : va_W) H := hP
      have hD : va_D A ([] : va_W) := hD
      have hl : lv_has ls 3 [(2, .int x2_1), (1, .int x1_1)] := hl
      refine lv_iload_n hx hb dL_size_4 rfl (lv_at hl 0 rfl) ?_
      refine lv_if_eq (tgt := 20) hx hb dL_size_5 (by decide) (fun c3 => ?_) (fun c3 => ?_)
      · have h := sp_t c3 h
        obtain rfl := sp_s h
        exact J1 _ _ hP hD hS _ (lv_sub hl [1] rfl)
      · have h := sp_f c3 h
        refine lv_iinc (v := (x1_1 + (1 : Int32))) (lv' := [(1, .int (x1_1 + (1 : Int32))), (2, .int x2_1)]) hx hb dL_size_8 hl (k := 1) rfl rfl (by decide) rfl (fun ls hl => ?_)
        refine lv_iload_n hx hb dL_size_11 rfl (lv_at hl 1 rfl) ?_
        refine lv_iload_n hx hb dL_size_12 rfl (lv_at hl 1 rfl) ?_
        refine lv_iconst (v := (1 : Int32)) hx hb dL_size_13 (by decide) ?_
        refine lv_isub hx hb dL_size_14 ?_
        refine lv_iand hx hb dL_size_15 ?_
        refine lv_istore_n (lv' := [(2, .int (x2_1 &&& (x2_1 - (1 : Int32)))), (1, .int (x1_1 + (1 : Int32)))]) hx hb dL_size_16 rfl hl (by decide) rfl (fun ls hl => ?_)
        refine lv_goto (tgt := 4) hx hb dL_size_17 (by decide) ?_
        exact ih_1 ((x2_1 &&& (x2_1 - (1 : Int32))), (x1_1 + (1 : Int32))) h _ _ hP hD hS _ (lv_sub hl [0, 1] rfl)
    · exact LL 300 (i0, (0 : Int32)) h _ _ hP hD hS _ (lv_sub hl [0, 1] rfl)
set_option maxHeartbeats 8000000 in
set_option maxRecDepth 100000 in
theorem c_L_isLost (l : Launch) (G : xG) (akl : Nat) (kl : (Nat → Int64)) (i1 : Int32) (o : Int32) (h : f_L_isLost kl i1 = some o) : xk_CI l yL_isLost wsL_isLost ({ frames := 0, cells := 0, slots := 0, locals := 0 } : Room) 0 0 [.ref akl, .int i1] G ((wOU G akl kl)) ((wOU G akl kl)) o := by
  refine xk_CI.of (cc := cL_isLost) (maxL := 2) (ret := (some .boolean)) (by decide) rfl (Nat.le_of_ble_eq_true rfl) ?_
  intro pr9 en9 s mm9 bl9 meth9 cd9 A ls H locs hx hb hr hml hts hown hlk hA hP hK hD hNE hS hl
  have hown : s.vm.findClass RL = some mm9.cls := hown
  have hl : lv_has ls 2 [(0, .ref akl), (1, .int i1)] := hl
  have hP : va_P G.1 vwCl ((wOU G akl kl)) H := hP
  have hD : va_D A ((wOU G akl kl)) := hD
  have h := (f_L_isLost_e kl i1).symm.trans h
  refine lv_aload_n hx hb dL_isLost_0 rfl (lv_at hl 0 rfl) ?_
  refine lv_iload_n hx hb dL_isLost_1 rfl (lv_at hl 1 rfl) ?_
  refine lv_bipush (v := (50 : Int32)) hx hb dL_isLost_2 (by decide) ?_
  refine lv_idiv hx hb dL_isLost_4 (by decide) ?_
  obtain ⟨hin1, h⟩ := sp_g h
  refine va_lald hx hb hK hP 0 2 rfl rfl hin1 dL_isLost_5 ?_
  refine lv_iload_n hx hb dL_isLost_6 rfl (lv_at hl 1 rfl) ?_
  refine lv_bipush (v := (50 : Int32)) hx hb dL_isLost_7 (by decide) ?_
  refine lv_irem hx hb dL_isLost_9 (by decide) ?_
  refine lv_lshr (v := ((kl (i1 / (50 : Int32)).toNatClampNeg) >>> ((i1 - i1 / (50 : Int32) * (50 : Int32)).toInt64 &&& 63))) hx hb dL_isLost_10 rfl ?_
  refine lv_lconst (v := (1 : Int64)) hx hb dL_isLost_11 (by decide) ?_
  refine lv_land hx hb dL_isLost_12 ?_
  refine lv_lconst (v := (1 : Int64)) hx hb dL_isLost_13 (by decide) ?_
  refine W.lcmp hx hb dL_isLost_14 ?_
  refine lv_if_ne (tgt := 22) hx hb dL_isLost_15 (by decide) (fun c2 => ?_) (fun c2 => ?_)
  · have h := sp_f (fun z => c2 (xk_lc.mpr z)) h
    refine lv_iconst (v := (0 : Int32)) hx hb dL_isLost_22 (by decide) ?_
    obtain rfl := sp_s h
    exact xk_reZ hx hb hr hlk rfl hP hD hS rfl dL_isLost_23
  · have h := sp_t (xk_lc.mp c2) h
    refine lv_iconst (v := (1 : Int32)) hx hb dL_isLost_18 (by decide) ?_
    refine lv_goto (tgt := 23) hx hb dL_isLost_19 (by decide) ?_
    obtain rfl := sp_s h
    exact xk_reZ hx hb hr hlk rfl hP hD hS rfl dL_isLost_23
set_option maxHeartbeats 8000000 in
set_option maxRecDepth 100000 in
theorem c_L_thing (l : Launch) (G : xG) (ake : Nat) (akv : Nat) (ke : xF) (kv : xF) (i2 : Int32) (o : Int32) (h : f_L_thing ke kv i2 = some o) : xk_CI l yL_thing wsL_thing ({ frames := 0, cells := 0, slots := 0, locals := 0 } : Room) 0 0 [.ref ake, .ref akv, .int i2] G ((wAR G ake 60 ke) ++ ((wAR G akv 36 kv))) ((wAR G ake 60 ke) ++ ((wAR G akv 36 kv))) o := by
  refine xk_CI.of (cc := cL_thing) (maxL := 6) (ret := (some .int)) (by decide) rfl (Nat.le_of_ble_eq_true rfl) ?_
  intro pr9 en9 s mm9 bl9 meth9 cd9 A ls H locs hx hb hr hml hts hown hlk hA hP hK hD hNE hS hl
  have hown : s.vm.findClass RL = some mm9.cls := hown
  have hl : lv_has ls 6 [(0, .ref ake), (1, .ref akv), (2, .int i2)] := hl
  have hP : va_P G.1 vwCl ((wAR G ake 60 ke) ++ ((wAR G akv 36 kv))) H := hP
  have hD : va_D A ((wAR G ake 60 ke) ++ ((wAR G akv 36 kv))) := hD
  have h := (f_L_thing_e ke kv i2).symm.trans h
  refine lv_iconst (v := ((-1) : Int32)) hx hb dL_thing_0 (by decide) ?_
  refine lv_istore_n (lv' := [(3, .int ((-1) : Int32)), (0, .ref ake), (1, .ref akv), (2, .int i2)]) hx hb dL_thing_1 rfl hl (by decide) rfl (fun ls hl => ?_)
  refine lv_iconst (v := (0 : Int32)) hx hb dL_thing_2 (by decide) ?_
  refine lv_istore (lv' := [(4, .int (0 : Int32)), (3, .int ((-1) : Int32)), (0, .ref ake), (1, .ref akv), (2, .int i2)]) hx hb dL_thing_3 hl (by decide) rfl (fun ls hl => ?_)
  obtain ⟨w2, hw2, h⟩ := sp_b h
  refine xk_jn G A s.heap ((wAR G ake 60 ke) ++ ((wAR G akv 36 kv))) 6 [(3, .int w2)] 94 [] (fun H locs hP hD hS ls hl => ?_) (fun J1 => ?_)
  · refine lv_iload_n hx hb dL_thing_94 rfl (lv_at hl 0 rfl) ?_
    obtain rfl := sp_s h
    exact xk_reI hx hb hr hlk hP hD hS rfl dL_thing_95
  · have h := hw2
    clear hw2
    refine xk_lp (α := Int32 × Int32) G A s.heap (fun a_1 => ((wAR G ake 60 ke) ++ ((wAR G akv 36 kv)))) 6 (fun a_1 => [(4, .int a_1.1), (3, .int a_1.2), (0, .ref ake), (1, .ref akv), (2, .int i2)]) 5 (fun n a_1 => f_L_thing_l5 ke kv i2 n a_1.1 a_1.2 = some w2) (fun a_1 h => ?_) (fun n ih_1 a_1 h H locs hP hD hS ls hl => ?_) (fun LL => ?_)
    · exact sp_n ((f_L_thing_l5_z _ _ _ _ _).symm.trans h)
    · obtain ⟨x4_1, x3_1⟩ := a_1
      have h := (f_L_thing_l5_s ke kv i2 n x4_1 x3_1).symm.trans h
      have hP : va_P G.1 vwCl ((wAR G ake 60 ke) ++ ((wAR G akv 36 kv))) H := hP
      have hD : va_D A ((wAR G ake 60 ke) ++ ((wAR G akv 36 kv))) := hD
      have hl : lv_has ls 6 [(4, .int x4_1), (3, .int x3_1), (0, .ref ake), (1, .ref akv), (2, .int i2)] := hl
      refine lv_iload hx hb dL_thing_5 (lv_at hl 0 rfl) ?_
      refine lv_bipush (v := (96 : Int32)) hx hb dL_thing_7 (by decide) ?_
      refine lv_icmp_ge (tgt := 94) hx hb dL_thing_9 (by decide) (fun c3 => ?_) (fun c3 => ?_)
      · have h := sp_t c3 h
        obtain rfl := sp_s h
        exact J1 _ _ hP hD hS _ (lv_sub hl [1] rfl)
      · have h := sp_f c3 h
        refine lv_iload hx hb dL_thing_12 (lv_at hl 0 rfl) ?_
        refine lv_bipush (v := (60 : Int32)) hx hb dL_thing_14 (by decide) ?_
        obtain ⟨v4, hv4, h⟩ := sp_b h
        refine xk_jn G A s.heap ((wAR G ake 60 ke) ++ ((wAR G akv 36 kv))) 6 [(4, .int x4_1), (3, .int x3_1), (0, .ref ake), (1, .ref akv), (2, .int i2)] 33 [.int v4] (fun H locs hP hD hS ls hl => ?_) (fun J4 => ?_)
        · refine lv_iload_n hx hb dL_thing_33 rfl (lv_at hl 4 rfl) ?_
          obtain ⟨v5, hv5, h⟩ := sp_b h
          refine xk_jn G A s.heap ((wAR G ake 60 ke) ++ ((wAR G akv 36 kv))) 6 [(4, .int x4_1), (3, .int x3_1), (0, .ref ake), (1, .ref akv), (2, .int i2)] 42 [.int v5] (fun H locs hP hD hS ls hl => ?_) (fun J5 => ?_)
          · refine lv_istore (lv' := [(5, .int v5), (4, .int x4_1), (3, .int x3_1), (0, .ref ake), (1, .ref akv), (2, .int i2)]) hx hb dL_thing_42 hl (by decide) rfl (fun ls hl => ?_)
            refine lv_iload hx hb dL_thing_44 (lv_at hl 0 rfl) ?_
            refine lv_if_ne (tgt := 53) hx hb dL_thing_46 (by decide) (fun c6 => ?_) (fun c6 => ?_)
            · have h := sp_f c6 h
              refine lv_iload_n hx hb dL_thing_53 rfl (lv_at hl 2 rfl) ?_
              refine lv_iconst (v := ((-1) : Int32)) hx hb dL_thing_54 (by decide) ?_
              refine lv_icmp_eq (tgt := 63) hx hb dL_thing_55 (by decide) (fun c7 => ?_) (fun c7 => ?_)
              · have h := sp_t c7 h
                refine lv_iload hx hb dL_thing_63 (lv_at hl 1 rfl) ?_
                refine lv_bipush (v := (60 : Int32)) hx hb dL_thing_65 (by decide) ?_
                refine lv_icmp_ge (tgt := 77) hx hb dL_thing_67 (by decide) (fun c8 => ?_) (fun c8 => ?_)
                · have h := sp_t c8 h
                  refine lv_bipush (v := (100 : Int32)) hx hb dL_thing_77 (by decide) ?_
                  refine lv_iload hx hb dL_thing_79 (lv_at hl 1 rfl) ?_
                  refine lv_bipush (v := (60 : Int32)) hx hb dL_thing_81 (by decide) ?_
                  refine lv_isub hx hb dL_thing_83 ?_
                  refine lv_iconst (v := (3 : Int32)) hx hb dL_thing_84 (by decide) ?_
                  refine lv_idiv hx hb dL_thing_85 (by decide) ?_
                  refine lv_iadd hx hb dL_thing_86 ?_
                  refine lv_istore_n (lv' := [(3, .int ((100 : Int32) + ((x4_1 - (60 : Int32)) / (3 : Int32)))), (5, .int v5), (4, .int x4_1), (0, .ref ake), (1, .ref akv), (2, .int i2)]) hx hb dL_thing_87 rfl hl (by decide) rfl (fun ls hl => ?_)
                  refine lv_iinc (v := (x4_1 + (1 : Int32))) (lv' := [(4, .int (x4_1 + (1 : Int32))), (3, .int ((100 : Int32) + ((x4_1 - (60 : Int32)) / (3 : Int32)))), (5, .int v5), (0, .ref ake), (1, .ref akv), (2, .int i2)]) hx hb dL_thing_88 hl (k := 2) rfl rfl (by decide) rfl (fun ls hl => ?_)
                  refine lv_goto (tgt := 5) hx hb dL_thing_91 (by decide) ?_
                  exact ih_1 ((x4_1 + (1 : Int32)), ((100 : Int32) + ((x4_1 - (60 : Int32)) / (3 : Int32)))) h _ _ hP hD hS _ (lv_sub hl [0, 1, 3, 4, 5] rfl)
                · have h := sp_f c8 h
                  refine lv_iload hx hb dL_thing_70 (lv_at hl 1 rfl) ?_
                  refine lv_iconst (v := (5 : Int32)) hx hb dL_thing_72 (by decide) ?_
                  refine lv_idiv hx hb dL_thing_73 (by decide) ?_
                  refine lv_goto (tgt := 87) hx hb dL_thing_74 (by decide) ?_
                  refine lv_istore_n (lv' := [(3, .int (x4_1 / (5 : Int32))), (5, .int v5), (4, .int x4_1), (0, .ref ake), (1, .ref akv), (2, .int i2)]) hx hb dL_thing_87 rfl hl (by decide) rfl (fun ls hl => ?_)
                  refine lv_iinc (v := (x4_1 + (1 : Int32))) (lv' := [(4, .int (x4_1 + (1 : Int32))), (3, .int (x4_1 / (5 : Int32))), (5, .int v5), (0, .ref ake), (1, .ref akv), (2, .int i2)]) hx hb dL_thing_88 hl (k := 2) rfl rfl (by decide) rfl (fun ls hl => ?_)
                  refine lv_goto (tgt := 5) hx hb dL_thing_91 (by decide) ?_
                  exact ih_1 ((x4_1 + (1 : Int32)), (x4_1 / (5 : Int32))) h _ _ hP hD hS _ (lv_sub hl [0, 1, 3, 4, 5] rfl)
              · have h := sp_f c7 h
                refine lv_bipush (v := ((-2) : Int32)) hx hb dL_thing_58 (by decide) ?_
                refine lv_goto (tgt := 87) hx hb dL_thing_60 (by decide) ?_
                refine lv_istore_n (lv' := [(3, .int ((-2) : Int32)), (5, .int v5), (4, .int x4_1), (0, .ref ake), (1, .ref akv), (2, .int i2)]) hx hb dL_thing_87 rfl hl (by decide) rfl (fun ls hl => ?_)
                refine lv_iinc (v := (x4_1 + (1 : Int32))) (lv' := [(4, .int (x4_1 + (1 : Int32))), (3, .int ((-2) : Int32)), (5, .int v5), (0, .ref ake), (1, .ref akv), (2, .int i2)]) hx hb dL_thing_88 hl (k := 2) rfl rfl (by decide) rfl (fun ls hl => ?_)
                refine lv_goto (tgt := 5) hx hb dL_thing_91 (by decide) ?_
                exact ih_1 ((x4_1 + (1 : Int32)), ((-2) : Int32)) h _ _ hP hD hS _ (lv_sub hl [0, 1, 3, 4, 5] rfl)
            · have h := sp_t c6 h
              refine lv_iload_n hx hb dL_thing_49 rfl (lv_at hl 2 rfl) ?_
              refine lv_goto (tgt := 87) hx hb dL_thing_50 (by decide) ?_
              refine lv_istore_n (lv' := [(3, .int x3_1), (5, .int v5), (4, .int x4_1), (0, .ref ake), (1, .ref akv), (2, .int i2)]) hx hb dL_thing_87 rfl hl (by decide) rfl (fun ls hl => ?_)
              refine lv_iinc (v := (x4_1 + (1 : Int32))) (lv' := [(4, .int (x4_1 + (1 : Int32))), (3, .int x3_1), (5, .int v5), (0, .ref ake), (1, .ref akv), (2, .int i2)]) hx hb dL_thing_88 hl (k := 2) rfl rfl (by decide) rfl (fun ls hl => ?_)
              refine lv_goto (tgt := 5) hx hb dL_thing_91 (by decide) ?_
              exact ih_1 ((x4_1 + (1 : Int32)), x3_1) h _ _ hP hD hS _ (lv_sub hl [0, 1, 3, 4, 5] rfl)
          · have h := hv5
            clear hv5
            refine lv_icmp_ne (tgt := 41) hx hb dL_thing_34 (by decide) (fun c9 => ?_) (fun c9 => ?_)
            · have h := sp_f c9 h
              refine lv_iconst (v := (0 : Int32)) hx hb dL_thing_41 (by decide) ?_
              obtain rfl := sp_s h
              exact J5 _ _ hP hD hS _ (lv_sub hl [0, 1, 2, 3, 4] rfl)
            · have h := sp_t c9 h
              refine lv_iconst (v := (1 : Int32)) hx hb dL_thing_37 (by decide) ?_
              refine lv_goto (tgt := 42) hx hb dL_thing_38 (by decide) ?_
              obtain rfl := sp_s h
              exact J5 _ _ hP hD hS _ (lv_sub hl [0, 1, 2, 3, 4] rfl)
        · have h := hv4
          clear hv4
          refine lv_icmp_ge (tgt := 26) hx hb dL_thing_16 (by decide) (fun c10 => ?_) (fun c10 => ?_)
          · have h := sp_t c10 h
            refine lv_aload_n hx hb dL_thing_26 rfl (lv_at hl 3 rfl) ?_
            refine lv_iload hx hb dL_thing_27 (lv_at hl 0 rfl) ?_
            refine lv_bipush (v := (60 : Int32)) hx hb dL_thing_29 (by decide) ?_
            refine lv_isub hx hb dL_thing_31 ?_
            obtain ⟨hin11, h⟩ := sp_g h
            refine va_iald hx hb hK hP 1 0 rfl rfl hin11 dL_thing_32 ?_
            obtain rfl := sp_s h
            exact J4 _ _ hP hD hS _ (lv_sub hl [0, 1, 2, 3, 4] rfl)
          · have h := sp_f c10 h
            refine lv_aload_n hx hb dL_thing_19 rfl (lv_at hl 2 rfl) ?_
            refine lv_iload hx hb dL_thing_20 (lv_at hl 0 rfl) ?_
            obtain ⟨hin12, h⟩ := sp_g h
            refine va_iald hx hb hK hP 0 0 rfl rfl hin12 dL_thing_22 ?_
            refine lv_goto (tgt := 33) hx hb dL_thing_23 (by decide) ?_
            obtain rfl := sp_s h
            exact J4 _ _ hP hD hS _ (lv_sub hl [0, 1, 2, 3, 4] rfl)
    · exact LL 300 ((0 : Int32), ((-1) : Int32)) h _ _ hP hD hS _ (lv_sub hl [0, 1, 2, 3, 4] rfl)
set_option maxHeartbeats 8000000 in
set_option maxRecDepth 100000 in
theorem c_L_net (l : Launch) (G : xG) (aka : Nat) (akc : Nat) (ka : xF) (kc : xF) (i2 : Int32) (i3 : Int32) (o : Int32) (h : f_L_net ka kc i2 i3 = some o) : xk_CI l yL_net wsL_net ({ frames := 1, cells := 0, slots := 0, locals := 21 } : Room) 0 0 [.ref aka, .ref akc, .int i2, .int i3] G ((wAR G aka 60 ka) ++ ((wAR G akc 1 kc))) ((wAR G aka 60 ka) ++ ((wAR G akc 1 kc))) o := by
  refine xk_CI.of (cc := cL_net) (maxL := 6) (ret := (some .int)) (by decide) rfl (Nat.le_of_ble_eq_true rfl) ?_
  intro pr9 en9 s mm9 bl9 meth9 cd9 A ls H locs hx hb hr hml hts hown hlk hA hP hK hD hNE hS hl
  have hown : s.vm.findClass RL = some mm9.cls := hown
  have hl : lv_has ls 6 [(0, .ref aka), (1, .ref akc), (2, .int i2), (3, .int i3)] := hl
  have hP : va_P G.1 vwCl ((wAR G aka 60 ka) ++ ((wAR G akc 1 kc))) H := hP
  have hD : va_D A ((wAR G aka 60 ka) ++ ((wAR G akc 1 kc))) := hD
  have h := (f_L_net_e ka kc i2 i3).symm.trans h
  refine lv_iconst (v := (0 : Int32)) hx hb dL_net_0 (by decide) ?_
  refine lv_istore (lv' := [(4, .int (0 : Int32)), (0, .ref aka), (1, .ref akc), (2, .int i2), (3, .int i3)]) hx hb dL_net_1 hl (by decide) rfl (fun ls hl => ?_)
  refine lv_iconst (v := (0 : Int32)) hx hb dL_net_3 (by decide) ?_
  refine lv_istore (lv' := [(5, .int (0 : Int32)), (4, .int (0 : Int32)), (0, .ref aka), (1, .ref akc), (2, .int i2), (3, .int i3)]) hx hb dL_net_4 hl (by decide) rfl (fun ls hl => ?_)
  obtain ⟨w2, hw2, h⟩ := sp_b h
  refine xk_jn G A s.heap ((wAR G aka 60 ka) ++ ((wAR G akc 1 kc))) 6 [(4, .int w2)] 55 [] (fun H locs hP hD hS ls hl => ?_) (fun J1 => ?_)
  · refine lv_iload hx hb dL_net_55 (lv_at hl 0 rfl) ?_
    obtain rfl := sp_s h
    exact xk_reI hx hb hr hlk hP hD hS rfl dL_net_57
  · have h := hw2
    clear hw2
    refine xk_lp (α := Int32 × Int32) G A s.heap (fun a_1 => ((wAR G aka 60 ka) ++ ((wAR G akc 1 kc)))) 6 (fun a_1 => [(5, .int a_1.1), (4, .int a_1.2), (0, .ref aka), (1, .ref akc), (2, .int i2), (3, .int i3)]) 6 (fun n a_1 => f_L_net_l6 ka kc i2 i3 n a_1.1 a_1.2 = some w2) (fun a_1 h => ?_) (fun n ih_1 a_1 h H locs hP hD hS ls hl => ?_) (fun LL => ?_)
    · exact sp_n ((f_L_net_l6_z _ _ _ _ _ _).symm.trans h)
    · obtain ⟨x5_1, x4_1⟩ := a_1
      have h := (f_L_net_l6_s ka kc i2 i3 n x5_1 x4_1).symm.trans h
      have hP : va_P G.1 vwCl ((wAR G aka 60 ka) ++ ((wAR G akc 1 kc))) H := hP
      have hD : va_D A ((wAR G aka 60 ka) ++ ((wAR G akc 1 kc))) := hD
      have hl : lv_has ls 6 [(5, .int x5_1), (4, .int x4_1), (0, .ref aka), (1, .ref akc), (2, .int i2), (3, .int i3)] := hl
      refine lv_iload hx hb dL_net_6 (lv_at hl 0 rfl) ?_
      refine lv_aload_n hx hb dL_net_8 rfl (lv_at hl 3 rfl) ?_
      refine lv_iconst (v := (0 : Int32)) hx hb dL_net_9 (by decide) ?_
      refine va_iald hx hb hK hP 1 0 rfl rfl (xk_in0_1) dL_net_10 ?_
      refine lv_icmp_ge (tgt := 55) hx hb dL_net_11 (by decide) (fun c3 => ?_) (fun c3 => ?_)
      · have h := sp_t c3 h
        obtain rfl := sp_s h
        exact J1 _ _ hP hD hS _ (lv_sub hl [1] rfl)
      · have h := sp_f c3 h
        refine lv_iload hx hb dL_net_14 (lv_at hl 1 rfl) ?_
        refine lv_iload_n hx hb dL_net_16 rfl (lv_at hl 4 rfl) ?_
        refine lv_iload hx hb dL_net_17 (lv_at hl 0 rfl) ?_
        obtain ⟨o4, ho4, h⟩ := sp_b h
        refine xf_ci0 (va_runS (As := [.int i2, .int x5_1]) (rest := [.int x4_1]) ⟨hx, hb, hml, hown, hts⟩ (c_L_isIn l G i2 x5_1 o4 ho4 H.size) (va_cwS 2 hts gL_net_L_isIn rfl rfl rfl (by decide +kernel) ⟨(Nat.le_of_ble_eq_true rfl), (Nat.le_of_ble_eq_true rfl)⟩) (xk_preS hK hNE (xf_p0 : va_P G.1 vwCl [] H) (xf_d0 : va_D A [])) rfl rfl hl.1 rfl (lv_room (Nat.le_of_ble_eq_true rfl)) dL_net_19 ⟨(Nat.le_of_ble_eq_true rfl), (Nat.le_of_ble_eq_true rfl)⟩) hP hD hS hA (fun H locs hP hD hS => ?_)
        obtain ⟨v5, hv5, h⟩ := sp_b h
        refine xk_jn G A s.heap ((wAR G aka 60 ka) ++ ((wAR G akc 1 kc))) 6 [(5, .int x5_1), (0, .ref aka), (1, .ref akc), (2, .int i2), (3, .int i3)] 46 [.int v5, .int x4_1] (fun H locs hP hD hS ls hl => ?_) (fun J5 => ?_)
        · refine lv_iadd hx hb dL_net_46 ?_
          refine lv_istore (lv' := [(4, .int (x4_1 + v5)), (5, .int x5_1), (0, .ref aka), (1, .ref akc), (2, .int i2), (3, .int i3)]) hx hb dL_net_47 hl (by decide) rfl (fun ls hl => ?_)
          refine lv_iinc (v := (x5_1 + (1 : Int32))) (lv' := [(5, .int (x5_1 + (1 : Int32))), (4, .int (x4_1 + v5)), (0, .ref aka), (1, .ref akc), (2, .int i2), (3, .int i3)]) hx hb dL_net_49 hl (k := 1) rfl rfl (by decide) rfl (fun ls hl => ?_)
          refine lv_goto (tgt := 6) hx hb dL_net_52 (by decide) ?_
          exact ih_1 ((x5_1 + (1 : Int32)), (x4_1 + v5)) h _ _ hP hD hS _ (lv_sub hl [0, 1, 2, 3, 4, 5] rfl)
        · have h := hv5
          clear hv5
          refine lv_if_eq (tgt := 45) hx hb dL_net_22 (by decide) (fun c6 => ?_) (fun c6 => ?_)
          · have h := sp_t c6 h
            refine lv_iconst (v := (0 : Int32)) hx hb dL_net_45 (by decide) ?_
            obtain rfl := sp_s h
            exact J5 _ _ hP hD hS _ (lv_sub hl [0, 2, 3, 4, 5] rfl)
          · have h := sp_f c6 h
            refine lv_aload_n hx hb dL_net_25 rfl (lv_at hl 2 rfl) ?_
            refine lv_iconst (v := (5 : Int32)) hx hb dL_net_26 (by decide) ?_
            refine lv_iload hx hb dL_net_27 (lv_at hl 0 rfl) ?_
            refine lv_imul hx hb dL_net_29 ?_
            refine lv_iconst (v := (2 : Int32)) hx hb dL_net_30 (by decide) ?_
            refine lv_iadd hx hb dL_net_31 ?_
            obtain ⟨hin7, h⟩ := sp_g h
            refine va_iald hx hb hK hP 0 0 rfl rfl hin7 dL_net_32 ?_
            refine lv_iload_n hx hb dL_net_33 rfl (lv_at hl 5 rfl) ?_
            refine lv_aload_n hx hb dL_net_34 rfl (lv_at hl 2 rfl) ?_
            refine lv_iconst (v := (5 : Int32)) hx hb dL_net_35 (by decide) ?_
            refine lv_iload hx hb dL_net_36 (lv_at hl 0 rfl) ?_
            refine lv_imul hx hb dL_net_38 ?_
            obtain ⟨hin8, h⟩ := sp_g h
            refine va_iald hx hb hK hP 0 0 rfl rfl hin8 dL_net_39 ?_
            refine lv_imul hx hb dL_net_40 ?_
            refine lv_isub hx hb dL_net_41 ?_
            refine lv_goto (tgt := 46) hx hb dL_net_42 (by decide) ?_
            obtain rfl := sp_s h
            exact J5 _ _ hP hD hS _ (lv_sub hl [0, 2, 3, 4, 5] rfl)
    · exact LL 300 ((0 : Int32), (0 : Int32)) h _ _ hP hD hS _ (lv_sub hl [0, 1, 2, 3, 4, 5] rfl)
set_option maxHeartbeats 8000000 in
set_option maxRecDepth 100000 in
theorem c_L_isClosed (l : Launch) (G : xG) (aka : Nat) (akc : Nat) (ka : xF) (kc : xF) (i2 : Int32) (o : Int32) (h : f_L_isClosed ka kc i2 = some o) : xk_CI l yL_isClosed wsL_isClosed ({ frames := 1, cells := 0, slots := 0, locals := 21 } : Room) 0 0 [.ref aka, .ref akc, .int i2] G ((wAR G aka 60 ka) ++ ((wAR G akc 1 kc))) ((wAR G aka 60 ka) ++ ((wAR G akc 1 kc))) o := by
  refine xk_CI.of (cc := cL_isClosed) (maxL := 5) (ret := (some .boolean)) (by decide) rfl (Nat.le_of_ble_eq_true rfl) ?_
  intro pr9 en9 s mm9 bl9 meth9 cd9 A ls H locs hx hb hr hml hts hown hlk hA hP hK hD hNE hS hl
  have hown : s.vm.findClass RL = some mm9.cls := hown
  have hl : lv_has ls 5 [(0, .ref aka), (1, .ref akc), (2, .int i2)] := hl
  have hP : va_P G.1 vwCl ((wAR G aka 60 ka) ++ ((wAR G akc 1 kc))) H := hP
  have hD : va_D A ((wAR G aka 60 ka) ++ ((wAR G akc 1 kc))) := hD
  have h := (f_L_isClosed_e ka kc i2).symm.trans h
  refine lv_iload_n hx hb dL_isClosed_0 rfl (lv_at hl 2 rfl) ?_
  refine lv_aload_n hx hb dL_isClosed_1 rfl (lv_at hl 1 rfl) ?_
  refine lv_iconst (v := (0 : Int32)) hx hb dL_isClosed_2 (by decide) ?_
  refine va_iald hx hb hK hP 1 0 rfl rfl (xk_in0_1) dL_isClosed_3 ?_
  refine lv_ishr hx hb dL_isClosed_4 ?_
  obtain ⟨v1, hv1, h⟩ := sp_b h
  refine xk_jn G A s.heap ((wAR G aka 60 ka) ++ ((wAR G akc 1 kc))) 5 [(0, .ref aka), (1, .ref akc), (2, .int i2)] 13 [.int v1] (fun H locs hP hD hS ls hl => ?_) (fun J1 => ?_)
  · refine lv_istore_n (lv' := [(3, .int v1), (0, .ref aka), (1, .ref akc), (2, .int i2)]) hx hb dL_isClosed_13 rfl hl (by decide) rfl (fun ls hl => ?_)
    refine lv_iconst (v := (0 : Int32)) hx hb dL_isClosed_14 (by decide) ?_
    refine lv_istore (lv' := [(4, .int (0 : Int32)), (3, .int v1), (0, .ref aka), (1, .ref akc), (2, .int i2)]) hx hb dL_isClosed_15 hl (by decide) rfl (fun ls hl => ?_)
    obtain ⟨w3, hw3, h⟩ := sp_b h
    refine xk_jn G A s.heap ((wAR G aka 60 ka) ++ ((wAR G akc 1 kc))) 5 [(3, .int w3)] 65 [] (fun H locs hP hD hS ls hl => ?_) (fun J2 => ?_)
    · refine lv_iload_n hx hb dL_isClosed_65 rfl (lv_at hl 0 rfl) ?_
      obtain ⟨hz, h⟩ := sp_c h
      obtain rfl := sp_s h
      exact xk_reZ hx hb hr hlk (xk_nar hz) hP hD hS rfl dL_isClosed_66
    · have h := hw3
      clear hw3
      refine xk_lp (α := Int32 × Int32) G A s.heap (fun a_2 => ((wAR G aka 60 ka) ++ ((wAR G akc 1 kc)))) 5 (fun a_2 => [(4, .int a_2.1), (3, .int a_2.2), (0, .ref aka), (1, .ref akc), (2, .int i2)]) 17 (fun n a_2 => f_L_isClosed_l17 ka kc i2 n a_2.1 a_2.2 = some w3) (fun a_2 h => ?_) (fun n ih_2 a_2 h H locs hP hD hS ls hl => ?_) (fun LL => ?_)
      · exact sp_n ((f_L_isClosed_l17_z _ _ _ _ _).symm.trans h)
      · obtain ⟨x4_2, x3_2⟩ := a_2
        have h := (f_L_isClosed_l17_s ka kc i2 n x4_2 x3_2).symm.trans h
        have hP : va_P G.1 vwCl ((wAR G aka 60 ka) ++ ((wAR G akc 1 kc))) H := hP
        have hD : va_D A ((wAR G aka 60 ka) ++ ((wAR G akc 1 kc))) := hD
        have hl : lv_has ls 5 [(4, .int x4_2), (3, .int x3_2), (0, .ref aka), (1, .ref akc), (2, .int i2)] := hl
        refine lv_iload hx hb dL_isClosed_17 (lv_at hl 0 rfl) ?_
        refine lv_aload_n hx hb dL_isClosed_19 rfl (lv_at hl 3 rfl) ?_
        refine lv_iconst (v := (0 : Int32)) hx hb dL_isClosed_20 (by decide) ?_
        refine va_iald hx hb hK hP 1 0 rfl rfl (xk_in0_1) dL_isClosed_21 ?_
        refine lv_icmp_ge (tgt := 65) hx hb dL_isClosed_22 (by decide) (fun c4 => ?_) (fun c4 => ?_)
        · have h := sp_t c4 h
          obtain rfl := sp_s h
          exact J2 _ _ hP hD hS _ (lv_sub hl [1] rfl)
        · have h := sp_f c4 h
          refine lv_iload_n hx hb dL_isClosed_25 rfl (lv_at hl 1 rfl) ?_
          refine lv_if_eq (tgt := 57) hx hb dL_isClosed_26 (by decide) (fun c5 => ?_) (fun c5 => ?_)
          · have h := sp_t c5 h
            refine lv_iconst (v := (0 : Int32)) hx hb dL_isClosed_57 (by decide) ?_
            refine lv_istore_n (lv' := [(3, .int (0 : Int32)), (4, .int x4_2), (0, .ref aka), (1, .ref akc), (2, .int i2)]) hx hb dL_isClosed_58 rfl hl (by decide) rfl (fun ls hl => ?_)
            refine lv_iinc (v := (x4_2 + (1 : Int32))) (lv' := [(4, .int (x4_2 + (1 : Int32))), (3, .int (0 : Int32)), (0, .ref aka), (1, .ref akc), (2, .int i2)]) hx hb dL_isClosed_59 hl (k := 1) rfl rfl (by decide) rfl (fun ls hl => ?_)
            refine lv_goto (tgt := 17) hx hb dL_isClosed_62 (by decide) ?_
            exact ih_2 ((x4_2 + (1 : Int32)), (0 : Int32)) h _ _ hP hD hS _ (lv_sub hl [0, 1, 2, 3, 4] rfl)
          · have h := sp_f c5 h
            refine lv_iload_n hx hb dL_isClosed_29 rfl (lv_at hl 4 rfl) ?_
            refine lv_iload hx hb dL_isClosed_30 (lv_at hl 0 rfl) ?_
            obtain ⟨o6, ho6, h⟩ := sp_b h
            refine xf_ci0 (va_runS (As := [.int i2, .int x4_2]) (rest := []) ⟨hx, hb, hml, hown, hts⟩ (c_L_isIn l G i2 x4_2 o6 ho6 H.size) (va_cwS 2 hts gL_isClosed_L_isIn rfl rfl rfl (by decide +kernel) ⟨(Nat.le_of_ble_eq_true rfl), (Nat.le_of_ble_eq_true rfl)⟩) (xk_preS hK hNE (xf_p0 : va_P G.1 vwCl [] H) (xf_d0 : va_D A [])) rfl rfl hl.1 rfl (lv_room (Nat.le_of_ble_eq_true rfl)) dL_isClosed_32 ⟨(Nat.le_of_ble_eq_true rfl), (Nat.le_of_ble_eq_true rfl)⟩) hP hD hS hA (fun H locs hP hD hS => ?_)
            refine lv_if_eq (tgt := 53) hx hb dL_isClosed_35 (by decide) (fun c7 => ?_) (fun c7 => ?_)
            · have h := sp_t c7 h
              refine lv_iconst (v := (1 : Int32)) hx hb dL_isClosed_53 (by decide) ?_
              refine lv_goto (tgt := 58) hx hb dL_isClosed_54 (by decide) ?_
              refine lv_istore_n (lv' := [(3, .int (1 : Int32)), (4, .int x4_2), (0, .ref aka), (1, .ref akc), (2, .int i2)]) hx hb dL_isClosed_58 rfl hl (by decide) rfl (fun ls hl => ?_)
              refine lv_iinc (v := (x4_2 + (1 : Int32))) (lv' := [(4, .int (x4_2 + (1 : Int32))), (3, .int (1 : Int32)), (0, .ref aka), (1, .ref akc), (2, .int i2)]) hx hb dL_isClosed_59 hl (k := 1) rfl rfl (by decide) rfl (fun ls hl => ?_)
              refine lv_goto (tgt := 17) hx hb dL_isClosed_62 (by decide) ?_
              exact ih_2 ((x4_2 + (1 : Int32)), (1 : Int32)) h _ _ hP hD hS _ (lv_sub hl [0, 1, 2, 3, 4] rfl)
            · have h := sp_f c7 h
              refine lv_aload_n hx hb dL_isClosed_38 rfl (lv_at hl 2 rfl) ?_
              refine lv_iconst (v := (5 : Int32)) hx hb dL_isClosed_39 (by decide) ?_
              refine lv_iload hx hb dL_isClosed_40 (lv_at hl 0 rfl) ?_
              refine lv_imul hx hb dL_isClosed_42 ?_
              refine lv_iconst (v := (4 : Int32)) hx hb dL_isClosed_43 (by decide) ?_
              refine lv_iadd hx hb dL_isClosed_44 ?_
              obtain ⟨hin8, h⟩ := sp_g h
              refine va_iald hx hb hK hP 0 0 rfl rfl hin8 dL_isClosed_45 ?_
              refine lv_iload_n hx hb dL_isClosed_46 rfl (lv_at hl 4 rfl) ?_
              refine lv_iconst (v := ((-1) : Int32)) hx hb dL_isClosed_47 (by decide) ?_
              refine lv_ixor hx hb dL_isClosed_48 ?_
              refine lv_iand hx hb dL_isClosed_49 ?_
              refine lv_if_ne (tgt := 57) hx hb dL_isClosed_50 (by decide) (fun c9 => ?_) (fun c9 => ?_)
              · have h := sp_f c9 h
                refine lv_iconst (v := (0 : Int32)) hx hb dL_isClosed_57 (by decide) ?_
                refine lv_istore_n (lv' := [(3, .int (0 : Int32)), (4, .int x4_2), (0, .ref aka), (1, .ref akc), (2, .int i2)]) hx hb dL_isClosed_58 rfl hl (by decide) rfl (fun ls hl => ?_)
                refine lv_iinc (v := (x4_2 + (1 : Int32))) (lv' := [(4, .int (x4_2 + (1 : Int32))), (3, .int (0 : Int32)), (0, .ref aka), (1, .ref akc), (2, .int i2)]) hx hb dL_isClosed_59 hl (k := 1) rfl rfl (by decide) rfl (fun ls hl => ?_)
                refine lv_goto (tgt := 17) hx hb dL_isClosed_62 (by decide) ?_
                exact ih_2 ((x4_2 + (1 : Int32)), (0 : Int32)) h _ _ hP hD hS _ (lv_sub hl [0, 1, 2, 3, 4] rfl)
              · have h := sp_t c9 h
                refine lv_iconst (v := (1 : Int32)) hx hb dL_isClosed_53 (by decide) ?_
                refine lv_goto (tgt := 58) hx hb dL_isClosed_54 (by decide) ?_
                refine lv_istore_n (lv' := [(3, .int (1 : Int32)), (4, .int x4_2), (0, .ref aka), (1, .ref akc), (2, .int i2)]) hx hb dL_isClosed_58 rfl hl (by decide) rfl (fun ls hl => ?_)
                refine lv_iinc (v := (x4_2 + (1 : Int32))) (lv' := [(4, .int (x4_2 + (1 : Int32))), (3, .int (1 : Int32)), (0, .ref aka), (1, .ref akc), (2, .int i2)]) hx hb dL_isClosed_59 hl (k := 1) rfl rfl (by decide) rfl (fun ls hl => ?_)
                refine lv_goto (tgt := 17) hx hb dL_isClosed_62 (by decide) ?_
                exact ih_2 ((x4_2 + (1 : Int32)), (1 : Int32)) h _ _ hP hD hS _ (lv_sub hl [0, 1, 2, 3, 4] rfl)
      · exact LL 300 ((0 : Int32), v1) h _ _ hP hD hS _ (lv_sub hl [0, 1, 2, 3, 4] rfl)
  · have h := hv1
    clear hv1
    refine lv_if_ne (tgt := 12) hx hb dL_isClosed_5 (by decide) (fun c10 => ?_) (fun c10 => ?_)
    · have h := sp_f c10 h
      refine lv_iconst (v := (0 : Int32)) hx hb dL_isClosed_12 (by decide) ?_
      obtain rfl := sp_s h
      exact J1 _ _ hP hD hS _ (lv_sub hl [0, 1, 2] rfl)
    · have h := sp_t c10 h
      refine lv_iconst (v := (1 : Int32)) hx hb dL_isClosed_8 (by decide) ?_
      refine lv_goto (tgt := 13) hx hb dL_isClosed_9 (by decide) ?_
      obtain rfl := sp_s h
      exact J1 _ _ hP hD hS _ (lv_sub hl [0, 1, 2] rfl)
theorem xf_p_6_0125_34 (g0 g1 g2 g3 g4 g5 : va_W) : List.Perm (g0 ++ (g1 ++ (g2 ++ (g3 ++ (g4 ++ (g5)))))) ((g0 ++ (g1 ++ (g2 ++ (g5)))) ++ (g3 ++ (g4))) := by
  have h1 : List.Perm (g0 ++ (g1 ++ (g2 ++ (g3 ++ (g4 ++ (g5)))))) (g0 ++ (g1 ++ (g2 ++ (g5 ++ (g3 ++ (g4)))))) := ((List.Perm.refl _).trans (xf_c _ ((List.Perm.refl _).trans (xf_c _ ((List.Perm.refl _).trans (xf_c _ (((xf_c _ (xf_s1 _ _)).trans (xf_s2 _ _ _)).trans (xf_c _ (List.Perm.refl _)))))))))
  exact h1.trans (show List.Perm (g0 ++ (g1 ++ (g2 ++ (g5 ++ (g3 ++ (g4)))))) ((g0 ++ (g1 ++ (g2 ++ (g5)))) ++ (g3 ++ (g4))) from ((xf_c _ ((xf_c _ ((xf_c _ (List.Perm.refl _)).trans (List.Perm.of_eq (List.append_assoc _ _ _).symm))).trans (List.Perm.of_eq (List.append_assoc _ _ _).symm))).trans (List.Perm.of_eq (List.append_assoc _ _ _).symm)))
set_option maxHeartbeats 8000000 in
set_option maxRecDepth 100000 in
theorem c_L_isBusy (l : Launch) (G : xG) (aka : Nat) (akr : Nat) (akc : Nat) (ake : Nat) (akv : Nat) (akp : Nat) (ka : xF) (kr : xF) (kc : xF) (ke : xF) (kv : xF) (kp : xF) (i6 : Int32) (i7 : Int32) (o : Int32) (h : f_L_isBusy ka kr kc ke kv kp i6 i7 = some o) : xk_CI l yL_isBusy wsL_isBusy ({ frames := 1, cells := 0, slots := 0, locals := 25 } : Room) 0 0 [.ref aka, .ref akr, .ref akc, .ref ake, .ref akv, .ref akp, .int i6, .int i7] G ((wAR G aka 60 ka) ++ ((wAR G akr 24 kr) ++ ((wAR G akc 1 kc) ++ ((wAR G ake 60 ke) ++ ((wAR G akv 36 kv) ++ ((wAR G akp 12 kp))))))) ((wAR G aka 60 ka) ++ ((wAR G akr 24 kr) ++ ((wAR G akc 1 kc) ++ ((wAR G ake 60 ke) ++ ((wAR G akv 36 kv) ++ ((wAR G akp 12 kp))))))) o := by
  refine xk_CI.of (cc := cL_isBusy) (maxL := 17) (ret := (some .boolean)) (by decide) rfl (Nat.le_of_ble_eq_true rfl) ?_
  intro pr9 en9 s mm9 bl9 meth9 cd9 A ls H locs hx hb hr hml hts hown hlk hA hP hK hD hNE hS hl
  have hown : s.vm.findClass RL = some mm9.cls := hown
  have hl : lv_has ls 17 [(0, .ref aka), (1, .ref akr), (2, .ref akc), (3, .ref ake), (4, .ref akv), (5, .ref akp), (6, .int i6), (7, .int i7)] := hl
  have hP : va_P G.1 vwCl ((wAR G aka 60 ka) ++ ((wAR G akr 24 kr) ++ ((wAR G akc 1 kc) ++ ((wAR G ake 60 ke) ++ ((wAR G akv 36 kv) ++ ((wAR G akp 12 kp))))))) H := hP
  have hD : va_D A ((wAR G aka 60 ka) ++ ((wAR G akr 24 kr) ++ ((wAR G akc 1 kc) ++ ((wAR G ake 60 ke) ++ ((wAR G akv 36 kv) ++ ((wAR G akp 12 kp))))))) := hD
  have h := (f_L_isBusy_e ka kr kc ke kv kp i6 i7).symm.trans h
  refine lv_iconst (v := ((-1) : Int32)) hx hb dL_isBusy_0 (by decide) ?_
  refine lv_istore (lv' := [(8, .int ((-1) : Int32)), (0, .ref aka), (1, .ref akr), (2, .ref akc), (3, .ref ake), (4, .ref akv), (5, .ref akp), (6, .int i6), (7, .int i7)]) hx hb dL_isBusy_1 hl (by decide) rfl (fun ls hl => ?_)
  refine lv_aload_n hx hb dL_isBusy_3 rfl (lv_at hl 3 rfl) ?_
  refine lv_iconst (v := (0 : Int32)) hx hb dL_isBusy_4 (by decide) ?_
  refine va_iald hx hb hK hP 2 0 rfl rfl (xk_in0_1) dL_isBusy_5 ?_
  refine lv_iconst (v := (1 : Int32)) hx hb dL_isBusy_6 (by decide) ?_
  refine lv_isub hx hb dL_isBusy_7 ?_
  refine lv_istore (lv' := [(9, .int ((kc (0 : Int32).toNatClampNeg) - (1 : Int32))), (8, .int ((-1) : Int32)), (0, .ref aka), (1, .ref akr), (2, .ref akc), (3, .ref ake), (4, .ref akv), (5, .ref akp), (6, .int i6), (7, .int i7)]) hx hb dL_isBusy_8 hl (by decide) rfl (fun ls hl => ?_)
  obtain ⟨w2, hw2, h⟩ := sp_b h
  refine xk_jn G A s.heap ((wAR G aka 60 ka) ++ ((wAR G akr 24 kr) ++ ((wAR G akc 1 kc) ++ ((wAR G ake 60 ke) ++ ((wAR G akv 36 kv) ++ ((wAR G akp 12 kp))))))) 17 [(8, .int w2), (0, .ref aka), (1, .ref akr), (2, .ref akc), (3, .ref ake), (4, .ref akv), (6, .int i6), (7, .int i7)] 68 [] (fun H locs hP hD hS ls hl => ?_) (fun J1 => ?_)
  · refine lv_sipush (v := (1000 : Int32)) hx hb dL_isBusy_68 (by decide) ?_
    refine lv_istore (lv' := [(9, .int (1000 : Int32)), (8, .int w2), (0, .ref aka), (1, .ref akr), (2, .ref akc), (3, .ref ake), (4, .ref akv), (6, .int i6), (7, .int i7)]) hx hb dL_isBusy_71 hl (by decide) rfl (fun ls hl => ?_)
    refine lv_iconst (v := ((-1) : Int32)) hx hb dL_isBusy_73 (by decide) ?_
    refine lv_istore (lv' := [(10, .int ((-1) : Int32)), (9, .int (1000 : Int32)), (8, .int w2), (0, .ref aka), (1, .ref akr), (2, .ref akc), (3, .ref ake), (4, .ref akv), (6, .int i6), (7, .int i7)]) hx hb dL_isBusy_74 hl (by decide) rfl (fun ls hl => ?_)
    refine lv_aload_n hx hb dL_isBusy_76 rfl (lv_at hl 5 rfl) ?_
    refine lv_iconst (v := (0 : Int32)) hx hb dL_isBusy_77 (by decide) ?_
    refine va_iald hx hb hK hP 2 0 rfl rfl (xk_in0_1) dL_isBusy_78 ?_
    refine lv_iconst (v := (1 : Int32)) hx hb dL_isBusy_79 (by decide) ?_
    refine lv_isub hx hb dL_isBusy_80 ?_
    refine lv_istore (lv' := [(11, .int ((kc (0 : Int32).toNatClampNeg) - (1 : Int32))), (10, .int ((-1) : Int32)), (9, .int (1000 : Int32)), (8, .int w2), (0, .ref aka), (1, .ref akr), (2, .ref akc), (3, .ref ake), (4, .ref akv), (6, .int i6), (7, .int i7)]) hx hb dL_isBusy_81 hl (by decide) rfl (fun ls hl => ?_)
    obtain ⟨w10, hw10, h⟩ := sp_b h
    refine xk_jn G A s.heap ((wAR G aka 60 ka) ++ ((wAR G akr 24 kr) ++ ((wAR G akc 1 kc) ++ ((wAR G ake 60 ke) ++ ((wAR G akv 36 kv) ++ ((wAR G akp 12 kp))))))) 17 [(10, .int w10), (8, .int w2), (0, .ref aka), (3, .ref ake), (4, .ref akv), (6, .int i6), (7, .int i7)] 246 [] (fun H locs hP hD hS ls hl => ?_) (fun J9 => ?_)
    · refine lv_iconst (v := (0 : Int32)) hx hb dL_isBusy_246 (by decide) ?_
      refine lv_istore (lv' := [(11, .int (0 : Int32)), (10, .int w10), (8, .int w2), (0, .ref aka), (3, .ref ake), (4, .ref akv), (6, .int i6), (7, .int i7)]) hx hb dL_isBusy_247 hl (by decide) rfl (fun ls hl => ?_)
      refine lv_iload hx hb dL_isBusy_249 (lv_at hl 6 rfl) ?_
      refine lv_iconst (v := (2 : Int32)) hx hb dL_isBusy_251 (by decide) ?_
      obtain ⟨v33, hv33, h⟩ := sp_b h
      refine xk_jn G A s.heap ((wAR G aka 60 ka) ++ ((wAR G akr 24 kr) ++ ((wAR G akc 1 kc) ++ ((wAR G ake 60 ke) ++ ((wAR G akv 36 kv) ++ ((wAR G akp 12 kp))))))) 17 [(11, .int (0 : Int32)), (10, .int w10), (8, .int w2), (0, .ref aka), (3, .ref ake), (4, .ref akv), (6, .int i6), (7, .int i7)] 263 [.int v33] (fun H locs hP hD hS ls hl => ?_) (fun J33 => ?_)
      · refine lv_istore (lv' := [(12, .int v33), (11, .int (0 : Int32)), (10, .int w10), (8, .int w2), (0, .ref aka), (3, .ref ake), (4, .ref akv), (6, .int i6), (7, .int i7)]) hx hb dL_isBusy_263 hl (by decide) rfl (fun ls hl => ?_)
        obtain ⟨w35, hw35, h⟩ := sp_b h
        refine xk_jn G A s.heap ((wAR G aka 60 ka) ++ ((wAR G akr 24 kr) ++ ((wAR G akc 1 kc) ++ ((wAR G ake 60 ke) ++ ((wAR G akv 36 kv) ++ ((wAR G akp 12 kp))))))) 17 [(11, .int w35), (10, .int w10), (8, .int w2), (7, .int i7)] 354 [] (fun H locs hP hD hS ls hl => ?_) (fun J34 => ?_)
        · refine lv_iload hx hb dL_isBusy_354 (lv_at hl 3 rfl) ?_
          refine lv_iload hx hb dL_isBusy_356 (lv_at hl 1 rfl) ?_
          obtain ⟨v47, hv47, h⟩ := sp_b h
          refine xk_jn G A s.heap ((wAR G aka 60 ka) ++ ((wAR G akr 24 kr) ++ ((wAR G akc 1 kc) ++ ((wAR G ake 60 ke) ++ ((wAR G akv 36 kv) ++ ((wAR G akp 12 kp))))))) 17 [] 385 [.int v47, .int i7] (fun H locs hP hD hS ls hl => ?_) (fun J47 => ?_)
          · refine lv_icmp_ne (tgt := 392) hx hb dL_isBusy_385 (by decide) (fun c48 => ?_) (fun c48 => ?_)
            · have h := sp_f c48 h
              refine lv_iconst (v := (0 : Int32)) hx hb dL_isBusy_392 (by decide) ?_
              obtain rfl := sp_s h
              exact xk_reZ hx hb hr hlk rfl hP hD hS rfl dL_isBusy_393
            · have h := sp_t c48 h
              refine lv_iconst (v := (1 : Int32)) hx hb dL_isBusy_388 (by decide) ?_
              refine lv_goto (tgt := 393) hx hb dL_isBusy_389 (by decide) ?_
              obtain rfl := sp_s h
              exact xk_reZ hx hb hr hlk rfl hP hD hS rfl dL_isBusy_393
          · have h := hv47
            clear hv47
            refine lv_if_lt (tgt := 369) hx hb dL_isBusy_358 (by decide) (fun c49 => ?_) (fun c49 => ?_)
            · have h := sp_t c49 h
              refine lv_iload hx hb dL_isBusy_369 (lv_at hl 2 rfl) ?_
              refine lv_if_lt (tgt := 379) hx hb dL_isBusy_371 (by decide) (fun c50 => ?_) (fun c50 => ?_)
              · have h := sp_t c50 h
                refine lv_iconst (v := ((-1) : Int32)) hx hb dL_isBusy_379 (by decide) ?_
                refine lv_goto (tgt := 385) hx hb dL_isBusy_380 (by decide) ?_
                obtain rfl := sp_s h
                exact J47 _ _ hP hD hS _ (lv_sub hl [] rfl)
              · have h := sp_f c50 h
                refine lv_iload hx hb dL_isBusy_374 (lv_at hl 0 rfl) ?_
                refine lv_if_eq (tgt := 383) hx hb dL_isBusy_376 (by decide) (fun c51 => ?_) (fun c51 => ?_)
                · have h := sp_t c51 h
                  refine lv_iload hx hb dL_isBusy_383 (lv_at hl 2 rfl) ?_
                  obtain rfl := sp_s h
                  exact J47 _ _ hP hD hS _ (lv_sub hl [] rfl)
                · have h := sp_f c51 h
                  refine lv_iconst (v := ((-1) : Int32)) hx hb dL_isBusy_379 (by decide) ?_
                  refine lv_goto (tgt := 385) hx hb dL_isBusy_380 (by decide) ?_
                  obtain rfl := sp_s h
                  exact J47 _ _ hP hD hS _ (lv_sub hl [] rfl)
            · have h := sp_f c49 h
              refine lv_bipush (v := (100 : Int32)) hx hb dL_isBusy_361 (by decide) ?_
              refine lv_iload hx hb dL_isBusy_363 (lv_at hl 1 rfl) ?_
              refine lv_iadd hx hb dL_isBusy_365 ?_
              refine lv_goto (tgt := 385) hx hb dL_isBusy_366 (by decide) ?_
              obtain rfl := sp_s h
              exact J47 _ _ hP hD hS _ (lv_sub hl [] rfl)
        · have h := hw35
          clear hw35
          refine xk_lp (α := Int32 × Int32) G A s.heap (fun a_34 => ((wAR G aka 60 ka) ++ ((wAR G akr 24 kr) ++ ((wAR G akc 1 kc) ++ ((wAR G ake 60 ke) ++ ((wAR G akv 36 kv) ++ ((wAR G akp 12 kp)))))))) 17 (fun a_34 => [(12, .int a_34.1), (11, .int a_34.2), (10, .int w10), (8, .int w2), (0, .ref aka), (3, .ref ake), (4, .ref akv), (6, .int i6), (7, .int i7)]) 265 (fun n a_34 => f_L_isBusy_l265 ka ke kv i6 w2 n a_34.1 a_34.2 = some w35) (fun a_34 h => ?_) (fun n ih_34 a_34 h H locs hP hD hS ls hl => ?_) (fun LL => ?_)
          · exact sp_n ((f_L_isBusy_l265_z _ _ _ _ _ _ _).symm.trans h)
          · obtain ⟨x12_34, x11_34⟩ := a_34
            have h := (f_L_isBusy_l265_s ka ke kv i6 w2 n x12_34 x11_34).symm.trans h
            have hP : va_P G.1 vwCl ((wAR G aka 60 ka) ++ ((wAR G akr 24 kr) ++ ((wAR G akc 1 kc) ++ ((wAR G ake 60 ke) ++ ((wAR G akv 36 kv) ++ ((wAR G akp 12 kp))))))) H := hP
            have hD : va_D A ((wAR G aka 60 ka) ++ ((wAR G akr 24 kr) ++ ((wAR G akc 1 kc) ++ ((wAR G ake 60 ke) ++ ((wAR G akv 36 kv) ++ ((wAR G akp 12 kp))))))) := hD
            have hl : lv_has ls 17 [(12, .int x12_34), (11, .int x11_34), (10, .int w10), (8, .int w2), (0, .ref aka), (3, .ref ake), (4, .ref akv), (6, .int i6), (7, .int i7)] := hl
            refine lv_iload hx hb dL_isBusy_265 (lv_at hl 0 rfl) ?_
            refine lv_iload hx hb dL_isBusy_267 (lv_at hl 7 rfl) ?_
            refine lv_icmp_ge (tgt := 354) hx hb dL_isBusy_269 (by decide) (fun c36 => ?_) (fun c36 => ?_)
            · have h := sp_t c36 h
              obtain rfl := sp_s h
              exact J34 _ _ hP hD hS _ (lv_sub hl [1, 2, 3, 8] rfl)
            · have h := sp_f c36 h
              refine lv_iload hx hb dL_isBusy_272 (lv_at hl 3 rfl) ?_
              refine lv_if_lt (tgt := 354) hx hb dL_isBusy_274 (by decide) (fun c37 => ?_) (fun c37 => ?_)
              · have h := sp_t c37 h
                obtain rfl := sp_s h
                exact J34 _ _ hP hD hS _ (lv_sub hl [1, 2, 3, 8] rfl)
              · have h := sp_f c37 h
                refine lv_aload_n hx hb dL_isBusy_277 rfl (lv_at hl 5 rfl) ?_
                refine lv_aload hx hb dL_isBusy_278 (lv_at hl 6 rfl) ?_
                refine lv_iload hx hb dL_isBusy_280 (lv_at hl 0 rfl) ?_
                obtain ⟨o38, ho38, h⟩ := sp_b h
                have hP9 : va_P G.1 vwCl (((wAR G aka 60 ka) ++ ((wAR G akr 24 kr) ++ ((wAR G akc 1 kc) ++ ((wAR G akp 12 kp))))) ++ ((wAR G ake 60 ke) ++ ((wAR G akv 36 kv)))) H := xf_P (xf_p_6_0125_34 (wAR G aka 60 ka) (wAR G akr 24 kr) (wAR G akc 1 kc) (wAR G ake 60 ke) (wAR G akv 36 kv) (wAR G akp 12 kp)) hP
                have hD9 : va_D A (((wAR G aka 60 ka) ++ ((wAR G akr 24 kr) ++ ((wAR G akc 1 kc) ++ ((wAR G akp 12 kp))))) ++ ((wAR G ake 60 ke) ++ ((wAR G akv 36 kv)))) := xf_D (xf_p_6_0125_34 (wAR G aka 60 ka) (wAR G akr 24 kr) (wAR G akc 1 kc) (wAR G ake 60 ke) (wAR G akv 36 kv) (wAR G akp 12 kp)) hD
                refine xf_ci (va_runS (As := [.ref ake, .ref akv, .int x12_34]) (rest := []) ⟨hx, hb, hml, hown, hts⟩ (c_L_thing l G ake akv ke kv x12_34 o38 ho38 H.size) (va_cwS 3 hts gL_isBusy_L_thing rfl rfl rfl (by decide +kernel) ⟨(Nat.le_of_ble_eq_true rfl), (Nat.le_of_ble_eq_true rfl)⟩) (xk_preS hK hNE (xf_pr hP9) (xf_dr hD9)) rfl rfl hl.1 rfl (lv_room (Nat.le_of_ble_eq_true rfl)) dL_isBusy_282 ⟨(Nat.le_of_ble_eq_true rfl), (Nat.le_of_ble_eq_true rfl)⟩) hP9 hD9 hS hA (fun H locs hP hD hS => ?_)
                have hP : va_P G.1 vwCl ((wAR G aka 60 ka) ++ ((wAR G akr 24 kr) ++ ((wAR G akc 1 kc) ++ ((wAR G ake 60 ke) ++ ((wAR G akv 36 kv) ++ ((wAR G akp 12 kp))))))) H := xf_P (xf_p_6_0125_34 (wAR G aka 60 ka) (wAR G akr 24 kr) (wAR G akc 1 kc) (wAR G ake 60 ke) (wAR G akv 36 kv) (wAR G akp 12 kp)).symm (show va_P G.1 vwCl (((wAR G aka 60 ka) ++ ((wAR G akr 24 kr) ++ ((wAR G akc 1 kc) ++ ((wAR G akp 12 kp))))) ++ ((wAR G ake 60 ke) ++ ((wAR G akv 36 kv)))) H from hP)
                have hD : va_D A ((wAR G aka 60 ka) ++ ((wAR G akr 24 kr) ++ ((wAR G akc 1 kc) ++ ((wAR G ake 60 ke) ++ ((wAR G akv 36 kv) ++ ((wAR G akp 12 kp))))))) := xf_D (xf_p_6_0125_34 (wAR G aka 60 ka) (wAR G akr 24 kr) (wAR G akc 1 kc) (wAR G ake 60 ke) (wAR G akv 36 kv) (wAR G akp 12 kp)).symm (show va_D A (((wAR G aka 60 ka) ++ ((wAR G akr 24 kr) ++ ((wAR G akc 1 kc) ++ ((wAR G akp 12 kp))))) ++ ((wAR G ake 60 ke) ++ ((wAR G akv 36 kv)))) from hD)
                refine lv_istore (lv' := [(13, .int o38), (12, .int x12_34), (11, .int x11_34), (10, .int w10), (8, .int w2), (0, .ref aka), (3, .ref ake), (4, .ref akv), (6, .int i6), (7, .int i7)]) hx hb dL_isBusy_285 hl (by decide) rfl (fun ls hl => ?_)
                refine lv_iload hx hb dL_isBusy_287 (lv_at hl 2 rfl) ?_
                refine lv_if_ne (tgt := 341) hx hb dL_isBusy_289 (by decide) (fun c39 => ?_) (fun c39 => ?_)
                · have h := sp_f c39 h
                  refine lv_iconst (v := (1 : Int32)) hx hb dL_isBusy_341 (by decide) ?_
                  refine lv_goto (tgt := 346) hx hb dL_isBusy_342 (by decide) ?_
                  refine lv_istore (lv' := [(11, .int (1 : Int32)), (13, .int o38), (12, .int x12_34), (10, .int w10), (8, .int w2), (0, .ref aka), (3, .ref ake), (4, .ref akv), (6, .int i6), (7, .int i7)]) hx hb dL_isBusy_346 hl (by decide) rfl (fun ls hl => ?_)
                  refine lv_iinc (v := (x12_34 + (1 : Int32))) (lv' := [(12, .int (x12_34 + (1 : Int32))), (11, .int (1 : Int32)), (13, .int o38), (10, .int w10), (8, .int w2), (0, .ref aka), (3, .ref ake), (4, .ref akv), (6, .int i6), (7, .int i7)]) hx hb dL_isBusy_348 hl (k := 2) rfl rfl (by decide) rfl (fun ls hl => ?_)
                  refine lv_goto (tgt := 265) hx hb dL_isBusy_351 (by decide) ?_
                  exact ih_34 ((x12_34 + (1 : Int32)), (1 : Int32)) h _ _ hP hD hS _ (lv_sub hl [0, 1, 3, 4, 5, 6, 7, 8, 9] rfl)
                · have h := sp_t c39 h
                  refine lv_iload hx hb dL_isBusy_292 (lv_at hl 0 rfl) ?_
                  refine lv_if_lt (tgt := 345) hx hb dL_isBusy_294 (by decide) (fun c40 => ?_) (fun c40 => ?_)
                  · have h := sp_t c40 h
                    refine lv_iconst (v := (0 : Int32)) hx hb dL_isBusy_345 (by decide) ?_
                    refine lv_istore (lv' := [(11, .int (0 : Int32)), (13, .int o38), (12, .int x12_34), (10, .int w10), (8, .int w2), (0, .ref aka), (3, .ref ake), (4, .ref akv), (6, .int i6), (7, .int i7)]) hx hb dL_isBusy_346 hl (by decide) rfl (fun ls hl => ?_)
                    refine lv_iinc (v := (x12_34 + (1 : Int32))) (lv' := [(12, .int (x12_34 + (1 : Int32))), (11, .int (0 : Int32)), (13, .int o38), (10, .int w10), (8, .int w2), (0, .ref aka), (3, .ref ake), (4, .ref akv), (6, .int i6), (7, .int i7)]) hx hb dL_isBusy_348 hl (k := 2) rfl rfl (by decide) rfl (fun ls hl => ?_)
                    refine lv_goto (tgt := 265) hx hb dL_isBusy_351 (by decide) ?_
                    exact ih_34 ((x12_34 + (1 : Int32)), (0 : Int32)) h _ _ hP hD hS _ (lv_sub hl [0, 1, 3, 4, 5, 6, 7, 8, 9] rfl)
                  · have h := sp_f c40 h
                    refine lv_iload hx hb dL_isBusy_297 (lv_at hl 0 rfl) ?_
                    refine lv_bipush (v := (100 : Int32)) hx hb dL_isBusy_299 (by decide) ?_
                    refine lv_icmp_ge (tgt := 345) hx hb dL_isBusy_301 (by decide) (fun c41 => ?_) (fun c41 => ?_)
                    · have h := sp_t c41 h
                      refine lv_iconst (v := (0 : Int32)) hx hb dL_isBusy_345 (by decide) ?_
                      refine lv_istore (lv' := [(11, .int (0 : Int32)), (13, .int o38), (12, .int x12_34), (10, .int w10), (8, .int w2), (0, .ref aka), (3, .ref ake), (4, .ref akv), (6, .int i6), (7, .int i7)]) hx hb dL_isBusy_346 hl (by decide) rfl (fun ls hl => ?_)
                      refine lv_iinc (v := (x12_34 + (1 : Int32))) (lv' := [(12, .int (x12_34 + (1 : Int32))), (11, .int (0 : Int32)), (13, .int o38), (10, .int w10), (8, .int w2), (0, .ref aka), (3, .ref ake), (4, .ref akv), (6, .int i6), (7, .int i7)]) hx hb dL_isBusy_348 hl (k := 2) rfl rfl (by decide) rfl (fun ls hl => ?_)
                      refine lv_goto (tgt := 265) hx hb dL_isBusy_351 (by decide) ?_
                      exact ih_34 ((x12_34 + (1 : Int32)), (0 : Int32)) h _ _ hP hD hS _ (lv_sub hl [0, 1, 3, 4, 5, 6, 7, 8, 9] rfl)
                    · have h := sp_f c41 h
                      refine lv_iload hx hb dL_isBusy_304 (lv_at hl 0 rfl) ?_
                      refine lv_iload hx hb dL_isBusy_306 (lv_at hl 4 rfl) ?_
                      refine lv_icmp_eq (tgt := 345) hx hb dL_isBusy_308 (by decide) (fun c42 => ?_) (fun c42 => ?_)
                      · have h := sp_t c42 h
                        refine lv_iconst (v := (0 : Int32)) hx hb dL_isBusy_345 (by decide) ?_
                        refine lv_istore (lv' := [(11, .int (0 : Int32)), (13, .int o38), (12, .int x12_34), (10, .int w10), (8, .int w2), (0, .ref aka), (3, .ref ake), (4, .ref akv), (6, .int i6), (7, .int i7)]) hx hb dL_isBusy_346 hl (by decide) rfl (fun ls hl => ?_)
                        refine lv_iinc (v := (x12_34 + (1 : Int32))) (lv' := [(12, .int (x12_34 + (1 : Int32))), (11, .int (0 : Int32)), (13, .int o38), (10, .int w10), (8, .int w2), (0, .ref aka), (3, .ref ake), (4, .ref akv), (6, .int i6), (7, .int i7)]) hx hb dL_isBusy_348 hl (k := 2) rfl rfl (by decide) rfl (fun ls hl => ?_)
                        refine lv_goto (tgt := 265) hx hb dL_isBusy_351 (by decide) ?_
                        exact ih_34 ((x12_34 + (1 : Int32)), (0 : Int32)) h _ _ hP hD hS _ (lv_sub hl [0, 1, 3, 4, 5, 6, 7, 8, 9] rfl)
                      · have h := sp_f c42 h
                        refine lv_aload_n hx hb dL_isBusy_311 rfl (lv_at hl 5 rfl) ?_
                        refine lv_iconst (v := (5 : Int32)) hx hb dL_isBusy_312 (by decide) ?_
                        refine lv_iload hx hb dL_isBusy_313 (lv_at hl 4 rfl) ?_
                        refine lv_imul hx hb dL_isBusy_315 ?_
                        refine lv_iconst (v := (3 : Int32)) hx hb dL_isBusy_316 (by decide) ?_
                        refine lv_iadd hx hb dL_isBusy_317 ?_
                        obtain ⟨hin43, h⟩ := sp_g h
                        refine va_iald hx hb hK hP 0 0 rfl rfl hin43 dL_isBusy_318 ?_
                        refine lv_if_lt (tgt := 345) hx hb dL_isBusy_319 (by decide) (fun c44 => ?_) (fun c44 => ?_)
                        · have h := sp_t c44 h
                          refine lv_iconst (v := (0 : Int32)) hx hb dL_isBusy_345 (by decide) ?_
                          refine lv_istore (lv' := [(11, .int (0 : Int32)), (13, .int o38), (12, .int x12_34), (10, .int w10), (8, .int w2), (0, .ref aka), (3, .ref ake), (4, .ref akv), (6, .int i6), (7, .int i7)]) hx hb dL_isBusy_346 hl (by decide) rfl (fun ls hl => ?_)
                          refine lv_iinc (v := (x12_34 + (1 : Int32))) (lv' := [(12, .int (x12_34 + (1 : Int32))), (11, .int (0 : Int32)), (13, .int o38), (10, .int w10), (8, .int w2), (0, .ref aka), (3, .ref ake), (4, .ref akv), (6, .int i6), (7, .int i7)]) hx hb dL_isBusy_348 hl (k := 2) rfl rfl (by decide) rfl (fun ls hl => ?_)
                          refine lv_goto (tgt := 265) hx hb dL_isBusy_351 (by decide) ?_
                          exact ih_34 ((x12_34 + (1 : Int32)), (0 : Int32)) h _ _ hP hD hS _ (lv_sub hl [0, 1, 3, 4, 5, 6, 7, 8, 9] rfl)
                        · have h := sp_f c44 h
                          refine lv_aload_n hx hb dL_isBusy_322 rfl (lv_at hl 5 rfl) ?_
                          refine lv_iconst (v := (5 : Int32)) hx hb dL_isBusy_323 (by decide) ?_
                          refine lv_iload hx hb dL_isBusy_324 (lv_at hl 0 rfl) ?_
                          refine lv_imul hx hb dL_isBusy_326 ?_
                          refine lv_iconst (v := (3 : Int32)) hx hb dL_isBusy_327 (by decide) ?_
                          refine lv_iadd hx hb dL_isBusy_328 ?_
                          obtain ⟨hin45, h⟩ := sp_g h
                          refine va_iald hx hb hK hP 0 0 rfl rfl hin45 dL_isBusy_329 ?_
                          refine lv_aload_n hx hb dL_isBusy_330 rfl (lv_at hl 5 rfl) ?_
                          refine lv_iconst (v := (5 : Int32)) hx hb dL_isBusy_331 (by decide) ?_
                          refine lv_iload hx hb dL_isBusy_332 (lv_at hl 4 rfl) ?_
                          refine lv_imul hx hb dL_isBusy_334 ?_
                          refine lv_iconst (v := (3 : Int32)) hx hb dL_isBusy_335 (by decide) ?_
                          refine lv_iadd hx hb dL_isBusy_336 ?_
                          refine va_iald hx hb hK hP 0 0 rfl rfl hin43 dL_isBusy_337 ?_
                          refine lv_icmp_ne (tgt := 345) hx hb dL_isBusy_338 (by decide) (fun c46 => ?_) (fun c46 => ?_)
                          · have h := sp_f c46 h
                            refine lv_iconst (v := (0 : Int32)) hx hb dL_isBusy_345 (by decide) ?_
                            refine lv_istore (lv' := [(11, .int (0 : Int32)), (13, .int o38), (12, .int x12_34), (10, .int w10), (8, .int w2), (0, .ref aka), (3, .ref ake), (4, .ref akv), (6, .int i6), (7, .int i7)]) hx hb dL_isBusy_346 hl (by decide) rfl (fun ls hl => ?_)
                            refine lv_iinc (v := (x12_34 + (1 : Int32))) (lv' := [(12, .int (x12_34 + (1 : Int32))), (11, .int (0 : Int32)), (13, .int o38), (10, .int w10), (8, .int w2), (0, .ref aka), (3, .ref ake), (4, .ref akv), (6, .int i6), (7, .int i7)]) hx hb dL_isBusy_348 hl (k := 2) rfl rfl (by decide) rfl (fun ls hl => ?_)
                            refine lv_goto (tgt := 265) hx hb dL_isBusy_351 (by decide) ?_
                            exact ih_34 ((x12_34 + (1 : Int32)), (0 : Int32)) h _ _ hP hD hS _ (lv_sub hl [0, 1, 3, 4, 5, 6, 7, 8, 9] rfl)
                          · have h := sp_t c46 h
                            refine lv_iconst (v := (1 : Int32)) hx hb dL_isBusy_341 (by decide) ?_
                            refine lv_goto (tgt := 346) hx hb dL_isBusy_342 (by decide) ?_
                            refine lv_istore (lv' := [(11, .int (1 : Int32)), (13, .int o38), (12, .int x12_34), (10, .int w10), (8, .int w2), (0, .ref aka), (3, .ref ake), (4, .ref akv), (6, .int i6), (7, .int i7)]) hx hb dL_isBusy_346 hl (by decide) rfl (fun ls hl => ?_)
                            refine lv_iinc (v := (x12_34 + (1 : Int32))) (lv' := [(12, .int (x12_34 + (1 : Int32))), (11, .int (1 : Int32)), (13, .int o38), (10, .int w10), (8, .int w2), (0, .ref aka), (3, .ref ake), (4, .ref akv), (6, .int i6), (7, .int i7)]) hx hb dL_isBusy_348 hl (k := 2) rfl rfl (by decide) rfl (fun ls hl => ?_)
                            refine lv_goto (tgt := 265) hx hb dL_isBusy_351 (by decide) ?_
                            exact ih_34 ((x12_34 + (1 : Int32)), (1 : Int32)) h _ _ hP hD hS _ (lv_sub hl [0, 1, 3, 4, 5, 6, 7, 8, 9] rfl)
          · exact LL 300 (v33, (0 : Int32)) h _ _ hP hD hS _ (lv_sub hl [0, 1, 2, 3, 4, 5, 6, 7, 8] rfl)
      · have h := hv33
        clear hv33
        refine lv_icmp_ge (tgt := 259) hx hb dL_isBusy_252 (by decide) (fun c52 => ?_) (fun c52 => ?_)
        · have h := sp_t c52 h
          refine lv_iload hx hb dL_isBusy_259 (lv_at hl 6 rfl) ?_
          refine lv_iconst (v := (2 : Int32)) hx hb dL_isBusy_261 (by decide) ?_
          refine lv_isub hx hb dL_isBusy_262 ?_
          obtain rfl := sp_s h
          exact J33 _ _ hP hD hS _ (lv_sub hl [0, 1, 2, 3, 4, 5, 6, 7] rfl)
        · have h := sp_f c52 h
          refine lv_iconst (v := (0 : Int32)) hx hb dL_isBusy_255 (by decide) ?_
          refine lv_goto (tgt := 263) hx hb dL_isBusy_256 (by decide) ?_
          obtain rfl := sp_s h
          exact J33 _ _ hP hD hS _ (lv_sub hl [0, 1, 2, 3, 4, 5, 6, 7] rfl)
    · have h := hw10
      clear hw10
      refine xk_lp (α := Int32 × Int32 × Int32) G A s.heap (fun a_9 => ((wAR G aka 60 ka) ++ ((wAR G akr 24 kr) ++ ((wAR G akc 1 kc) ++ ((wAR G ake 60 ke) ++ ((wAR G akv 36 kv) ++ ((wAR G akp 12 kp)))))))) 17 (fun a_9 => [(11, .int a_9.1), (10, .int a_9.2.1), (9, .int a_9.2.2), (8, .int w2), (0, .ref aka), (1, .ref akr), (3, .ref ake), (4, .ref akv), (6, .int i6), (7, .int i7)]) 83 (fun n a_9 => f_L_isBusy_l83 ka kr ke kv i6 n a_9.1 a_9.2.1 a_9.2.2 = some w10) (fun a_9 h => ?_) (fun n ih_9 a_9 h H locs hP hD hS ls hl => ?_) (fun LL => ?_)
      · exact sp_n ((f_L_isBusy_l83_z _ _ _ _ _ _ _ _).symm.trans h)
      · obtain ⟨x11_9, x10_9, x9_9⟩ := a_9
        have h := (f_L_isBusy_l83_s ka kr ke kv i6 n x11_9 x10_9 x9_9).symm.trans h
        have hP : va_P G.1 vwCl ((wAR G aka 60 ka) ++ ((wAR G akr 24 kr) ++ ((wAR G akc 1 kc) ++ ((wAR G ake 60 ke) ++ ((wAR G akv 36 kv) ++ ((wAR G akp 12 kp))))))) H := hP
        have hD : va_D A ((wAR G aka 60 ka) ++ ((wAR G akr 24 kr) ++ ((wAR G akc 1 kc) ++ ((wAR G ake 60 ke) ++ ((wAR G akv 36 kv) ++ ((wAR G akp 12 kp))))))) := hD
        have hl : lv_has ls 17 [(11, .int x11_9), (10, .int x10_9), (9, .int x9_9), (8, .int w2), (0, .ref aka), (1, .ref akr), (3, .ref ake), (4, .ref akv), (6, .int i6), (7, .int i7)] := hl
        refine lv_iload hx hb dL_isBusy_83 (lv_at hl 0 rfl) ?_
        refine lv_if_lt (tgt := 246) hx hb dL_isBusy_85 (by decide) (fun c11 => ?_) (fun c11 => ?_)
        · have h := sp_t c11 h
          obtain rfl := sp_s h
          exact J9 _ _ hP hD hS _ (lv_sub hl [1, 3, 4, 6, 7, 8, 9] rfl)
        · have h := sp_f c11 h
          refine lv_aload_n hx hb dL_isBusy_88 rfl (lv_at hl 6 rfl) ?_
          refine lv_iconst (v := (5 : Int32)) hx hb dL_isBusy_89 (by decide) ?_
          refine lv_iload hx hb dL_isBusy_90 (lv_at hl 0 rfl) ?_
          refine lv_imul hx hb dL_isBusy_92 ?_
          refine lv_aload_n hx hb dL_isBusy_93 rfl (lv_at hl 4 rfl) ?_
          refine lv_iconst (v := (5 : Int32)) hx hb dL_isBusy_94 (by decide) ?_
          refine lv_iload hx hb dL_isBusy_95 (lv_at hl 0 rfl) ?_
          refine lv_imul hx hb dL_isBusy_97 ?_
          obtain ⟨hin12, h⟩ := sp_g h
          refine va_iald hx hb hK hP 0 0 rfl rfl hin12 dL_isBusy_98 ?_
          refine lv_iadd hx hb dL_isBusy_99 ?_
          refine lv_iconst (v := (1 : Int32)) hx hb dL_isBusy_100 (by decide) ?_
          refine lv_isub hx hb dL_isBusy_101 ?_
          obtain ⟨hin13, h⟩ := sp_g h
          refine va_iald hx hb hK hP 3 0 rfl rfl hin13 dL_isBusy_102 ?_
          refine lv_istore (lv' := [(12, .int (ke ((((5 : Int32) * x11_9) + (ka ((5 : Int32) * x11_9).toNatClampNeg)) - (1 : Int32)).toNatClampNeg)), (11, .int x11_9), (10, .int x10_9), (9, .int x9_9), (8, .int w2), (0, .ref aka), (1, .ref akr), (3, .ref ake), (4, .ref akv), (6, .int i6), (7, .int i7)]) hx hb dL_isBusy_103 hl (by decide) rfl (fun ls hl => ?_)
          refine lv_iconst (v := (0 : Int32)) hx hb dL_isBusy_105 (by decide) ?_
          refine lv_istore (lv' := [(13, .int (0 : Int32)), (12, .int (ke ((((5 : Int32) * x11_9) + (ka ((5 : Int32) * x11_9).toNatClampNeg)) - (1 : Int32)).toNatClampNeg)), (11, .int x11_9), (10, .int x10_9), (9, .int x9_9), (8, .int w2), (0, .ref aka), (1, .ref akr), (3, .ref ake), (4, .ref akv), (6, .int i6), (7, .int i7)]) hx hb dL_isBusy_106 hl (by decide) rfl (fun ls hl => ?_)
          obtain ⟨w15, hw15, h⟩ := sp_b h
          refine xk_jn G A s.heap ((wAR G aka 60 ka) ++ ((wAR G akr 24 kr) ++ ((wAR G akc 1 kc) ++ ((wAR G ake 60 ke) ++ ((wAR G akv 36 kv) ++ ((wAR G akp 12 kp))))))) 17 [(11, .int x11_9), (10, .int w15.1), (9, .int w15.2), (8, .int w2), (0, .ref aka), (1, .ref akr), (3, .ref ake), (4, .ref akv), (6, .int i6), (7, .int i7)] 240 [] (fun H locs hP hD hS ls hl => ?_) (fun J14 => ?_)
          · refine lv_iinc (v := (x11_9 + ((-1) : Int32))) (lv' := [(11, .int (x11_9 + ((-1) : Int32))), (10, .int w15.1), (9, .int w15.2), (8, .int w2), (0, .ref aka), (1, .ref akr), (3, .ref ake), (4, .ref akv), (6, .int i6), (7, .int i7)]) hx hb dL_isBusy_240 hl (k := 0) rfl rfl (by decide) rfl (fun ls hl => ?_)
            refine lv_goto (tgt := 83) hx hb dL_isBusy_243 (by decide) ?_
            exact ih_9 ((x11_9 + ((-1) : Int32)), w15.1, w15.2) h _ _ hP hD hS _ (lv_sub hl [0, 1, 2, 3, 4, 5, 6, 7, 8, 9] rfl)
          · have h := hw15
            clear hw15
            refine xk_lp (α := Int32 × Int32 × Int32 × Int32) G A s.heap (fun a_14 => ((wAR G aka 60 ka) ++ ((wAR G akr 24 kr) ++ ((wAR G akc 1 kc) ++ ((wAR G ake 60 ke) ++ ((wAR G akv 36 kv) ++ ((wAR G akp 12 kp)))))))) 17 (fun a_14 => [(13, .int a_14.1), (12, .int a_14.2.1), (11, .int x11_9), (10, .int a_14.2.2.1), (9, .int a_14.2.2.2), (8, .int w2), (0, .ref aka), (1, .ref akr), (3, .ref ake), (4, .ref akv), (6, .int i6), (7, .int i7)]) 108 (fun n a_14 => f_L_isBusy_l108 kr kv i6 x11_9 n a_14.1 a_14.2.1 a_14.2.2.1 a_14.2.2.2 = some w15) (fun a_14 h => ?_) (fun n ih_14 a_14 h H locs hP hD hS ls hl => ?_) (fun LL => ?_)
            · exact sp_n ((f_L_isBusy_l108_z _ _ _ _ _ _ _ _).symm.trans h)
            · obtain ⟨x13_14, x12_14, x10_14, x9_14⟩ := a_14
              have h := (f_L_isBusy_l108_s kr kv i6 x11_9 n x13_14 x12_14 x10_14 x9_14).symm.trans h
              have hP : va_P G.1 vwCl ((wAR G aka 60 ka) ++ ((wAR G akr 24 kr) ++ ((wAR G akc 1 kc) ++ ((wAR G ake 60 ke) ++ ((wAR G akv 36 kv) ++ ((wAR G akp 12 kp))))))) H := hP
              have hD : va_D A ((wAR G aka 60 ka) ++ ((wAR G akr 24 kr) ++ ((wAR G akc 1 kc) ++ ((wAR G ake 60 ke) ++ ((wAR G akv 36 kv) ++ ((wAR G akp 12 kp))))))) := hD
              have hl : lv_has ls 17 [(13, .int x13_14), (12, .int x12_14), (11, .int x11_9), (10, .int x10_14), (9, .int x9_14), (8, .int w2), (0, .ref aka), (1, .ref akr), (3, .ref ake), (4, .ref akv), (6, .int i6), (7, .int i7)] := hl
              refine lv_iload hx hb dL_isBusy_108 (lv_at hl 0 rfl) ?_
              refine lv_aload_n hx hb dL_isBusy_110 rfl (lv_at hl 7 rfl) ?_
              refine lv_iconst (v := (2 : Int32)) hx hb dL_isBusy_111 (by decide) ?_
              refine lv_iload hx hb dL_isBusy_112 (lv_at hl 2 rfl) ?_
              refine lv_imul hx hb dL_isBusy_114 ?_
              obtain ⟨hin16, h⟩ := sp_g h
              refine va_iald hx hb hK hP 1 0 rfl rfl hin16 dL_isBusy_115 ?_
              refine lv_icmp_ge (tgt := 240) hx hb dL_isBusy_116 (by decide) (fun c17 => ?_) (fun c17 => ?_)
              · have h := sp_t c17 h
                obtain rfl := sp_s h
                exact J14 _ _ hP hD hS _ (lv_sub hl [2, 3, 4, 5, 6, 7, 8, 9, 10, 11] rfl)
              · have h := sp_f c17 h
                refine lv_iload hx hb dL_isBusy_119 (lv_at hl 1 rfl) ?_
                refine lv_if_lt (tgt := 240) hx hb dL_isBusy_121 (by decide) (fun c18 => ?_) (fun c18 => ?_)
                · have h := sp_t c18 h
                  obtain rfl := sp_s h
                  exact J14 _ _ hP hD hS _ (lv_sub hl [2, 3, 4, 5, 6, 7, 8, 9, 10, 11] rfl)
                · have h := sp_f c18 h
                  refine lv_iload hx hb dL_isBusy_124 (lv_at hl 1 rfl) ?_
                  refine lv_iload hx hb dL_isBusy_126 (lv_at hl 10 rfl) ?_
                  refine lv_icmp_ge (tgt := 240) hx hb dL_isBusy_128 (by decide) (fun c19 => ?_) (fun c19 => ?_)
                  · have h := sp_t c19 h
                    obtain rfl := sp_s h
                    exact J14 _ _ hP hD hS _ (lv_sub hl [2, 3, 4, 5, 6, 7, 8, 9, 10, 11] rfl)
                  · have h := sp_f c19 h
                    refine lv_aload hx hb dL_isBusy_131 (lv_at hl 9 rfl) ?_
                    refine lv_iconst (v := (3 : Int32)) hx hb dL_isBusy_133 (by decide) ?_
                    refine lv_iload hx hb dL_isBusy_134 (lv_at hl 2 rfl) ?_
                    refine lv_imul hx hb dL_isBusy_136 ?_
                    refine lv_iload hx hb dL_isBusy_137 (lv_at hl 0 rfl) ?_
                    refine lv_iadd hx hb dL_isBusy_139 ?_
                    obtain ⟨hin20, h⟩ := sp_g h
                    refine va_iald hx hb hK hP 4 0 rfl rfl hin20 dL_isBusy_140 ?_
                    refine lv_istore (lv' := [(14, .int (kv (((3 : Int32) * x11_9) + x13_14).toNatClampNeg)), (13, .int x13_14), (12, .int x12_14), (11, .int x11_9), (10, .int x10_14), (9, .int x9_14), (8, .int w2), (0, .ref aka), (1, .ref akr), (3, .ref ake), (4, .ref akv), (6, .int i6), (7, .int i7)]) hx hb dL_isBusy_141 hl (by decide) rfl (fun ls hl => ?_)
                    refine lv_aload_n hx hb dL_isBusy_143 rfl (lv_at hl 8 rfl) ?_
                    refine lv_iconst (v := (2 : Int32)) hx hb dL_isBusy_144 (by decide) ?_
                    refine lv_iload hx hb dL_isBusy_145 (lv_at hl 3 rfl) ?_
                    refine lv_imul hx hb dL_isBusy_147 ?_
                    refine lv_iconst (v := (1 : Int32)) hx hb dL_isBusy_148 (by decide) ?_
                    refine lv_iadd hx hb dL_isBusy_149 ?_
                    obtain ⟨hin21, h⟩ := sp_g h
                    refine va_iald hx hb hK hP 1 0 rfl rfl hin21 dL_isBusy_150 ?_
                    refine lv_iload hx hb dL_isBusy_151 (lv_at hl 1 rfl) ?_
                    refine lv_ishl hx hb dL_isBusy_153 ?_
                    refine lv_istore (lv' := [(15, .int ((kr (((2 : Int32) * x11_9) + (1 : Int32)).toNatClampNeg) <<< (x13_14 &&& 31))), (14, .int (kv (((3 : Int32) * x11_9) + x13_14).toNatClampNeg)), (13, .int x13_14), (12, .int x12_14), (11, .int x11_9), (10, .int x10_14), (9, .int x9_14), (8, .int w2), (0, .ref aka), (1, .ref akr), (3, .ref ake), (4, .ref akv), (6, .int i6), (7, .int i7)]) hx hb dL_isBusy_154 hl (by decide) rfl (fun ls hl => ?_)
                    refine lv_iload hx hb dL_isBusy_156 (lv_at hl 1 rfl) ?_
                    obtain ⟨v22, hv22, h⟩ := sp_b h
                    refine xk_jn G A s.heap ((wAR G aka 60 ka) ++ ((wAR G akr 24 kr) ++ ((wAR G akc 1 kc) ++ ((wAR G ake 60 ke) ++ ((wAR G akv 36 kv) ++ ((wAR G akp 12 kp))))))) 17 [(15, .int ((kr (((2 : Int32) * x11_9) + (1 : Int32)).toNatClampNeg) <<< (x13_14 &&& 31))), (14, .int (kv (((3 : Int32) * x11_9) + x13_14).toNatClampNeg)), (13, .int x13_14), (12, .int x12_14), (11, .int x11_9), (10, .int x10_14), (9, .int x9_14), (8, .int w2), (0, .ref aka), (1, .ref akr), (3, .ref ake), (4, .ref akv), (6, .int i6), (7, .int i7)] 195 [.int v22] (fun H locs hP hD hS ls hl => ?_) (fun J22 => ?_)
                    · refine lv_istore (lv' := [(16, .int v22), (15, .int ((kr (((2 : Int32) * x11_9) + (1 : Int32)).toNatClampNeg) <<< (x13_14 &&& 31))), (14, .int (kv (((3 : Int32) * x11_9) + x13_14).toNatClampNeg)), (13, .int x13_14), (12, .int x12_14), (11, .int x11_9), (10, .int x10_14), (9, .int x9_14), (8, .int w2), (0, .ref aka), (1, .ref akr), (3, .ref ake), (4, .ref akv), (6, .int i6), (7, .int i7)]) hx hb dL_isBusy_195 hl (by decide) rfl (fun ls hl => ?_)
                      refine lv_iload hx hb dL_isBusy_197 (lv_at hl 0 rfl) ?_
                      obtain ⟨v23, hv23, h⟩ := sp_b h
                      refine xk_jn G A s.heap ((wAR G aka 60 ka) ++ ((wAR G akr 24 kr) ++ ((wAR G akc 1 kc) ++ ((wAR G ake 60 ke) ++ ((wAR G akv 36 kv) ++ ((wAR G akp 12 kp))))))) 17 [(16, .int v22), (15, .int ((kr (((2 : Int32) * x11_9) + (1 : Int32)).toNatClampNeg) <<< (x13_14 &&& 31))), (14, .int (kv (((3 : Int32) * x11_9) + x13_14).toNatClampNeg)), (13, .int x13_14), (12, .int x12_14), (11, .int x11_9), (9, .int x9_14), (8, .int w2), (0, .ref aka), (1, .ref akr), (3, .ref ake), (4, .ref akv), (6, .int i6), (7, .int i7)] 209 [.int v23] (fun H locs hP hD hS ls hl => ?_) (fun J23 => ?_)
                      · refine lv_istore (lv' := [(10, .int v23), (16, .int v22), (15, .int ((kr (((2 : Int32) * x11_9) + (1 : Int32)).toNatClampNeg) <<< (x13_14 &&& 31))), (14, .int (kv (((3 : Int32) * x11_9) + x13_14).toNatClampNeg)), (13, .int x13_14), (12, .int x12_14), (11, .int x11_9), (9, .int x9_14), (8, .int w2), (0, .ref aka), (1, .ref akr), (3, .ref ake), (4, .ref akv), (6, .int i6), (7, .int i7)]) hx hb dL_isBusy_209 hl (by decide) rfl (fun ls hl => ?_)
                        refine lv_iload hx hb dL_isBusy_211 (lv_at hl 1 rfl) ?_
                        obtain ⟨v24, hv24, h⟩ := sp_b h
                        refine xk_jn G A s.heap ((wAR G aka 60 ka) ++ ((wAR G akr 24 kr) ++ ((wAR G akc 1 kc) ++ ((wAR G ake 60 ke) ++ ((wAR G akv 36 kv) ++ ((wAR G akp 12 kp))))))) 17 [(10, .int v23), (14, .int (kv (((3 : Int32) * x11_9) + x13_14).toNatClampNeg)), (13, .int x13_14), (11, .int x11_9), (8, .int w2), (0, .ref aka), (1, .ref akr), (3, .ref ake), (4, .ref akv), (6, .int i6), (7, .int i7)] 228 [.int v24] (fun H locs hP hD hS ls hl => ?_) (fun J24 => ?_)
                        · refine lv_istore (lv' := [(9, .int v24), (10, .int v23), (14, .int (kv (((3 : Int32) * x11_9) + x13_14).toNatClampNeg)), (13, .int x13_14), (11, .int x11_9), (8, .int w2), (0, .ref aka), (1, .ref akr), (3, .ref ake), (4, .ref akv), (6, .int i6), (7, .int i7)]) hx hb dL_isBusy_228 hl (by decide) rfl (fun ls hl => ?_)
                          refine lv_iload hx hb dL_isBusy_230 (lv_at hl 2 rfl) ?_
                          refine lv_istore (lv' := [(12, .int (kv (((3 : Int32) * x11_9) + x13_14).toNatClampNeg)), (9, .int v24), (10, .int v23), (14, .int (kv (((3 : Int32) * x11_9) + x13_14).toNatClampNeg)), (13, .int x13_14), (11, .int x11_9), (8, .int w2), (0, .ref aka), (1, .ref akr), (3, .ref ake), (4, .ref akv), (6, .int i6), (7, .int i7)]) hx hb dL_isBusy_232 hl (by decide) rfl (fun ls hl => ?_)
                          refine lv_iinc (v := (x13_14 + (1 : Int32))) (lv' := [(13, .int (x13_14 + (1 : Int32))), (12, .int (kv (((3 : Int32) * x11_9) + x13_14).toNatClampNeg)), (9, .int v24), (10, .int v23), (14, .int (kv (((3 : Int32) * x11_9) + x13_14).toNatClampNeg)), (11, .int x11_9), (8, .int w2), (0, .ref aka), (1, .ref akr), (3, .ref ake), (4, .ref akv), (6, .int i6), (7, .int i7)]) hx hb dL_isBusy_234 hl (k := 4) rfl rfl (by decide) rfl (fun ls hl => ?_)
                          refine lv_goto (tgt := 108) hx hb dL_isBusy_237 (by decide) ?_
                          exact ih_14 ((x13_14 + (1 : Int32)), (kv (((3 : Int32) * x11_9) + x13_14).toNatClampNeg), v23, v24) h _ _ hP hD hS _ (lv_sub hl [0, 1, 5, 3, 2, 6, 7, 8, 9, 10, 11, 12] rfl)
                        · have h := hv24
                          clear hv24
                          refine lv_if_eq (tgt := 226) hx hb dL_isBusy_213 (by decide) (fun c25 => ?_) (fun c25 => ?_)
                          · have h := sp_t c25 h
                            refine lv_iload hx hb dL_isBusy_226 (lv_at hl 7 rfl) ?_
                            obtain rfl := sp_s h
                            exact J24 _ _ hP hD hS _ (lv_sub hl [0, 3, 4, 6, 8, 9, 10, 11, 12, 13, 14] rfl)
                          · have h := sp_f c25 h
                            refine lv_iload hx hb dL_isBusy_216 (lv_at hl 5 rfl) ?_
                            refine lv_iconst (v := (2 : Int32)) hx hb dL_isBusy_218 (by decide) ?_
                            refine lv_iload hx hb dL_isBusy_219 (lv_at hl 2 rfl) ?_
                            refine lv_imul hx hb dL_isBusy_221 ?_
                            refine lv_iadd hx hb dL_isBusy_222 ?_
                            refine lv_goto (tgt := 228) hx hb dL_isBusy_223 (by decide) ?_
                            obtain rfl := sp_s h
                            exact J24 _ _ hP hD hS _ (lv_sub hl [0, 3, 4, 6, 8, 9, 10, 11, 12, 13, 14] rfl)
                      · have h := hv23
                        clear hv23
                        refine lv_if_eq (tgt := 207) hx hb dL_isBusy_199 (by decide) (fun c26 => ?_) (fun c26 => ?_)
                        · have h := sp_t c26 h
                          refine lv_iload hx hb dL_isBusy_207 (lv_at hl 6 rfl) ?_
                          obtain rfl := sp_s h
                          exact J23 _ _ hP hD hS _ (lv_sub hl [0, 1, 2, 3, 4, 5, 7, 8, 9, 10, 11, 12, 13, 14] rfl)
                        · have h := sp_f c26 h
                          refine lv_iload hx hb dL_isBusy_202 (lv_at hl 5 rfl) ?_
                          refine lv_goto (tgt := 209) hx hb dL_isBusy_204 (by decide) ?_
                          obtain rfl := sp_s h
                          exact J23 _ _ hP hD hS _ (lv_sub hl [0, 1, 2, 3, 4, 5, 7, 8, 9, 10, 11, 12, 13, 14] rfl)
                    · have h := hv22
                      clear hv22
                      refine lv_if_lt (tgt := 168) hx hb dL_isBusy_158 (by decide) (fun c27 => ?_) (fun c27 => ?_)
                      · have h := sp_t c27 h
                        refine lv_iload hx hb dL_isBusy_168 (lv_at hl 3 rfl) ?_
                        refine lv_iload hx hb dL_isBusy_170 (lv_at hl 0 rfl) ?_
                        refine lv_iadd hx hb dL_isBusy_172 ?_
                        refine lv_iload hx hb dL_isBusy_173 (lv_at hl 12 rfl) ?_
                        refine lv_icmp_gt (tgt := 194) hx hb dL_isBusy_175 (by decide) (fun c28 => ?_) (fun c28 => ?_)
                        · have h := sp_t c28 h
                          refine lv_iconst (v := (0 : Int32)) hx hb dL_isBusy_194 (by decide) ?_
                          obtain rfl := sp_s h
                          exact J22 _ _ hP hD hS _ (lv_sub hl [0, 1, 2, 3, 4, 5, 6, 7, 8, 9, 10, 11, 12, 13] rfl)
                        · have h := sp_f c28 h
                          refine lv_iload hx hb dL_isBusy_178 (lv_at hl 3 rfl) ?_
                          refine lv_iconst (v := (2 : Int32)) hx hb dL_isBusy_180 (by decide) ?_
                          refine lv_iload hx hb dL_isBusy_181 (lv_at hl 0 rfl) ?_
                          refine lv_imul hx hb dL_isBusy_183 ?_
                          refine lv_iadd hx hb dL_isBusy_184 ?_
                          refine lv_iload hx hb dL_isBusy_185 (lv_at hl 6 rfl) ?_
                          refine lv_icmp_gt (tgt := 194) hx hb dL_isBusy_187 (by decide) (fun c29 => ?_) (fun c29 => ?_)
                          · have h := sp_t c29 h
                            refine lv_iconst (v := (0 : Int32)) hx hb dL_isBusy_194 (by decide) ?_
                            obtain rfl := sp_s h
                            exact J22 _ _ hP hD hS _ (lv_sub hl [0, 1, 2, 3, 4, 5, 6, 7, 8, 9, 10, 11, 12, 13] rfl)
                          · have h := sp_f c29 h
                            refine lv_iconst (v := (1 : Int32)) hx hb dL_isBusy_190 (by decide) ?_
                            refine lv_goto (tgt := 195) hx hb dL_isBusy_191 (by decide) ?_
                            obtain rfl := sp_s h
                            exact J22 _ _ hP hD hS _ (lv_sub hl [0, 1, 2, 3, 4, 5, 6, 7, 8, 9, 10, 11, 12, 13] rfl)
                      · have h := sp_f c27 h
                        refine lv_iload hx hb dL_isBusy_161 (lv_at hl 1 rfl) ?_
                        refine lv_iload hx hb dL_isBusy_163 (lv_at hl 12 rfl) ?_
                        refine lv_icmp_lt (tgt := 194) hx hb dL_isBusy_165 (by decide) (fun c30 => ?_) (fun c30 => ?_)
                        · have h := sp_t c30 h
                          refine lv_iconst (v := (0 : Int32)) hx hb dL_isBusy_194 (by decide) ?_
                          obtain rfl := sp_s h
                          exact J22 _ _ hP hD hS _ (lv_sub hl [0, 1, 2, 3, 4, 5, 6, 7, 8, 9, 10, 11, 12, 13] rfl)
                        · have h := sp_f c30 h
                          refine lv_iload hx hb dL_isBusy_168 (lv_at hl 3 rfl) ?_
                          refine lv_iload hx hb dL_isBusy_170 (lv_at hl 0 rfl) ?_
                          refine lv_iadd hx hb dL_isBusy_172 ?_
                          refine lv_iload hx hb dL_isBusy_173 (lv_at hl 12 rfl) ?_
                          refine lv_icmp_gt (tgt := 194) hx hb dL_isBusy_175 (by decide) (fun c31 => ?_) (fun c31 => ?_)
                          · have h := sp_t c31 h
                            refine lv_iconst (v := (0 : Int32)) hx hb dL_isBusy_194 (by decide) ?_
                            obtain rfl := sp_s h
                            exact J22 _ _ hP hD hS _ (lv_sub hl [0, 1, 2, 3, 4, 5, 6, 7, 8, 9, 10, 11, 12, 13] rfl)
                          · have h := sp_f c31 h
                            refine lv_iload hx hb dL_isBusy_178 (lv_at hl 3 rfl) ?_
                            refine lv_iconst (v := (2 : Int32)) hx hb dL_isBusy_180 (by decide) ?_
                            refine lv_iload hx hb dL_isBusy_181 (lv_at hl 0 rfl) ?_
                            refine lv_imul hx hb dL_isBusy_183 ?_
                            refine lv_iadd hx hb dL_isBusy_184 ?_
                            refine lv_iload hx hb dL_isBusy_185 (lv_at hl 6 rfl) ?_
                            refine lv_icmp_gt (tgt := 194) hx hb dL_isBusy_187 (by decide) (fun c32 => ?_) (fun c32 => ?_)
                            · have h := sp_t c32 h
                              refine lv_iconst (v := (0 : Int32)) hx hb dL_isBusy_194 (by decide) ?_
                              obtain rfl := sp_s h
                              exact J22 _ _ hP hD hS _ (lv_sub hl [0, 1, 2, 3, 4, 5, 6, 7, 8, 9, 10, 11, 12, 13] rfl)
                            · have h := sp_f c32 h
                              refine lv_iconst (v := (1 : Int32)) hx hb dL_isBusy_190 (by decide) ?_
                              refine lv_goto (tgt := 195) hx hb dL_isBusy_191 (by decide) ?_
                              obtain rfl := sp_s h
                              exact J22 _ _ hP hD hS _ (lv_sub hl [0, 1, 2, 3, 4, 5, 6, 7, 8, 9, 10, 11, 12, 13] rfl)
            · exact LL 300 ((0 : Int32), (ke ((((5 : Int32) * x11_9) + (ka ((5 : Int32) * x11_9).toNatClampNeg)) - (1 : Int32)).toNatClampNeg), x10_9, x9_9) h _ _ hP hD hS _ (lv_sub hl [0, 1, 2, 3, 4, 5, 6, 7, 8, 9, 10, 11] rfl)
      · exact LL 300 (((kc (0 : Int32).toNatClampNeg) - (1 : Int32)), ((-1) : Int32), (1000 : Int32)) h _ _ hP hD hS _ (lv_sub hl [0, 1, 2, 3, 4, 5, 7, 8, 9, 10] rfl)
  · have h := hw2
    clear hw2
    refine xk_lp (α := Int32 × Int32) G A s.heap (fun a_1 => ((wAR G aka 60 ka) ++ ((wAR G akr 24 kr) ++ ((wAR G akc 1 kc) ++ ((wAR G ake 60 ke) ++ ((wAR G akv 36 kv) ++ ((wAR G akp 12 kp)))))))) 17 (fun a_1 => [(9, .int a_1.1), (8, .int a_1.2), (0, .ref aka), (1, .ref akr), (2, .ref akc), (3, .ref ake), (4, .ref akv), (5, .ref akp), (6, .int i6), (7, .int i7)]) 10 (fun n a_1 => f_L_isBusy_l10 ka ke kp i6 n a_1.1 a_1.2 = some w2) (fun a_1 h => ?_) (fun n ih_1 a_1 h H locs hP hD hS ls hl => ?_) (fun LL => ?_)
    · exact sp_n ((f_L_isBusy_l10_z _ _ _ _ _ _).symm.trans h)
    · obtain ⟨x9_1, x8_1⟩ := a_1
      have h := (f_L_isBusy_l10_s ka ke kp i6 n x9_1 x8_1).symm.trans h
      have hP : va_P G.1 vwCl ((wAR G aka 60 ka) ++ ((wAR G akr 24 kr) ++ ((wAR G akc 1 kc) ++ ((wAR G ake 60 ke) ++ ((wAR G akv 36 kv) ++ ((wAR G akp 12 kp))))))) H := hP
      have hD : va_D A ((wAR G aka 60 ka) ++ ((wAR G akr 24 kr) ++ ((wAR G akc 1 kc) ++ ((wAR G ake 60 ke) ++ ((wAR G akv 36 kv) ++ ((wAR G akp 12 kp))))))) := hD
      have hl : lv_has ls 17 [(9, .int x9_1), (8, .int x8_1), (0, .ref aka), (1, .ref akr), (2, .ref akc), (3, .ref ake), (4, .ref akv), (5, .ref akp), (6, .int i6), (7, .int i7)] := hl
      refine lv_iload hx hb dL_isBusy_10 (lv_at hl 0 rfl) ?_
      refine lv_if_lt (tgt := 68) hx hb dL_isBusy_12 (by decide) (fun c3 => ?_) (fun c3 => ?_)
      · have h := sp_t c3 h
        obtain rfl := sp_s h
        exact J1 _ _ hP hD hS _ (lv_sub hl [1, 2, 3, 4, 5, 6, 8, 9] rfl)
      · have h := sp_f c3 h
        refine lv_aload_n hx hb dL_isBusy_15 rfl (lv_at hl 5 rfl) ?_
        refine lv_iconst (v := (5 : Int32)) hx hb dL_isBusy_16 (by decide) ?_
        refine lv_aload hx hb dL_isBusy_17 (lv_at hl 7 rfl) ?_
        refine lv_iload hx hb dL_isBusy_19 (lv_at hl 0 rfl) ?_
        obtain ⟨hin4, h⟩ := sp_g h
        refine va_iald hx hb hK hP 5 0 rfl rfl hin4 dL_isBusy_21 ?_
        refine lv_imul hx hb dL_isBusy_22 ?_
        refine lv_aload_n hx hb dL_isBusy_23 rfl (lv_at hl 2 rfl) ?_
        refine lv_iconst (v := (5 : Int32)) hx hb dL_isBusy_24 (by decide) ?_
        refine lv_aload hx hb dL_isBusy_25 (lv_at hl 7 rfl) ?_
        refine lv_iload hx hb dL_isBusy_27 (lv_at hl 0 rfl) ?_
        refine va_iald hx hb hK hP 5 0 rfl rfl hin4 dL_isBusy_29 ?_
        refine lv_imul hx hb dL_isBusy_30 ?_
        obtain ⟨hin5, h⟩ := sp_g h
        refine va_iald hx hb hK hP 0 0 rfl rfl hin5 dL_isBusy_31 ?_
        refine lv_iadd hx hb dL_isBusy_32 ?_
        refine lv_iconst (v := (1 : Int32)) hx hb dL_isBusy_33 (by decide) ?_
        refine lv_isub hx hb dL_isBusy_34 ?_
        obtain ⟨hin6, h⟩ := sp_g h
        refine va_iald hx hb hK hP 3 0 rfl rfl hin6 dL_isBusy_35 ?_
        refine lv_istore (lv' := [(10, .int (ke ((((5 : Int32) * (kp x9_1.toNatClampNeg)) + (ka ((5 : Int32) * (kp x9_1.toNatClampNeg)).toNatClampNeg)) - (1 : Int32)).toNatClampNeg)), (9, .int x9_1), (8, .int x8_1), (0, .ref aka), (1, .ref akr), (2, .ref akc), (3, .ref ake), (4, .ref akv), (5, .ref akp), (6, .int i6), (7, .int i7)]) hx hb dL_isBusy_36 hl (by decide) rfl (fun ls hl => ?_)
        refine lv_iload hx hb dL_isBusy_38 (lv_at hl 0 rfl) ?_
        refine lv_if_lt (tgt := 50) hx hb dL_isBusy_40 (by decide) (fun c7 => ?_) (fun c7 => ?_)
        · have h := sp_t c7 h
          refine lv_aload hx hb dL_isBusy_50 (lv_at hl 8 rfl) ?_
          refine lv_iload hx hb dL_isBusy_52 (lv_at hl 1 rfl) ?_
          refine va_iald hx hb hK hP 5 0 rfl rfl hin4 dL_isBusy_54 ?_
          refine lv_goto (tgt := 60) hx hb dL_isBusy_55 (by decide) ?_
          refine lv_istore (lv' := [(8, .int (kp x9_1.toNatClampNeg)), (10, .int (ke ((((5 : Int32) * (kp x9_1.toNatClampNeg)) + (ka ((5 : Int32) * (kp x9_1.toNatClampNeg)).toNatClampNeg)) - (1 : Int32)).toNatClampNeg)), (9, .int x9_1), (0, .ref aka), (1, .ref akr), (2, .ref akc), (3, .ref ake), (4, .ref akv), (5, .ref akp), (6, .int i6), (7, .int i7)]) hx hb dL_isBusy_60 hl (by decide) rfl (fun ls hl => ?_)
          refine lv_iinc (v := (x9_1 + ((-1) : Int32))) (lv' := [(9, .int (x9_1 + ((-1) : Int32))), (8, .int (kp x9_1.toNatClampNeg)), (10, .int (ke ((((5 : Int32) * (kp x9_1.toNatClampNeg)) + (ka ((5 : Int32) * (kp x9_1.toNatClampNeg)).toNatClampNeg)) - (1 : Int32)).toNatClampNeg)), (0, .ref aka), (1, .ref akr), (2, .ref akc), (3, .ref ake), (4, .ref akv), (5, .ref akp), (6, .int i6), (7, .int i7)]) hx hb dL_isBusy_62 hl (k := 2) rfl rfl (by decide) rfl (fun ls hl => ?_)
          refine lv_goto (tgt := 10) hx hb dL_isBusy_65 (by decide) ?_
          exact ih_1 ((x9_1 + ((-1) : Int32)), (kp x9_1.toNatClampNeg)) h _ _ hP hD hS _ (lv_sub hl [0, 1, 3, 4, 5, 6, 7, 8, 9, 10] rfl)
        · have h := sp_f c7 h
          refine lv_iload hx hb dL_isBusy_43 (lv_at hl 0 rfl) ?_
          refine lv_iload hx hb dL_isBusy_45 (lv_at hl 9 rfl) ?_
          refine lv_icmp_lt (tgt := 58) hx hb dL_isBusy_47 (by decide) (fun c8 => ?_) (fun c8 => ?_)
          · have h := sp_t c8 h
            refine lv_iload hx hb dL_isBusy_58 (lv_at hl 2 rfl) ?_
            refine lv_istore (lv' := [(8, .int x8_1), (10, .int (ke ((((5 : Int32) * (kp x9_1.toNatClampNeg)) + (ka ((5 : Int32) * (kp x9_1.toNatClampNeg)).toNatClampNeg)) - (1 : Int32)).toNatClampNeg)), (9, .int x9_1), (0, .ref aka), (1, .ref akr), (2, .ref akc), (3, .ref ake), (4, .ref akv), (5, .ref akp), (6, .int i6), (7, .int i7)]) hx hb dL_isBusy_60 hl (by decide) rfl (fun ls hl => ?_)
            refine lv_iinc (v := (x9_1 + ((-1) : Int32))) (lv' := [(9, .int (x9_1 + ((-1) : Int32))), (8, .int x8_1), (10, .int (ke ((((5 : Int32) * (kp x9_1.toNatClampNeg)) + (ka ((5 : Int32) * (kp x9_1.toNatClampNeg)).toNatClampNeg)) - (1 : Int32)).toNatClampNeg)), (0, .ref aka), (1, .ref akr), (2, .ref akc), (3, .ref ake), (4, .ref akv), (5, .ref akp), (6, .int i6), (7, .int i7)]) hx hb dL_isBusy_62 hl (k := 2) rfl rfl (by decide) rfl (fun ls hl => ?_)
            refine lv_goto (tgt := 10) hx hb dL_isBusy_65 (by decide) ?_
            exact ih_1 ((x9_1 + ((-1) : Int32)), x8_1) h _ _ hP hD hS _ (lv_sub hl [0, 1, 3, 4, 5, 6, 7, 8, 9, 10] rfl)
          · have h := sp_f c8 h
            refine lv_aload hx hb dL_isBusy_50 (lv_at hl 8 rfl) ?_
            refine lv_iload hx hb dL_isBusy_52 (lv_at hl 1 rfl) ?_
            refine va_iald hx hb hK hP 5 0 rfl rfl hin4 dL_isBusy_54 ?_
            refine lv_goto (tgt := 60) hx hb dL_isBusy_55 (by decide) ?_
            refine lv_istore (lv' := [(8, .int (kp x9_1.toNatClampNeg)), (10, .int (ke ((((5 : Int32) * (kp x9_1.toNatClampNeg)) + (ka ((5 : Int32) * (kp x9_1.toNatClampNeg)).toNatClampNeg)) - (1 : Int32)).toNatClampNeg)), (9, .int x9_1), (0, .ref aka), (1, .ref akr), (2, .ref akc), (3, .ref ake), (4, .ref akv), (5, .ref akp), (6, .int i6), (7, .int i7)]) hx hb dL_isBusy_60 hl (by decide) rfl (fun ls hl => ?_)
            refine lv_iinc (v := (x9_1 + ((-1) : Int32))) (lv' := [(9, .int (x9_1 + ((-1) : Int32))), (8, .int (kp x9_1.toNatClampNeg)), (10, .int (ke ((((5 : Int32) * (kp x9_1.toNatClampNeg)) + (ka ((5 : Int32) * (kp x9_1.toNatClampNeg)).toNatClampNeg)) - (1 : Int32)).toNatClampNeg)), (0, .ref aka), (1, .ref akr), (2, .ref akc), (3, .ref ake), (4, .ref akv), (5, .ref akp), (6, .int i6), (7, .int i7)]) hx hb dL_isBusy_62 hl (k := 2) rfl rfl (by decide) rfl (fun ls hl => ?_)
            refine lv_goto (tgt := 10) hx hb dL_isBusy_65 (by decide) ?_
            exact ih_1 ((x9_1 + ((-1) : Int32)), (kp x9_1.toNatClampNeg)) h _ _ hP hD hS _ (lv_sub hl [0, 1, 3, 4, 5, 6, 7, 8, 9, 10] rfl)
    · exact LL 300 (((kc (0 : Int32).toNatClampNeg) - (1 : Int32)), ((-1) : Int32)) h _ _ hP hD hS _ (lv_sub hl [0, 1, 2, 3, 4, 5, 6, 7, 8, 9] rfl)
